noncomputable def fX1_clear_L17 (N : Nat) : Nat → Int32 → (Nat → Int32) → (Nat → Int32) → Option ((Nat → Int32) × (Nat → Int32))
  | 0, _, _, _ => none
  | k + 1, x1, ft_rhythm, ft_rhythmLength => (if 5 ≤ x1 then some (ft_rhythm, ft_rhythmLength) else ck x1 5 (lt (x1 + 1) fun n3 => fX1_clear_L17 N k n3 (upd ft_rhythm (Int32.toNatClampNeg x1) 0) (upd ft_rhythmLength (Int32.toNatClampNeg x1) 0)))
theorem fX1_clear_L17_s (N : Nat) (k : Nat) (x1 : Int32) (ft_rhythm : Nat → Int32) (ft_rhythmLength : Nat → Int32) : fX1_clear_L17 N (k + 1) x1 ft_rhythm ft_rhythmLength = ((if 5 ≤ x1 then some (ft_rhythm, ft_rhythmLength) else ck x1 5 (lt (x1 + 1) fun n3 => fX1_clear_L17 N k n3 (upd ft_rhythm (Int32.toNatClampNeg x1) 0) (upd ft_rhythmLength (Int32.toNatClampNeg x1) 0)))) := rfl
noncomputable def fX1_clear (N : Nat) (it_kinds : Int32) (it_columns : Int32) (it_slugs : Int32) (ft_rhythm : Nat → Int32) (ft_rhythmLength : Nat → Int32) : Option (Int32 × Int32 × Int32 × (Nat → Int32) × (Nat → Int32)) := bd (fX1_clear_L17 N N 0 ft_rhythm ft_rhythmLength) fun (g5, g6) => some (0, 0, 0, g5, g6)
set_option maxHeartbeats 4000000 in
set_option maxRecDepth 100000 in
theorem ctX1_clear (l : Launch) (D : va_G) (cI cZ cB cS : ClassId) (kK kV : Nat → Nat) (sz : Nat) (qt qt_value qt_weight qt_slugWeight qt_rhythm qt_rhythmLength qt_paidBy : Nat) (it_kinds : Int32) (it_columns : Int32) (it_slugs : Int32) (ft_rhythm : Nat → Int32) (ft_rhythmLength : Nat → Int32)  (N : Nat) (w_it_kinds : Int32) (w_it_columns : Int32) (w_it_slugs : Int32) (w_ft_rhythm : Nat → Int32) (w_ft_rhythmLength : Nat → Int32) (h : fX1_clear N it_kinds it_columns it_slugs ft_rhythm ft_rhythmLength = some (w_it_kinds, w_it_columns, w_it_slugs, w_ft_rhythm, w_ft_rhythmLength)) : CtV l yX1_clear wsX1_clear { frames := 0, cells := 0, slots := 0, locals := 0 } D (TY cI cZ cB cS) kK kV [.ref qt] [(qt, .inr (1, [.ref qt_value, .ref qt_weight, .ref qt_slugWeight, .ref qt_rhythm, .ref qt_rhythmLength, .ref qt_paidBy, .int it_kinds, .int it_columns, .int it_slugs])), (qt_rhythm, .inl (cI, 5, .inl ft_rhythm)), (qt_rhythmLength, .inl (cI, 5, .inl ft_rhythmLength))] [(qt, .inr (1, [.ref qt_value, .ref qt_weight, .ref qt_slugWeight, .ref qt_rhythm, .ref qt_rhythmLength, .ref qt_paidBy, .int w_it_kinds, .int w_it_columns, .int w_it_slugs])), (qt_rhythm, .inl (cI, 5, .inl w_ft_rhythm)), (qt_rhythmLength, .inl (cI, 5, .inl w_ft_rhythmLength))] sz := by
  refine mkV (cc := cX1_clear) (maxL := 2) (own := RX1) (by decide) rfl rfl (Nat.le_of_ble_eq_true rfl) ?_
  intro p e s m args below meth c A Z ls hx hb hml hown hts hK hN hX hP hD hA hS hret hl
  have hl : lv_has ls 2 [(0, .ref qt)] := hl
  have fl21 : (Cond.fieldLink RX1 21 "SoupWall$Plan" "rhythm" "[I").before args s = true := hts _ (List.mem_of_getElem? (l := wsX1_clear) (i := 4) rfl)
  have hiX1 : ∀ w ∈ wsX10, w ∈ wsX1_clear := fun w h => List.mem_cons_of_mem _ (List.mem_append_right _ h)
  have fl24 : (Cond.fieldLink RX1 24 "SoupWall$Plan" "rhythmLength" "[I").before args s = true := hts _ (List.mem_of_getElem? (l := wsX1_clear) (i := 5) rfl)
  have fl30 : (Cond.fieldLink RX1 30 "SoupWall$Plan" "kinds" "I").before args s = true := hts _ (List.mem_of_getElem? (l := wsX1_clear) (i := 1) rfl)
  have fl34 : (Cond.fieldLink RX1 34 "SoupWall$Plan" "columns" "I").before args s = true := hts _ (List.mem_of_getElem? (l := wsX1_clear) (i := 2) rfl)
  have fl37 : (Cond.fieldLink RX1 37 "SoupWall$Plan" "slugs" "I").before args s = true := hts _ (List.mem_of_getElem? (l := wsX1_clear) (i := 3) rfl)
  have lp17 : ∀ (k : Nat) (x1 : Int32) (it_kinds : Int32) (it_columns : Int32) (it_slugs : Int32) (ft_rhythm : Nat → Int32) (ft_rhythmLength : Nat → Int32) (H : Heap) (locs : List Loc) (ls : Array Slot) (o : (Nat → Int32) × (Nat → Int32)), fX1_clear_L17 N k x1 ft_rhythm ft_rhythmLength = some o → va_P D vwCl [(qt, .inr (1, [.ref qt_value, .ref qt_weight, .ref qt_slugWeight, .ref qt_rhythm, .ref qt_rhythmLength, .ref qt_paidBy, .int it_kinds, .int it_columns, .int it_slugs])), (qt_rhythm, .inl (cI, 5, .inl ft_rhythm)), (qt_rhythmLength, .inl (cI, 5, .inl ft_rhythmLength))] H → va_S A s.heap H locs → lv_has ls 2 [(0, .ref qt), (1, .int x1)] → (∀ (e_ft_rhythm : Nat → Int32) (e_ft_rhythmLength : Nat → Int32), (e_ft_rhythm, e_ft_rhythmLength) = o → ∀ (H : Heap) (locs : List Loc) (ls : Array Slot), va_P D vwCl [(qt, .inr (1, [.ref qt_value, .ref qt_weight, .ref qt_slugWeight, .ref qt_rhythm, .ref qt_rhythmLength, .ref qt_paidBy, .int it_kinds, .int it_columns, .int it_slugs])), (qt_rhythm, .inl (cI, 5, .inl e_ft_rhythm)), (qt_rhythmLength, .inl (cI, 5, .inl e_ft_rhythmLength))] H → va_S A s.heap H locs → lv_has ls 2 [] → W p l e ({ frames := 0, cells := 0, slots := 0, locals := 0 } : Room) s m args below meth c H locs 0 0 Z (F0 m 42 ls [])) → W p l e ({ frames := 0, cells := 0, slots := 0, locals := 0 } : Room) s m args below meth c H locs 0 0 Z (F0 m 17 ls []) := by
    intro k
    induction k with
    | zero =>
      intro x1 it_kinds it_columns it_slugs ft_rhythm ft_rhythmLength H locs ls o h
      exact nomatch (show (none : Option ((Nat → Int32) × (Nat → Int32))) = some o from h)
    | succ k ih =>
      intro x1 it_kinds it_columns it_slugs ft_rhythm ft_rhythmLength H locs ls o h hP hS hl K
      rw [fX1_clear_L17_s] at h
      refine lv_iload_n hx hb dX1_clear_17 rfl (lv_at hl 1 rfl) ?_
      refine lv_iconst (v := 5) hx hb dX1_clear_18 (by decide) ?_
      refine lv_icmp_ge (tgt := 42) hx hb dX1_clear_19 (by decide) (fun c1 => ?_) (fun c1 => ?_)
      · replace h := if_t c1 h
        exact K ft_rhythm ft_rhythmLength (Option.some.inj h) _ _ _ hP hS (lv_sub hl [] rfl)
      · replace h := if_f c1 h
        refine lv_aload_n hx hb dX1_clear_22 rfl (lv_at hl 0 rfl) ?_
        refine va_get (ci := 1) (v := .ref qt_rhythm) (C := RX1) (T := TX1) (N := 9) hx hb hts hiX1 hown hK hP 0 rfl rfl 3 (by decide) fl21 (fun _ h9 => h9) rfl dX1_clear_23 ?_
        refine lv_iload_n hx hb dX1_clear_26 rfl (lv_at hl 1 rfl) ?_
        refine lv_iconst (v := 0) hx hb dX1_clear_27 (by decide) ?_
        replace h := ck_el h
        obtain ⟨hi2, h⟩ := h
        refine va_iast hx hb hK hP (dF hD rfl) hS 1 0 rfl rfl hi2 dX1_clear_28 (fun H locs hP _ hS => ?_)
        replace hP : va_P D vwCl [(qt, .inr (1, [.ref qt_value, .ref qt_weight, .ref qt_slugWeight, .ref qt_rhythm, .ref qt_rhythmLength, .ref qt_paidBy, .int it_kinds, .int it_columns, .int it_slugs])), (qt_rhythm, .inl (cI, 5, .inl (upd ft_rhythm (Int32.toNatClampNeg x1) 0))), (qt_rhythmLength, .inl (cI, 5, .inl ft_rhythmLength))] H := hP
        refine lv_aload_n hx hb dX1_clear_29 rfl (lv_at hl 0 rfl) ?_
        refine va_get (ci := 1) (v := .ref qt_rhythmLength) (C := RX1) (T := TX1) (N := 9) hx hb hts hiX1 hown hK hP 0 rfl rfl 4 (by decide) fl24 (fun _ h9 => h9) rfl dX1_clear_30 ?_
        refine lv_iload_n hx hb dX1_clear_33 rfl (lv_at hl 1 rfl) ?_
        refine lv_iconst (v := 0) hx hb dX1_clear_34 (by decide) ?_
        refine va_iast hx hb hK hP (dF hD rfl) hS 2 0 rfl rfl hi2 dX1_clear_35 (fun H locs hP _ hS => ?_)
        replace hP : va_P D vwCl [(qt, .inr (1, [.ref qt_value, .ref qt_weight, .ref qt_slugWeight, .ref qt_rhythm, .ref qt_rhythmLength, .ref qt_paidBy, .int it_kinds, .int it_columns, .int it_slugs])), (qt_rhythm, .inl (cI, 5, .inl (upd ft_rhythm (Int32.toNatClampNeg x1) 0))), (qt_rhythmLength, .inl (cI, 5, .inl (upd ft_rhythmLength (Int32.toNatClampNeg x1) 0)))] H := hP
        obtain ⟨n3, en3⟩ : ∃ z : Int32, z = x1 + 1 := ⟨_, rfl⟩
        replace h := lt_at en3 h
        refine lv_iinc (v := n3) (lv' := [(1, .int n3), (0, .ref qt)]) hx hb dX1_clear_36 hl (k := 1) rfl (by rw [en3]; rfl) (by decide) rfl (fun ls hl => ?_)
        refine lv_goto (tgt := 17) hx hb dX1_clear_39 (by decide) ?_
        exact ih n3 it_kinds it_columns it_slugs (upd ft_rhythm (Int32.toNatClampNeg x1) 0) (upd ft_rhythmLength (Int32.toNatClampNeg x1) 0) _ _ _ o h hP hS (lv_sub hl [1, 0] rfl) K
  unfold fX1_clear at h
  refine lv_aload_n hx hb dX1_clear_0 rfl (lv_at hl 0 rfl) ?_
  refine lv_iconst (v := 0) hx hb dX1_clear_1 (by decide) ?_
  refine va_put (ci := 1) (v := .int 0) (ty := .int) (C := RX1) (T := TX1) (N := 9) hx hb hts hiX1 tyX1 tyX1_ok nmX1 hown hK hP (dF hD rfl) hS 0 rfl rfl 6 (by decide) fl30 (fun _ h9 => h9) rfl (by decide +kernel) rfl rfl (Nat.le_of_ble_eq_true rfl) dX1_clear_2 (fun H locs hP _ hS => ?_)
  replace hP : va_P D vwCl [(qt, .inr (1, [.ref qt_value, .ref qt_weight, .ref qt_slugWeight, .ref qt_rhythm, .ref qt_rhythmLength, .ref qt_paidBy, .int 0, .int it_columns, .int it_slugs])), (qt_rhythm, .inl (cI, 5, .inl ft_rhythm)), (qt_rhythmLength, .inl (cI, 5, .inl ft_rhythmLength))] H := hP
  refine lv_aload_n hx hb dX1_clear_5 rfl (lv_at hl 0 rfl) ?_
  refine lv_iconst (v := 0) hx hb dX1_clear_6 (by decide) ?_
  refine va_put (ci := 1) (v := .int 0) (ty := .int) (C := RX1) (T := TX1) (N := 9) hx hb hts hiX1 tyX1 tyX1_ok nmX1 hown hK hP (dF hD rfl) hS 0 rfl rfl 7 (by decide) fl34 (fun _ h9 => h9) rfl (by decide +kernel) rfl rfl (Nat.le_of_ble_eq_true rfl) dX1_clear_7 (fun H locs hP _ hS => ?_)
  replace hP : va_P D vwCl [(qt, .inr (1, [.ref qt_value, .ref qt_weight, .ref qt_slugWeight, .ref qt_rhythm, .ref qt_rhythmLength, .ref qt_paidBy, .int 0, .int 0, .int it_slugs])), (qt_rhythm, .inl (cI, 5, .inl ft_rhythm)), (qt_rhythmLength, .inl (cI, 5, .inl ft_rhythmLength))] H := hP
  refine lv_aload_n hx hb dX1_clear_10 rfl (lv_at hl 0 rfl) ?_
  refine lv_iconst (v := 0) hx hb dX1_clear_11 (by decide) ?_
  refine va_put (ci := 1) (v := .int 0) (ty := .int) (C := RX1) (T := TX1) (N := 9) hx hb hts hiX1 tyX1 tyX1_ok nmX1 hown hK hP (dF hD rfl) hS 0 rfl rfl 8 (by decide) fl37 (fun _ h9 => h9) rfl (by decide +kernel) rfl rfl (Nat.le_of_ble_eq_true rfl) dX1_clear_12 (fun H locs hP _ hS => ?_)
  replace hP : va_P D vwCl [(qt, .inr (1, [.ref qt_value, .ref qt_weight, .ref qt_slugWeight, .ref qt_rhythm, .ref qt_rhythmLength, .ref qt_paidBy, .int 0, .int 0, .int 0])), (qt_rhythm, .inl (cI, 5, .inl ft_rhythm)), (qt_rhythmLength, .inl (cI, 5, .inl ft_rhythmLength))] H := hP
  refine lv_iconst (v := 0) hx hb dX1_clear_15 (by decide) ?_
  refine lv_istore_n (lv' := [(1, .int 0), (0, .ref qt)]) hx hb dX1_clear_16 rfl hl (by decide) rfl (fun ls hl => ?_)
  replace h := bd_el h
  obtain ⟨o4, ho4, h⟩ := h
  refine lp17 N 0 0 0 0 ft_rhythm ft_rhythmLength _ _ _ o4 ho4 hP hS (lv_sub hl [1, 0] rfl) (fun g5 g6 eo H locs ls hP hS hl => ?_)
  subst eo
  simp only [Option.some.injEq, Prod.mk.injEq] at h
  obtain ⟨rfl, rfl, rfl, rfl, rfl⟩ := h
  exact hret _ _ _ _ hP hS dX1_clear_42
theorem hdX1_clear : yX1_clear.cls = RX1 ∧ yX1_clear.cls ≠ "java/lang/invoke/MethodHandle" ∧ yX1_clear.cls ≠ "java/lang/invoke/VarHandle" ∧ (parseMethodDescriptor yX1_clear.desc).map (fun d => d.parameters.length) = some 0 := by decide +kernel

noncomputable def fX1_addKind_L34 (N : Nat) : Nat → Int32 → Int32 → (Nat → Int32) → (Nat → Int32) → Option (Int32 × (Nat → Int32))
  | 0, _, _, _, _ => none
  | k + 1, x1, x3, ft_value, ft_paidBy => (if x3 ≤ 0 then some (x3, ft_paidBy) else ck (x3 - 1) 5 (ck (ft_paidBy (Int32.toNatClampNeg (x3 - 1))) 5 ((if x1 ≤ (ft_value (Int32.toNatClampNeg (ft_paidBy (Int32.toNatClampNeg (x3 - 1))))) then some (x3, ft_paidBy) else lt (ft_paidBy (Int32.toNatClampNeg (x3 - 1))) fun n5 => ck x3 5 (lt (x3 + (-1)) fun n7 => fX1_addKind_L34 N k x1 n7 ft_value (upd ft_paidBy (Int32.toNatClampNeg x3) n5))))))
theorem fX1_addKind_L34_s (N : Nat) (k : Nat) (x1 : Int32) (x3 : Int32) (ft_value : Nat → Int32) (ft_paidBy : Nat → Int32) : fX1_addKind_L34 N (k + 1) x1 x3 ft_value ft_paidBy = ((if x3 ≤ 0 then some (x3, ft_paidBy) else ck (x3 - 1) 5 (ck (ft_paidBy (Int32.toNatClampNeg (x3 - 1))) 5 ((if x1 ≤ (ft_value (Int32.toNatClampNeg (ft_paidBy (Int32.toNatClampNeg (x3 - 1))))) then some (x3, ft_paidBy) else lt (ft_paidBy (Int32.toNatClampNeg (x3 - 1))) fun n5 => ck x3 5 (lt (x3 + (-1)) fun n7 => fX1_addKind_L34 N k x1 n7 ft_value (upd ft_paidBy (Int32.toNatClampNeg x3) n5))))))) := rfl
noncomputable def fX1_addKind (N : Nat) (it_kinds : Int32) (ft_value : Nat → Int32) (ft_paidBy : Nat → Int32) (ft_weight : Nat → Int32) (x1 : Int32) (x2 : Int32) : Option (Int32 × (Nat → Int32) × (Nat → Int32) × (Nat → Int32)) := (if it_kinds < 5 then ck it_kinds 5 (bd (fX1_addKind_L34 N N x1 it_kinds (upd ft_value (Int32.toNatClampNeg it_kinds) x1) ft_paidBy) fun (n11, g12) => ck n11 5 (lt (it_kinds + 1) fun n14 => some (n14, upd ft_value (Int32.toNatClampNeg it_kinds) x1, upd g12 (Int32.toNatClampNeg n11) it_kinds, upd ft_weight (Int32.toNatClampNeg it_kinds) x2))) else some (it_kinds, ft_value, ft_paidBy, ft_weight))
set_option maxHeartbeats 4000000 in
set_option maxRecDepth 100000 in
theorem ctX1_addKind (l : Launch) (D : va_G) (cI cZ cB cS : ClassId) (kK kV : Nat → Nat) (sz : Nat) (qt qt_value qt_weight qt_slugWeight qt_rhythm qt_rhythmLength qt_paidBy : Nat) (it_kinds : Int32) (it_columns : Int32) (it_slugs : Int32) (ft_value : Nat → Int32) (ft_paidBy : Nat → Int32) (ft_weight : Nat → Int32) (x1 : Int32) (x2 : Int32) (N : Nat) (w_it_kinds : Int32) (w_ft_value : Nat → Int32) (w_ft_paidBy : Nat → Int32) (w_ft_weight : Nat → Int32) (h : fX1_addKind N it_kinds ft_value ft_paidBy ft_weight x1 x2 = some (w_it_kinds, w_ft_value, w_ft_paidBy, w_ft_weight)) : CtV l yX1_addKind wsX1_addKind { frames := 0, cells := 0, slots := 0, locals := 0 } D (TY cI cZ cB cS) kK kV [.ref qt, .int x1, .int x2] [(qt, .inr (1, [.ref qt_value, .ref qt_weight, .ref qt_slugWeight, .ref qt_rhythm, .ref qt_rhythmLength, .ref qt_paidBy, .int it_kinds, .int it_columns, .int it_slugs])), (qt_value, .inl (cI, 5, .inl ft_value)), (qt_paidBy, .inl (cI, 5, .inl ft_paidBy)), (qt_weight, .inl (cI, 5, .inl ft_weight))] [(qt, .inr (1, [.ref qt_value, .ref qt_weight, .ref qt_slugWeight, .ref qt_rhythm, .ref qt_rhythmLength, .ref qt_paidBy, .int w_it_kinds, .int it_columns, .int it_slugs])), (qt_value, .inl (cI, 5, .inl w_ft_value)), (qt_paidBy, .inl (cI, 5, .inl w_ft_paidBy)), (qt_weight, .inl (cI, 5, .inl w_ft_weight))] sz := by
  refine mkV (cc := cX1_addKind) (maxL := 4) (own := RX1) (by decide) rfl rfl (Nat.le_of_ble_eq_true rfl) ?_
  intro p e s m args below meth c A Z ls hx hb hml hown hts hK hN hX hP hD hA hS hret hl
  have hl : lv_has ls 4 [(0, .ref qt), (1, .int x1), (2, .int x2)] := hl
  have fl9 : (Cond.fieldLink RX1 9 "SoupWall$Plan" "value" "[I").before args s = true := hts _ (List.mem_of_getElem? (l := wsX1_addKind) (i := 2) rfl)
  have hiX1 : ∀ w ∈ wsX10, w ∈ wsX1_addKind := fun w h => List.mem_cons_of_mem _ (List.mem_append_right _ h)
  have fl27 : (Cond.fieldLink RX1 27 "SoupWall$Plan" "paidBy" "[I").before args s = true := hts _ (List.mem_of_getElem? (l := wsX1_addKind) (i := 4) rfl)
  have fl30 : (Cond.fieldLink RX1 30 "SoupWall$Plan" "kinds" "I").before args s = true := hts _ (List.mem_of_getElem? (l := wsX1_addKind) (i := 1) rfl)
  have fl15 : (Cond.fieldLink RX1 15 "SoupWall$Plan" "weight" "[I").before args s = true := hts _ (List.mem_of_getElem? (l := wsX1_addKind) (i := 3) rfl)
  have lp34 : ∀ (k : Nat) (x1 : Int32) (x3 : Int32) (it_kinds : Int32) (ft_value : Nat → Int32) (ft_paidBy : Nat → Int32) (ft_weight : Nat → Int32) (H : Heap) (locs : List Loc) (ls : Array Slot) (o : Int32 × (Nat → Int32)), fX1_addKind_L34 N k x1 x3 ft_value ft_paidBy = some o → va_P D vwCl [(qt, .inr (1, [.ref qt_value, .ref qt_weight, .ref qt_slugWeight, .ref qt_rhythm, .ref qt_rhythmLength, .ref qt_paidBy, .int it_kinds, .int it_columns, .int it_slugs])), (qt_value, .inl (cI, 5, .inl ft_value)), (qt_paidBy, .inl (cI, 5, .inl ft_paidBy)), (qt_weight, .inl (cI, 5, .inl ft_weight))] H → va_S A s.heap H locs → lv_has ls 4 [(0, .ref qt), (1, .int x1), (3, .int x3)] → (∀ (e3 : Int32) (e_ft_paidBy : Nat → Int32), (e3, e_ft_paidBy) = o → ∀ (H : Heap) (locs : List Loc) (ls : Array Slot), va_P D vwCl [(qt, .inr (1, [.ref qt_value, .ref qt_weight, .ref qt_slugWeight, .ref qt_rhythm, .ref qt_rhythmLength, .ref qt_paidBy, .int it_kinds, .int it_columns, .int it_slugs])), (qt_value, .inl (cI, 5, .inl ft_value)), (qt_paidBy, .inl (cI, 5, .inl e_ft_paidBy)), (qt_weight, .inl (cI, 5, .inl ft_weight))] H → va_S A s.heap H locs → lv_has ls 4 [(0, .ref qt), (3, .int e3)] → W p l e ({ frames := 0, cells := 0, slots := 0, locals := 0 } : Room) s m args below meth c H locs 0 0 Z (F0 m 75 ls [])) → W p l e ({ frames := 0, cells := 0, slots := 0, locals := 0 } : Room) s m args below meth c H locs 0 0 Z (F0 m 34 ls []) := by
    intro k
    induction k with
    | zero =>
      intro x1 x3 it_kinds ft_value ft_paidBy ft_weight H locs ls o h
      exact nomatch (show (none : Option (Int32 × (Nat → Int32))) = some o from h)
    | succ k ih =>
      intro x1 x3 it_kinds ft_value ft_paidBy ft_weight H locs ls o h hP hS hl K
      rw [fX1_addKind_L34_s] at h
      refine lv_iload_n hx hb dX1_addKind_34 rfl (lv_at hl 2 rfl) ?_
      refine lv_if_le (tgt := 75) hx hb dX1_addKind_35 (by decide) (fun c1 => ?_) (fun c1 => ?_)
      · replace h := if_t c1 h
        exact K x3 ft_paidBy (Option.some.inj h) _ _ _ hP hS (lv_sub hl [0, 2] rfl)
      · replace h := if_f c1 h
        refine lv_aload_n hx hb dX1_addKind_38 rfl (lv_at hl 0 rfl) ?_
        refine va_get (ci := 1) (v := .ref qt_value) (C := RX1) (T := TX1) (N := 9) hx hb hts hiX1 hown hK hP 0 rfl rfl 0 (by decide) fl9 (fun _ h9 => h9) rfl dX1_addKind_39 ?_
        refine lv_aload_n hx hb dX1_addKind_42 rfl (lv_at hl 0 rfl) ?_
        refine va_get (ci := 1) (v := .ref qt_paidBy) (C := RX1) (T := TX1) (N := 9) hx hb hts hiX1 hown hK hP 0 rfl rfl 5 (by decide) fl27 (fun _ h9 => h9) rfl dX1_addKind_43 ?_
        refine lv_iload_n hx hb dX1_addKind_46 rfl (lv_at hl 2 rfl) ?_
        refine lv_iconst (v := 1) hx hb dX1_addKind_47 (by decide) ?_
        refine lv_isub hx hb dX1_addKind_48 ?_
        replace h := ck_el h
        obtain ⟨hi2, h⟩ := h
        refine va_iald hx hb hK hP 2 0 rfl rfl hi2 dX1_addKind_49 ?_
        replace h := ck_el h
        obtain ⟨hi3, h⟩ := h
        refine va_iald hx hb hK hP 1 0 rfl rfl hi3 dX1_addKind_50 ?_
        refine lv_iload_n hx hb dX1_addKind_51 rfl (lv_at hl 1 rfl) ?_
        refine lv_icmp_ge (tgt := 75) hx hb dX1_addKind_52 (by decide) (fun c4 => ?_) (fun c4 => ?_)
        · replace h := if_t c4 h
          exact K x3 ft_paidBy (Option.some.inj h) _ _ _ hP hS (lv_sub hl [0, 2] rfl)
        · replace h := if_f c4 h
          refine lv_aload_n hx hb dX1_addKind_55 rfl (lv_at hl 0 rfl) ?_
          refine va_get (ci := 1) (v := .ref qt_paidBy) (C := RX1) (T := TX1) (N := 9) hx hb hts hiX1 hown hK hP 0 rfl rfl 5 (by decide) fl27 (fun _ h9 => h9) rfl dX1_addKind_56 ?_
          refine lv_iload_n hx hb dX1_addKind_59 rfl (lv_at hl 2 rfl) ?_
          refine lv_aload_n hx hb dX1_addKind_60 rfl (lv_at hl 0 rfl) ?_
          refine va_get (ci := 1) (v := .ref qt_paidBy) (C := RX1) (T := TX1) (N := 9) hx hb hts hiX1 hown hK hP 0 rfl rfl 5 (by decide) fl27 (fun _ h9 => h9) rfl dX1_addKind_61 ?_
          refine lv_iload_n hx hb dX1_addKind_64 rfl (lv_at hl 2 rfl) ?_
          refine lv_iconst (v := 1) hx hb dX1_addKind_65 (by decide) ?_
          refine lv_isub hx hb dX1_addKind_66 ?_
          refine va_iald hx hb hK hP 2 0 rfl rfl hi2 dX1_addKind_67 ?_
          refine lv_topi (fun n5 en5 => ?_)
          replace h := lt_at en5 h
          replace h := ck_el h
          obtain ⟨hi6, h⟩ := h
          refine va_iast hx hb hK hP (dF hD rfl) hS 2 0 rfl rfl hi6 dX1_addKind_68 (fun H locs hP _ hS => ?_)
          replace hP : va_P D vwCl [(qt, .inr (1, [.ref qt_value, .ref qt_weight, .ref qt_slugWeight, .ref qt_rhythm, .ref qt_rhythmLength, .ref qt_paidBy, .int it_kinds, .int it_columns, .int it_slugs])), (qt_value, .inl (cI, 5, .inl ft_value)), (qt_paidBy, .inl (cI, 5, .inl (upd ft_paidBy (Int32.toNatClampNeg x3) n5))), (qt_weight, .inl (cI, 5, .inl ft_weight))] H := hP
          obtain ⟨n7, en7⟩ : ∃ z : Int32, z = x3 + (-1) := ⟨_, rfl⟩
          replace h := lt_at en7 h
          refine lv_iinc (v := n7) (lv' := [(3, .int n7), (0, .ref qt), (1, .int x1)]) hx hb dX1_addKind_69 hl (k := 2) rfl (by rw [en7]; rfl) (by decide) rfl (fun ls hl => ?_)
          refine lv_goto (tgt := 34) hx hb dX1_addKind_72 (by decide) ?_
          exact ih x1 n7 it_kinds ft_value (upd ft_paidBy (Int32.toNatClampNeg x3) n5) ft_weight _ _ _ o h hP hS (lv_sub hl [1, 2, 0] rfl) K
  unfold fX1_addKind at h
  refine lv_aload_n hx hb dX1_addKind_0 rfl (lv_at hl 0 rfl) ?_
  refine va_get (ci := 1) (v := .int it_kinds) (C := RX1) (T := TX1) (N := 9) hx hb hts hiX1 hown hK hP 0 rfl rfl 6 (by decide) fl30 (fun _ h9 => h9) rfl dX1_addKind_1 ?_
  refine lv_iconst (v := 5) hx hb dX1_addKind_4 (by decide) ?_
  refine lv_icmp_lt (tgt := 9) hx hb dX1_addKind_5 (by decide) (fun c8 => ?_) (fun c8 => ?_)
  · replace h := if_t c8 h
    refine lv_aload_n hx hb dX1_addKind_9 rfl (lv_at hl 0 rfl) ?_
    refine va_get (ci := 1) (v := .ref qt_value) (C := RX1) (T := TX1) (N := 9) hx hb hts hiX1 hown hK hP 0 rfl rfl 0 (by decide) fl9 (fun _ h9 => h9) rfl dX1_addKind_10 ?_
    refine lv_aload_n hx hb dX1_addKind_13 rfl (lv_at hl 0 rfl) ?_
    refine va_get (ci := 1) (v := .int it_kinds) (C := RX1) (T := TX1) (N := 9) hx hb hts hiX1 hown hK hP 0 rfl rfl 6 (by decide) fl30 (fun _ h9 => h9) rfl dX1_addKind_14 ?_
    refine lv_iload_n hx hb dX1_addKind_17 rfl (lv_at hl 1 rfl) ?_
    replace h := ck_el h
    obtain ⟨hi9, h⟩ := h
    refine va_iast hx hb hK hP (dF hD rfl) hS 1 0 rfl rfl hi9 dX1_addKind_18 (fun H locs hP _ hS => ?_)
    replace hP : va_P D vwCl [(qt, .inr (1, [.ref qt_value, .ref qt_weight, .ref qt_slugWeight, .ref qt_rhythm, .ref qt_rhythmLength, .ref qt_paidBy, .int it_kinds, .int it_columns, .int it_slugs])), (qt_value, .inl (cI, 5, .inl (upd ft_value (Int32.toNatClampNeg it_kinds) x1))), (qt_paidBy, .inl (cI, 5, .inl ft_paidBy)), (qt_weight, .inl (cI, 5, .inl ft_weight))] H := hP
    refine lv_aload_n hx hb dX1_addKind_19 rfl (lv_at hl 0 rfl) ?_
    refine va_get (ci := 1) (v := .ref qt_weight) (C := RX1) (T := TX1) (N := 9) hx hb hts hiX1 hown hK hP 0 rfl rfl 1 (by decide) fl15 (fun _ h9 => h9) rfl dX1_addKind_20 ?_
    refine lv_aload_n hx hb dX1_addKind_23 rfl (lv_at hl 0 rfl) ?_
    refine va_get (ci := 1) (v := .int it_kinds) (C := RX1) (T := TX1) (N := 9) hx hb hts hiX1 hown hK hP 0 rfl rfl 6 (by decide) fl30 (fun _ h9 => h9) rfl dX1_addKind_24 ?_
    refine lv_iload_n hx hb dX1_addKind_27 rfl (lv_at hl 2 rfl) ?_
    refine va_iast hx hb hK hP (dF hD rfl) hS 3 0 rfl rfl hi9 dX1_addKind_28 (fun H locs hP _ hS => ?_)
    replace hP : va_P D vwCl [(qt, .inr (1, [.ref qt_value, .ref qt_weight, .ref qt_slugWeight, .ref qt_rhythm, .ref qt_rhythmLength, .ref qt_paidBy, .int it_kinds, .int it_columns, .int it_slugs])), (qt_value, .inl (cI, 5, .inl (upd ft_value (Int32.toNatClampNeg it_kinds) x1))), (qt_paidBy, .inl (cI, 5, .inl ft_paidBy)), (qt_weight, .inl (cI, 5, .inl (upd ft_weight (Int32.toNatClampNeg it_kinds) x2)))] H := hP
    refine lv_aload_n hx hb dX1_addKind_29 rfl (lv_at hl 0 rfl) ?_
    refine va_get (ci := 1) (v := .int it_kinds) (C := RX1) (T := TX1) (N := 9) hx hb hts hiX1 hown hK hP 0 rfl rfl 6 (by decide) fl30 (fun _ h9 => h9) rfl dX1_addKind_30 ?_
    refine lv_istore_n (lv' := [(3, .int it_kinds), (0, .ref qt), (1, .int x1), (2, .int x2)]) hx hb dX1_addKind_33 rfl hl (by decide) rfl (fun ls hl => ?_)
    replace h := bd_el h
    obtain ⟨o10, ho10, h⟩ := h
    refine lp34 N x1 it_kinds it_kinds (upd ft_value (Int32.toNatClampNeg it_kinds) x1) ft_paidBy (upd ft_weight (Int32.toNatClampNeg it_kinds) x2) _ _ _ o10 ho10 hP hS (lv_sub hl [1, 2, 0] rfl) (fun n11 g12 eo H locs ls hP hS hl => ?_)
    subst eo
    refine lv_aload_n hx hb dX1_addKind_75 rfl (lv_at hl 0 rfl) ?_
    refine va_get (ci := 1) (v := .ref qt_paidBy) (C := RX1) (T := TX1) (N := 9) hx hb hts hiX1 hown hK hP 0 rfl rfl 5 (by decide) fl27 (fun _ h9 => h9) rfl dX1_addKind_76 ?_
    refine lv_iload_n hx hb dX1_addKind_79 rfl (lv_at hl 1 rfl) ?_
    refine lv_aload_n hx hb dX1_addKind_80 rfl (lv_at hl 0 rfl) ?_
    refine va_get (ci := 1) (v := .int it_kinds) (C := RX1) (T := TX1) (N := 9) hx hb hts hiX1 hown hK hP 0 rfl rfl 6 (by decide) fl30 (fun _ h9 => h9) rfl dX1_addKind_81 ?_
    replace h := ck_el h
    obtain ⟨hi13, h⟩ := h
    refine va_iast hx hb hK hP (dF hD rfl) hS 2 0 rfl rfl hi13 dX1_addKind_84 (fun H locs hP _ hS => ?_)
    replace hP : va_P D vwCl [(qt, .inr (1, [.ref qt_value, .ref qt_weight, .ref qt_slugWeight, .ref qt_rhythm, .ref qt_rhythmLength, .ref qt_paidBy, .int it_kinds, .int it_columns, .int it_slugs])), (qt_value, .inl (cI, 5, .inl (upd ft_value (Int32.toNatClampNeg it_kinds) x1))), (qt_paidBy, .inl (cI, 5, .inl (upd g12 (Int32.toNatClampNeg n11) it_kinds))), (qt_weight, .inl (cI, 5, .inl (upd ft_weight (Int32.toNatClampNeg it_kinds) x2)))] H := hP
    refine lv_aload_n hx hb dX1_addKind_85 rfl (lv_at hl 0 rfl) ?_
    refine lv_dup hx hb dX1_addKind_86 rfl ?_
    refine va_get (ci := 1) (v := .int it_kinds) (C := RX1) (T := TX1) (N := 9) hx hb hts hiX1 hown hK hP 0 rfl rfl 6 (by decide) fl30 (fun _ h9 => h9) rfl dX1_addKind_87 ?_
    refine lv_iconst (v := 1) hx hb dX1_addKind_90 (by decide) ?_
    refine lv_iadd hx hb dX1_addKind_91 ?_
    refine lv_topi (fun n14 en14 => ?_)
    replace h := lt_at en14 h
    refine va_put (ci := 1) (v := .int n14) (ty := .int) (C := RX1) (T := TX1) (N := 9) hx hb hts hiX1 tyX1 tyX1_ok nmX1 hown hK hP (dF hD rfl) hS 0 rfl rfl 6 (by decide) fl30 (fun _ h9 => h9) rfl (by decide +kernel) rfl rfl (Nat.le_of_ble_eq_true rfl) dX1_addKind_92 (fun H locs hP _ hS => ?_)
    replace hP : va_P D vwCl [(qt, .inr (1, [.ref qt_value, .ref qt_weight, .ref qt_slugWeight, .ref qt_rhythm, .ref qt_rhythmLength, .ref qt_paidBy, .int n14, .int it_columns, .int it_slugs])), (qt_value, .inl (cI, 5, .inl (upd ft_value (Int32.toNatClampNeg it_kinds) x1))), (qt_paidBy, .inl (cI, 5, .inl (upd g12 (Int32.toNatClampNeg n11) it_kinds))), (qt_weight, .inl (cI, 5, .inl (upd ft_weight (Int32.toNatClampNeg it_kinds) x2)))] H := hP
    simp only [Option.some.injEq, Prod.mk.injEq] at h
    obtain ⟨rfl, rfl, rfl, rfl⟩ := h
    exact hret _ _ _ _ hP hS dX1_addKind_95
  · replace h := if_f c8 h
    simp only [Option.some.injEq, Prod.mk.injEq] at h
    obtain ⟨rfl, rfl, rfl, rfl⟩ := h
    exact hret _ _ _ _ hP hS dX1_addKind_8
theorem hdX1_addKind : yX1_addKind.cls = RX1 ∧ yX1_addKind.cls ≠ "java/lang/invoke/MethodHandle" ∧ yX1_addKind.cls ≠ "java/lang/invoke/VarHandle" ∧ (parseMethodDescriptor yX1_addKind.desc).map (fun d => d.parameters.length) = some 2 := by decide +kernel

noncomputable def fX1_addSlug (N : Nat) (it_slugs : Int32) (ft_slugWeight : Nat → Int32) (x1 : Int32) : Option (Int32 × (Nat → Int32)) := (if 5 ≤ it_slugs then some (it_slugs, ft_slugWeight) else ck it_slugs 5 (lt (it_slugs + 1) fun n3 => some (n3, upd ft_slugWeight (Int32.toNatClampNeg it_slugs) x1)))
set_option maxHeartbeats 4000000 in
set_option maxRecDepth 100000 in
theorem ctX1_addSlug (l : Launch) (D : va_G) (cI cZ cB cS : ClassId) (kK kV : Nat → Nat) (sz : Nat) (qt qt_value qt_weight qt_slugWeight qt_rhythm qt_rhythmLength qt_paidBy : Nat) (it_kinds : Int32) (it_columns : Int32) (it_slugs : Int32) (ft_slugWeight : Nat → Int32) (x1 : Int32) (N : Nat) (w_it_slugs : Int32) (w_ft_slugWeight : Nat → Int32) (h : fX1_addSlug N it_slugs ft_slugWeight x1 = some (w_it_slugs, w_ft_slugWeight)) : CtV l yX1_addSlug wsX1_addSlug { frames := 0, cells := 0, slots := 0, locals := 0 } D (TY cI cZ cB cS) kK kV [.ref qt, .int x1] [(qt, .inr (1, [.ref qt_value, .ref qt_weight, .ref qt_slugWeight, .ref qt_rhythm, .ref qt_rhythmLength, .ref qt_paidBy, .int it_kinds, .int it_columns, .int it_slugs])), (qt_slugWeight, .inl (cI, 5, .inl ft_slugWeight))] [(qt, .inr (1, [.ref qt_value, .ref qt_weight, .ref qt_slugWeight, .ref qt_rhythm, .ref qt_rhythmLength, .ref qt_paidBy, .int it_kinds, .int it_columns, .int w_it_slugs])), (qt_slugWeight, .inl (cI, 5, .inl w_ft_slugWeight))] sz := by
  refine mkV (cc := cX1_addSlug) (maxL := 2) (own := RX1) (by decide) rfl rfl (Nat.le_of_ble_eq_true rfl) ?_
  intro p e s m args below meth c A Z ls hx hb hml hown hts hK hN hX hP hD hA hS hret hl
  have hl : lv_has ls 2 [(0, .ref qt), (1, .int x1)] := hl
  have fl37 : (Cond.fieldLink RX1 37 "SoupWall$Plan" "slugs" "I").before args s = true := hts _ (List.mem_of_getElem? (l := wsX1_addSlug) (i := 1) rfl)
  have hiX1 : ∀ w ∈ wsX10, w ∈ wsX1_addSlug := fun w h => List.mem_cons_of_mem _ (List.mem_append_right _ h)
  have fl18 : (Cond.fieldLink RX1 18 "SoupWall$Plan" "slugWeight" "[I").before args s = true := hts _ (List.mem_of_getElem? (l := wsX1_addSlug) (i := 2) rfl)
  unfold fX1_addSlug at h
  refine lv_aload_n hx hb dX1_addSlug_0 rfl (lv_at hl 0 rfl) ?_
  refine va_get (ci := 1) (v := .int it_slugs) (C := RX1) (T := TX1) (N := 9) hx hb hts hiX1 hown hK hP 0 rfl rfl 8 (by decide) fl37 (fun _ h9 => h9) rfl dX1_addSlug_1 ?_
  refine lv_iconst (v := 5) hx hb dX1_addSlug_4 (by decide) ?_
  refine lv_icmp_ge (tgt := 28) hx hb dX1_addSlug_5 (by decide) (fun c1 => ?_) (fun c1 => ?_)
  · replace h := if_t c1 h
    simp only [Option.some.injEq, Prod.mk.injEq] at h
    obtain ⟨rfl, rfl⟩ := h
    exact hret _ _ _ _ hP hS dX1_addSlug_28
  · replace h := if_f c1 h
    refine lv_aload_n hx hb dX1_addSlug_8 rfl (lv_at hl 0 rfl) ?_
    refine va_get (ci := 1) (v := .ref qt_slugWeight) (C := RX1) (T := TX1) (N := 9) hx hb hts hiX1 hown hK hP 0 rfl rfl 2 (by decide) fl18 (fun _ h9 => h9) rfl dX1_addSlug_9 ?_
    refine lv_aload_n hx hb dX1_addSlug_12 rfl (lv_at hl 0 rfl) ?_
    refine va_get (ci := 1) (v := .int it_slugs) (C := RX1) (T := TX1) (N := 9) hx hb hts hiX1 hown hK hP 0 rfl rfl 8 (by decide) fl37 (fun _ h9 => h9) rfl dX1_addSlug_13 ?_
    refine lv_iload_n hx hb dX1_addSlug_16 rfl (lv_at hl 1 rfl) ?_
    replace h := ck_el h
    obtain ⟨hi2, h⟩ := h
    refine va_iast hx hb hK hP (dF hD rfl) hS 1 0 rfl rfl hi2 dX1_addSlug_17 (fun H locs hP _ hS => ?_)
    replace hP : va_P D vwCl [(qt, .inr (1, [.ref qt_value, .ref qt_weight, .ref qt_slugWeight, .ref qt_rhythm, .ref qt_rhythmLength, .ref qt_paidBy, .int it_kinds, .int it_columns, .int it_slugs])), (qt_slugWeight, .inl (cI, 5, .inl (upd ft_slugWeight (Int32.toNatClampNeg it_slugs) x1)))] H := hP
    refine lv_aload_n hx hb dX1_addSlug_18 rfl (lv_at hl 0 rfl) ?_
    refine lv_dup hx hb dX1_addSlug_19 rfl ?_
    refine va_get (ci := 1) (v := .int it_slugs) (C := RX1) (T := TX1) (N := 9) hx hb hts hiX1 hown hK hP 0 rfl rfl 8 (by decide) fl37 (fun _ h9 => h9) rfl dX1_addSlug_20 ?_
    refine lv_iconst (v := 1) hx hb dX1_addSlug_23 (by decide) ?_
    refine lv_iadd hx hb dX1_addSlug_24 ?_
    refine lv_topi (fun n3 en3 => ?_)
    replace h := lt_at en3 h
    refine va_put (ci := 1) (v := .int n3) (ty := .int) (C := RX1) (T := TX1) (N := 9) hx hb hts hiX1 tyX1 tyX1_ok nmX1 hown hK hP (dF hD rfl) hS 0 rfl rfl 8 (by decide) fl37 (fun _ h9 => h9) rfl (by decide +kernel) rfl rfl (Nat.le_of_ble_eq_true rfl) dX1_addSlug_25 (fun H locs hP _ hS => ?_)
    replace hP : va_P D vwCl [(qt, .inr (1, [.ref qt_value, .ref qt_weight, .ref qt_slugWeight, .ref qt_rhythm, .ref qt_rhythmLength, .ref qt_paidBy, .int it_kinds, .int it_columns, .int n3])), (qt_slugWeight, .inl (cI, 5, .inl (upd ft_slugWeight (Int32.toNatClampNeg it_slugs) x1)))] H := hP
    simp only [Option.some.injEq, Prod.mk.injEq] at h
    obtain ⟨rfl, rfl⟩ := h
    exact hret _ _ _ _ hP hS dX1_addSlug_28
theorem hdX1_addSlug : yX1_addSlug.cls = RX1 ∧ yX1_addSlug.cls ≠ "java/lang/invoke/MethodHandle" ∧ yX1_addSlug.cls ≠ "java/lang/invoke/VarHandle" ∧ (parseMethodDescriptor yX1_addSlug.desc).map (fun d => d.parameters.length) = some 1 := by decide +kernel

noncomputable def fX1_isColumn (N : Nat) (it_columns : Int32) (x1 : Int32) : Option (Int32) := (if x1 < 0 then some 0 else (if it_columns ≤ x1 then some 0 else some 1))
set_option maxHeartbeats 4000000 in
set_option maxRecDepth 100000 in
theorem ctX1_isColumn (l : Launch) (D : va_G) (cI cZ cB cS : ClassId) (kK kV : Nat → Nat) (sz : Nat) (qt qt_value qt_weight qt_slugWeight qt_rhythm qt_rhythmLength qt_paidBy : Nat) (it_kinds : Int32) (it_columns : Int32) (it_slugs : Int32) (x1 : Int32) (N : Nat) (r0 : Int32)  (h : fX1_isColumn N it_columns x1 = some r0) : CtI l yX1_isColumn wsX1_isColumn { frames := 0, cells := 0, slots := 0, locals := 0 } D (TY cI cZ cB cS) kK kV [.ref qt, .int x1] [(qt, .inr (1, [.ref qt_value, .ref qt_weight, .ref qt_slugWeight, .ref qt_rhythm, .ref qt_rhythmLength, .ref qt_paidBy, .int it_kinds, .int it_columns, .int it_slugs]))] [(qt, .inr (1, [.ref qt_value, .ref qt_weight, .ref qt_slugWeight, .ref qt_rhythm, .ref qt_rhythmLength, .ref qt_paidBy, .int it_kinds, .int it_columns, .int it_slugs]))] sz r0 := by
  refine mkI (cc := cX1_isColumn) (maxL := 2) (rt := .boolean) (own := RX1) (by decide) rfl rfl (Nat.le_of_ble_eq_true rfl) ?_
  intro p e s m args below meth c A Z ls hx hb hml hown hts hK hN hX hP hD hA hS hret hl
  have hl : lv_has ls 2 [(0, .ref qt), (1, .int x1)] := hl
  have fl34 : (Cond.fieldLink RX1 34 "SoupWall$Plan" "columns" "I").before args s = true := hts _ (List.mem_of_getElem? (l := wsX1_isColumn) (i := 1) rfl)
  have hiX1 : ∀ w ∈ wsX10, w ∈ wsX1_isColumn := fun w h => List.mem_cons_of_mem _ (List.mem_append_right _ h)
  unfold fX1_isColumn at h
  refine lv_iload_n hx hb dX1_isColumn_0 rfl (lv_at hl 1 rfl) ?_
  refine lv_if_lt (tgt := 16) hx hb dX1_isColumn_1 (by decide) (fun c1 => ?_) (fun c1 => ?_)
  · replace h := if_t c1 h
    refine lv_iconst (v := 0) hx hb dX1_isColumn_16 (by decide) ?_
    simp only [Option.some.injEq] at h
    subst h
    exact hret _ _ _ _ hP hS rfl dX1_isColumn_17
  · replace h := if_f c1 h
    refine lv_iload_n hx hb dX1_isColumn_4 rfl (lv_at hl 1 rfl) ?_
    refine lv_aload_n hx hb dX1_isColumn_5 rfl (lv_at hl 0 rfl) ?_
    refine va_get (ci := 1) (v := .int it_columns) (C := RX1) (T := TX1) (N := 9) hx hb hts hiX1 hown hK hP 0 rfl rfl 7 (by decide) fl34 (fun _ h9 => h9) rfl dX1_isColumn_6 ?_
    refine lv_icmp_ge (tgt := 16) hx hb dX1_isColumn_9 (by decide) (fun c2 => ?_) (fun c2 => ?_)
    · replace h := if_t c2 h
      refine lv_iconst (v := 0) hx hb dX1_isColumn_16 (by decide) ?_
      simp only [Option.some.injEq] at h
      subst h
      exact hret _ _ _ _ hP hS rfl dX1_isColumn_17
    · replace h := if_f c2 h
      refine lv_iconst (v := 1) hx hb dX1_isColumn_12 (by decide) ?_
      refine lv_goto (tgt := 17) hx hb dX1_isColumn_13 (by decide) ?_
      simp only [Option.some.injEq] at h
      subst h
      exact hret _ _ _ _ hP hS rfl dX1_isColumn_17
theorem hdX1_isColumn : yX1_isColumn.cls = RX1 ∧ yX1_isColumn.cls ≠ "java/lang/invoke/MethodHandle" ∧ yX1_isColumn.cls ≠ "java/lang/invoke/VarHandle" ∧ (parseMethodDescriptor yX1_isColumn.desc).map (fun d => d.parameters.length) = some 1 := by decide +kernel

noncomputable def fX1_hasRhythm (N : Nat) (it_columns : Int32) (ft_rhythmLength : Nat → Int32) (x1 : Int32) : Option (Int32) := bd (fX1_isColumn N it_columns x1) fun r1 => (if r1 = 0 then some 0 else ck x1 5 ((if (ft_rhythmLength (Int32.toNatClampNeg x1)) ≤ 0 then some 0 else some 1)))
set_option maxHeartbeats 4000000 in
set_option maxRecDepth 100000 in
theorem ctX1_hasRhythm (l : Launch) (D : va_G) (cI cZ cB cS : ClassId) (kK kV : Nat → Nat) (sz : Nat) (qt qt_value qt_weight qt_slugWeight qt_rhythm qt_rhythmLength qt_paidBy : Nat) (it_kinds : Int32) (it_columns : Int32) (it_slugs : Int32) (ft_rhythmLength : Nat → Int32) (x1 : Int32) (N : Nat) (r0 : Int32)  (h : fX1_hasRhythm N it_columns ft_rhythmLength x1 = some r0) : CtI l yX1_hasRhythm wsX1_hasRhythm { frames := 1, cells := 0, slots := 0, locals := 21 } D (TY cI cZ cB cS) kK kV [.ref qt, .int x1] [(qt, .inr (1, [.ref qt_value, .ref qt_weight, .ref qt_slugWeight, .ref qt_rhythm, .ref qt_rhythmLength, .ref qt_paidBy, .int it_kinds, .int it_columns, .int it_slugs])), (qt_rhythmLength, .inl (cI, 5, .inl ft_rhythmLength))] [(qt, .inr (1, [.ref qt_value, .ref qt_weight, .ref qt_slugWeight, .ref qt_rhythm, .ref qt_rhythmLength, .ref qt_paidBy, .int it_kinds, .int it_columns, .int it_slugs])), (qt_rhythmLength, .inl (cI, 5, .inl ft_rhythmLength))] sz r0 := by
  refine mkI (cc := cX1_hasRhythm) (maxL := 2) (rt := .boolean) (own := RX1) (by decide) rfl rfl (Nat.le_of_ble_eq_true rfl) ?_
  intro p e s m args below meth c A Z ls hx hb hml hown hts hK hN hX hP hD hA hS hret hl
  have hl : lv_has ls 2 [(0, .ref qt), (1, .int x1)] := hl
  have fl24 : (Cond.fieldLink RX1 24 "SoupWall$Plan" "rhythmLength" "[I").before args s = true := hts _ (List.mem_of_getElem? (l := wsX1_hasRhythm) (i := 1) rfl)
  have hiX1 : ∀ w ∈ wsX10, w ∈ wsX1_hasRhythm := fun w h => List.mem_cons_of_mem _ (List.mem_append_right _ h)
  unfold fX1_hasRhythm at h
  refine lv_aload_n hx hb dX1_hasRhythm_0 rfl (lv_at hl 0 rfl) ?_
  refine lv_iload_n hx hb dX1_hasRhythm_1 rfl (lv_at hl 1 rfl) ?_
  replace h := bd_el h
  obtain ⟨r1, hc2, h⟩ := h
  refine callVI (rest := []) ⟨hx, hb, hml, hown, hts⟩ (ctX1_isColumn l D cI cZ cB cS kK kV _ qt qt_value qt_weight qt_slugWeight qt_rhythm qt_rhythmLength qt_paidBy it_kinds it_columns it_slugs x1 N r1 hc2) (cwV 1 hts gX1_hasRhythm_X1_isColumn rfl rfl rfl hdX1_isColumn ⟨Nat.le_of_ble_eq_true rfl, Nat.le_of_ble_eq_true rfl⟩) hK hN hX hP (dF hD rfl) hS hA [0] (mcC rfl mcN) (by decide +kernel) [(qt, .inr (1, [.ref qt_value, .ref qt_weight, .ref qt_slugWeight, .ref qt_rhythm, .ref qt_rhythmLength, .ref qt_paidBy, .int it_kinds, .int it_columns, .int it_slugs])), (qt_rhythmLength, .inl (cI, 5, .inl ft_rhythmLength))] [1] (mcC rfl mcN) ((mcC rfl mcN).trans (mcC rfl mcN).symm) 2 rfl (by decide +kernel) (va_recv hK hP (ci := 1) (q0 := 0) rfl rfl) rfl hl.1 rfl (Nat.le_of_ble_eq_true rfl) ⟨Nat.zero_le _, Nat.zero_le _⟩ dX1_hasRhythm_2 (fun H locs hP hS => ?_)
  refine lv_if_eq (tgt := 21) hx hb dX1_hasRhythm_5 (by decide) (fun c3 => ?_) (fun c3 => ?_)
  · replace h := if_t c3 h
    refine lv_iconst (v := 0) hx hb dX1_hasRhythm_21 (by decide) ?_
    simp only [Option.some.injEq] at h
    subst h
    exact hret _ _ _ _ hP hS rfl dX1_hasRhythm_22
  · replace h := if_f c3 h
    refine lv_aload_n hx hb dX1_hasRhythm_8 rfl (lv_at hl 0 rfl) ?_
    refine va_get (ci := 1) (v := .ref qt_rhythmLength) (C := RX1) (T := TX1) (N := 9) hx hb hts hiX1 hown hK hP 0 rfl rfl 4 (by decide) fl24 (fun _ h9 => h9) rfl dX1_hasRhythm_9 ?_
    refine lv_iload_n hx hb dX1_hasRhythm_12 rfl (lv_at hl 1 rfl) ?_
    replace h := ck_el h
    obtain ⟨hi4, h⟩ := h
    refine va_iald hx hb hK hP 1 0 rfl rfl hi4 dX1_hasRhythm_13 ?_
    refine lv_if_le (tgt := 21) hx hb dX1_hasRhythm_14 (by decide) (fun c5 => ?_) (fun c5 => ?_)
    · replace h := if_t c5 h
      refine lv_iconst (v := 0) hx hb dX1_hasRhythm_21 (by decide) ?_
      simp only [Option.some.injEq] at h
      subst h
      exact hret _ _ _ _ hP hS rfl dX1_hasRhythm_22
    · replace h := if_f c5 h
      refine lv_iconst (v := 1) hx hb dX1_hasRhythm_17 (by decide) ?_
      refine lv_goto (tgt := 22) hx hb dX1_hasRhythm_18 (by decide) ?_
      simp only [Option.some.injEq] at h
      subst h
      exact hret _ _ _ _ hP hS rfl dX1_hasRhythm_22
theorem hdX1_hasRhythm : yX1_hasRhythm.cls = RX1 ∧ yX1_hasRhythm.cls ≠ "java/lang/invoke/MethodHandle" ∧ yX1_hasRhythm.cls ≠ "java/lang/invoke/VarHandle" ∧ (parseMethodDescriptor yX1_hasRhythm.desc).map (fun d => d.parameters.length) = some 1 := by decide +kernel

noncomputable def fX1_setRhythm (N : Nat) (it_columns : Int32) (ft_rhythm : Nat → Int32) (ft_rhythmLength : Nat → Int32) (x1 : Int32) (x2 : Int32) (x3 : Int32) : Option ((Nat → Int32) × (Nat → Int32)) := bd (fX1_isColumn N it_columns x1) fun r1 => (if r1 = 0 then some (ft_rhythm, ft_rhythmLength) else ck x1 5 (some (upd ft_rhythm (Int32.toNatClampNeg x1) x2, upd ft_rhythmLength (Int32.toNatClampNeg x1) x3)))
set_option maxHeartbeats 4000000 in
set_option maxRecDepth 100000 in
theorem ctX1_setRhythm (l : Launch) (D : va_G) (cI cZ cB cS : ClassId) (kK kV : Nat → Nat) (sz : Nat) (qt qt_value qt_weight qt_slugWeight qt_rhythm qt_rhythmLength qt_paidBy : Nat) (it_kinds : Int32) (it_columns : Int32) (it_slugs : Int32) (ft_rhythm : Nat → Int32) (ft_rhythmLength : Nat → Int32) (x1 : Int32) (x2 : Int32) (x3 : Int32) (N : Nat) (w_ft_rhythm : Nat → Int32) (w_ft_rhythmLength : Nat → Int32) (h : fX1_setRhythm N it_columns ft_rhythm ft_rhythmLength x1 x2 x3 = some (w_ft_rhythm, w_ft_rhythmLength)) : CtV l yX1_setRhythm wsX1_setRhythm { frames := 1, cells := 0, slots := 0, locals := 21 } D (TY cI cZ cB cS) kK kV [.ref qt, .int x1, .int x2, .int x3] [(qt, .inr (1, [.ref qt_value, .ref qt_weight, .ref qt_slugWeight, .ref qt_rhythm, .ref qt_rhythmLength, .ref qt_paidBy, .int it_kinds, .int it_columns, .int it_slugs])), (qt_rhythm, .inl (cI, 5, .inl ft_rhythm)), (qt_rhythmLength, .inl (cI, 5, .inl ft_rhythmLength))] [(qt, .inr (1, [.ref qt_value, .ref qt_weight, .ref qt_slugWeight, .ref qt_rhythm, .ref qt_rhythmLength, .ref qt_paidBy, .int it_kinds, .int it_columns, .int it_slugs])), (qt_rhythm, .inl (cI, 5, .inl w_ft_rhythm)), (qt_rhythmLength, .inl (cI, 5, .inl w_ft_rhythmLength))] sz := by
  refine mkV (cc := cX1_setRhythm) (maxL := 4) (own := RX1) (by decide) rfl rfl (Nat.le_of_ble_eq_true rfl) ?_
  intro p e s m args below meth c A Z ls hx hb hml hown hts hK hN hX hP hD hA hS hret hl
  have hl : lv_has ls 4 [(0, .ref qt), (1, .int x1), (2, .int x2), (3, .int x3)] := hl
  have fl21 : (Cond.fieldLink RX1 21 "SoupWall$Plan" "rhythm" "[I").before args s = true := hts _ (List.mem_of_getElem? (l := wsX1_setRhythm) (i := 1) rfl)
  have hiX1 : ∀ w ∈ wsX10, w ∈ wsX1_setRhythm := fun w h => List.mem_cons_of_mem _ (List.mem_append_right _ h)
  have fl24 : (Cond.fieldLink RX1 24 "SoupWall$Plan" "rhythmLength" "[I").before args s = true := hts _ (List.mem_of_getElem? (l := wsX1_setRhythm) (i := 2) rfl)
  unfold fX1_setRhythm at h
  refine lv_aload_n hx hb dX1_setRhythm_0 rfl (lv_at hl 0 rfl) ?_
  refine lv_iload_n hx hb dX1_setRhythm_1 rfl (lv_at hl 1 rfl) ?_
  replace h := bd_el h
  obtain ⟨r1, hc2, h⟩ := h
  refine callVI (rest := []) ⟨hx, hb, hml, hown, hts⟩ (ctX1_isColumn l D cI cZ cB cS kK kV _ qt qt_value qt_weight qt_slugWeight qt_rhythm qt_rhythmLength qt_paidBy it_kinds it_columns it_slugs x1 N r1 hc2) (cwV 1 hts gX1_setRhythm_X1_isColumn rfl rfl rfl hdX1_isColumn ⟨Nat.le_of_ble_eq_true rfl, Nat.le_of_ble_eq_true rfl⟩) hK hN hX hP (dF hD rfl) hS hA [0] (mcC rfl mcN) (by decide +kernel) [(qt, .inr (1, [.ref qt_value, .ref qt_weight, .ref qt_slugWeight, .ref qt_rhythm, .ref qt_rhythmLength, .ref qt_paidBy, .int it_kinds, .int it_columns, .int it_slugs])), (qt_rhythm, .inl (cI, 5, .inl ft_rhythm)), (qt_rhythmLength, .inl (cI, 5, .inl ft_rhythmLength))] [1, 2] (mcC rfl mcN) ((mcC rfl (mcC rfl mcN)).trans (mcC rfl (mcC rfl mcN)).symm) 3 rfl (by decide +kernel) (va_recv hK hP (ci := 1) (q0 := 0) rfl rfl) rfl hl.1 rfl (Nat.le_of_ble_eq_true rfl) ⟨Nat.zero_le _, Nat.zero_le _⟩ dX1_setRhythm_2 (fun H locs hP hS => ?_)
  refine lv_if_eq (tgt := 22) hx hb dX1_setRhythm_5 (by decide) (fun c3 => ?_) (fun c3 => ?_)
  · replace h := if_t c3 h
    simp only [Option.some.injEq, Prod.mk.injEq] at h
    obtain ⟨rfl, rfl⟩ := h
    exact hret _ _ _ _ hP hS dX1_setRhythm_22
  · replace h := if_f c3 h
    refine lv_aload_n hx hb dX1_setRhythm_8 rfl (lv_at hl 0 rfl) ?_
    refine va_get (ci := 1) (v := .ref qt_rhythm) (C := RX1) (T := TX1) (N := 9) hx hb hts hiX1 hown hK hP 0 rfl rfl 3 (by decide) fl21 (fun _ h9 => h9) rfl dX1_setRhythm_9 ?_
    refine lv_iload_n hx hb dX1_setRhythm_12 rfl (lv_at hl 1 rfl) ?_
    refine lv_iload_n hx hb dX1_setRhythm_13 rfl (lv_at hl 2 rfl) ?_
    replace h := ck_el h
    obtain ⟨hi4, h⟩ := h
    refine va_iast hx hb hK hP (dF hD rfl) hS 1 0 rfl rfl hi4 dX1_setRhythm_14 (fun H locs hP _ hS => ?_)
    replace hP : va_P D vwCl [(qt, .inr (1, [.ref qt_value, .ref qt_weight, .ref qt_slugWeight, .ref qt_rhythm, .ref qt_rhythmLength, .ref qt_paidBy, .int it_kinds, .int it_columns, .int it_slugs])), (qt_rhythm, .inl (cI, 5, .inl (upd ft_rhythm (Int32.toNatClampNeg x1) x2))), (qt_rhythmLength, .inl (cI, 5, .inl ft_rhythmLength))] H := hP
    refine lv_aload_n hx hb dX1_setRhythm_15 rfl (lv_at hl 0 rfl) ?_
    refine va_get (ci := 1) (v := .ref qt_rhythmLength) (C := RX1) (T := TX1) (N := 9) hx hb hts hiX1 hown hK hP 0 rfl rfl 4 (by decide) fl24 (fun _ h9 => h9) rfl dX1_setRhythm_16 ?_
    refine lv_iload_n hx hb dX1_setRhythm_19 rfl (lv_at hl 1 rfl) ?_
    refine lv_iload_n hx hb dX1_setRhythm_20 rfl (lv_at hl 3 rfl) ?_
    refine va_iast hx hb hK hP (dF hD rfl) hS 2 0 rfl rfl hi4 dX1_setRhythm_21 (fun H locs hP _ hS => ?_)
    replace hP : va_P D vwCl [(qt, .inr (1, [.ref qt_value, .ref qt_weight, .ref qt_slugWeight, .ref qt_rhythm, .ref qt_rhythmLength, .ref qt_paidBy, .int it_kinds, .int it_columns, .int it_slugs])), (qt_rhythm, .inl (cI, 5, .inl (upd ft_rhythm (Int32.toNatClampNeg x1) x2))), (qt_rhythmLength, .inl (cI, 5, .inl (upd ft_rhythmLength (Int32.toNatClampNeg x1) x3)))] H := hP
    simp only [Option.some.injEq, Prod.mk.injEq] at h
    obtain ⟨rfl, rfl⟩ := h
    exact hret _ _ _ _ hP hS dX1_setRhythm_22
theorem hdX1_setRhythm : yX1_setRhythm.cls = RX1 ∧ yX1_setRhythm.cls ≠ "java/lang/invoke/MethodHandle" ∧ yX1_setRhythm.cls ≠ "java/lang/invoke/VarHandle" ∧ (parseMethodDescriptor yX1_setRhythm.desc).map (fun d => d.parameters.length) = some 3 := by decide +kernel

noncomputable def fX1_finish_L2 (N : Nat) : Nat → Int32 → Int32 → (Nat → Int32) → Option (Nat → Int32)
  | 0, _, _, _ => none
  | k + 1, x1, it_columns, ft_rhythmLength => (if it_columns ≤ x1 then some ft_rhythmLength else ck x1 5 ((if (ft_rhythmLength (Int32.toNatClampNeg x1)) = 0 then lt (x1 + 1) fun n5 => fX1_finish_L2 N k n5 it_columns (upd ft_rhythmLength (Int32.toNatClampNeg x1) 1) else lt (x1 + 1) fun n4 => fX1_finish_L2 N k n4 it_columns ft_rhythmLength)))
theorem fX1_finish_L2_s (N : Nat) (k : Nat) (x1 : Int32) (it_columns : Int32) (ft_rhythmLength : Nat → Int32) : fX1_finish_L2 N (k + 1) x1 it_columns ft_rhythmLength = ((if it_columns ≤ x1 then some ft_rhythmLength else ck x1 5 ((if (ft_rhythmLength (Int32.toNatClampNeg x1)) = 0 then lt (x1 + 1) fun n5 => fX1_finish_L2 N k n5 it_columns (upd ft_rhythmLength (Int32.toNatClampNeg x1) 1) else lt (x1 + 1) fun n4 => fX1_finish_L2 N k n4 it_columns ft_rhythmLength)))) := rfl
noncomputable def fX1_finish (N : Nat) (it_columns : Int32) (ft_rhythmLength : Nat → Int32) : Option (Nat → Int32) := bd (fX1_finish_L2 N N 0 it_columns ft_rhythmLength) fun g7 => some g7
set_option maxHeartbeats 4000000 in
set_option maxRecDepth 100000 in
theorem ctX1_finish (l : Launch) (D : va_G) (cI cZ cB cS : ClassId) (kK kV : Nat → Nat) (sz : Nat) (qt qt_value qt_weight qt_slugWeight qt_rhythm qt_rhythmLength qt_paidBy : Nat) (it_kinds : Int32) (it_columns : Int32) (it_slugs : Int32) (ft_rhythmLength : Nat → Int32)  (N : Nat) (w_ft_rhythmLength : Nat → Int32) (h : fX1_finish N it_columns ft_rhythmLength = some w_ft_rhythmLength) : CtV l yX1_finish wsX1_finish { frames := 0, cells := 0, slots := 0, locals := 0 } D (TY cI cZ cB cS) kK kV [.ref qt] [(qt, .inr (1, [.ref qt_value, .ref qt_weight, .ref qt_slugWeight, .ref qt_rhythm, .ref qt_rhythmLength, .ref qt_paidBy, .int it_kinds, .int it_columns, .int it_slugs])), (qt_rhythmLength, .inl (cI, 5, .inl ft_rhythmLength))] [(qt, .inr (1, [.ref qt_value, .ref qt_weight, .ref qt_slugWeight, .ref qt_rhythm, .ref qt_rhythmLength, .ref qt_paidBy, .int it_kinds, .int it_columns, .int it_slugs])), (qt_rhythmLength, .inl (cI, 5, .inl w_ft_rhythmLength))] sz := by
  refine mkV (cc := cX1_finish) (maxL := 2) (own := RX1) (by decide) rfl rfl (Nat.le_of_ble_eq_true rfl) ?_
  intro p e s m args below meth c A Z ls hx hb hml hown hts hK hN hX hP hD hA hS hret hl
  have hl : lv_has ls 2 [(0, .ref qt)] := hl
  have fl34 : (Cond.fieldLink RX1 34 "SoupWall$Plan" "columns" "I").before args s = true := hts _ (List.mem_of_getElem? (l := wsX1_finish) (i := 1) rfl)
  have hiX1 : ∀ w ∈ wsX10, w ∈ wsX1_finish := fun w h => List.mem_cons_of_mem _ (List.mem_append_right _ h)
  have fl24 : (Cond.fieldLink RX1 24 "SoupWall$Plan" "rhythmLength" "[I").before args s = true := hts _ (List.mem_of_getElem? (l := wsX1_finish) (i := 2) rfl)
  have lp2 : ∀ (k : Nat) (x1 : Int32) (ft_rhythmLength : Nat → Int32) (H : Heap) (locs : List Loc) (ls : Array Slot) (o : Nat → Int32), fX1_finish_L2 N k x1 it_columns ft_rhythmLength = some o → va_P D vwCl [(qt, .inr (1, [.ref qt_value, .ref qt_weight, .ref qt_slugWeight, .ref qt_rhythm, .ref qt_rhythmLength, .ref qt_paidBy, .int it_kinds, .int it_columns, .int it_slugs])), (qt_rhythmLength, .inl (cI, 5, .inl ft_rhythmLength))] H → va_S A s.heap H locs → lv_has ls 2 [(0, .ref qt), (1, .int x1)] → (∀ (e_ft_rhythmLength : Nat → Int32), e_ft_rhythmLength = o → ∀ (H : Heap) (locs : List Loc) (ls : Array Slot), va_P D vwCl [(qt, .inr (1, [.ref qt_value, .ref qt_weight, .ref qt_slugWeight, .ref qt_rhythm, .ref qt_rhythmLength, .ref qt_paidBy, .int it_kinds, .int it_columns, .int it_slugs])), (qt_rhythmLength, .inl (cI, 5, .inl e_ft_rhythmLength))] H → va_S A s.heap H locs → lv_has ls 2 [] → W p l e ({ frames := 0, cells := 0, slots := 0, locals := 0 } : Room) s m args below meth c H locs 0 0 Z (F0 m 32 ls [])) → W p l e ({ frames := 0, cells := 0, slots := 0, locals := 0 } : Room) s m args below meth c H locs 0 0 Z (F0 m 2 ls []) := by
    intro k
    induction k with
    | zero =>
      intro x1 ft_rhythmLength H locs ls o h
      exact nomatch (show (none : Option (Nat → Int32)) = some o from h)
    | succ k ih =>
      intro x1 ft_rhythmLength H locs ls o h hP hS hl K
      rw [fX1_finish_L2_s] at h
      refine lv_iload_n hx hb dX1_finish_2 rfl (lv_at hl 1 rfl) ?_
      refine lv_aload_n hx hb dX1_finish_3 rfl (lv_at hl 0 rfl) ?_
      refine va_get (ci := 1) (v := .int it_columns) (C := RX1) (T := TX1) (N := 9) hx hb hts hiX1 hown hK hP 0 rfl rfl 7 (by decide) fl34 (fun _ h9 => h9) rfl dX1_finish_4 ?_
      refine lv_icmp_ge (tgt := 32) hx hb dX1_finish_7 (by decide) (fun c1 => ?_) (fun c1 => ?_)
      · replace h := if_t c1 h
        exact K ft_rhythmLength (Option.some.inj h) _ _ _ hP hS (lv_sub hl [] rfl)
      · replace h := if_f c1 h
        refine lv_aload_n hx hb dX1_finish_10 rfl (lv_at hl 0 rfl) ?_
        refine va_get (ci := 1) (v := .ref qt_rhythmLength) (C := RX1) (T := TX1) (N := 9) hx hb hts hiX1 hown hK hP 0 rfl rfl 4 (by decide) fl24 (fun _ h9 => h9) rfl dX1_finish_11 ?_
        refine lv_iload_n hx hb dX1_finish_14 rfl (lv_at hl 1 rfl) ?_
        replace h := ck_el h
        obtain ⟨hi2, h⟩ := h
        refine va_iald hx hb hK hP 1 0 rfl rfl hi2 dX1_finish_15 ?_
        refine lv_if_ne (tgt := 26) hx hb dX1_finish_16 (by decide) (fun c3 => ?_) (fun c3 => ?_)
        · replace h := if_f c3 h
          obtain ⟨n4, en4⟩ : ∃ z : Int32, z = x1 + 1 := ⟨_, rfl⟩
          replace h := lt_at en4 h
          refine lv_iinc (v := n4) (lv' := [(1, .int n4), (0, .ref qt)]) hx hb dX1_finish_26 hl (k := 1) rfl (by rw [en4]; rfl) (by decide) rfl (fun ls hl => ?_)
          refine lv_goto (tgt := 2) hx hb dX1_finish_29 (by decide) ?_
          exact ih n4 ft_rhythmLength _ _ _ o h hP hS (lv_sub hl [1, 0] rfl) K
        · replace h := if_t c3 h
          refine lv_aload_n hx hb dX1_finish_19 rfl (lv_at hl 0 rfl) ?_
          refine va_get (ci := 1) (v := .ref qt_rhythmLength) (C := RX1) (T := TX1) (N := 9) hx hb hts hiX1 hown hK hP 0 rfl rfl 4 (by decide) fl24 (fun _ h9 => h9) rfl dX1_finish_20 ?_
          refine lv_iload_n hx hb dX1_finish_23 rfl (lv_at hl 1 rfl) ?_
          refine lv_iconst (v := 1) hx hb dX1_finish_24 (by decide) ?_
          refine va_iast hx hb hK hP (dF hD rfl) hS 1 0 rfl rfl hi2 dX1_finish_25 (fun H locs hP _ hS => ?_)
          replace hP : va_P D vwCl [(qt, .inr (1, [.ref qt_value, .ref qt_weight, .ref qt_slugWeight, .ref qt_rhythm, .ref qt_rhythmLength, .ref qt_paidBy, .int it_kinds, .int it_columns, .int it_slugs])), (qt_rhythmLength, .inl (cI, 5, .inl (upd ft_rhythmLength (Int32.toNatClampNeg x1) 1)))] H := hP
          obtain ⟨n5, en5⟩ : ∃ z : Int32, z = x1 + 1 := ⟨_, rfl⟩
          replace h := lt_at en5 h
          refine lv_iinc (v := n5) (lv' := [(1, .int n5), (0, .ref qt)]) hx hb dX1_finish_26 hl (k := 1) rfl (by rw [en5]; rfl) (by decide) rfl (fun ls hl => ?_)
          refine lv_goto (tgt := 2) hx hb dX1_finish_29 (by decide) ?_
          exact ih n5 (upd ft_rhythmLength (Int32.toNatClampNeg x1) 1) _ _ _ o h hP hS (lv_sub hl [1, 0] rfl) K
  unfold fX1_finish at h
  refine lv_iconst (v := 0) hx hb dX1_finish_0 (by decide) ?_
  refine lv_istore_n (lv' := [(1, .int 0), (0, .ref qt)]) hx hb dX1_finish_1 rfl hl (by decide) rfl (fun ls hl => ?_)
  replace h := bd_el h
  obtain ⟨o6, ho6, h⟩ := h
  refine lp2 N 0 ft_rhythmLength _ _ _ o6 ho6 hP hS (lv_sub hl [1, 0] rfl) (fun g7 eo H locs ls hP hS hl => ?_)
  subst eo
  simp only [Option.some.injEq] at h
  subst h
  exact hret _ _ _ _ hP hS dX1_finish_32
theorem hdX1_finish : yX1_finish.cls = RX1 ∧ yX1_finish.cls ≠ "java/lang/invoke/MethodHandle" ∧ yX1_finish.cls ≠ "java/lang/invoke/VarHandle" ∧ (parseMethodDescriptor yX1_finish.desc).map (fun d => d.parameters.length) = some 0 := by decide +kernel

noncomputable def fX1_isKind (N : Nat) (it_kinds : Int32) (x1 : Int32) : Option (Int32) := (if x1 < 0 then some 0 else (if it_kinds ≤ x1 then some 0 else some 1))
set_option maxHeartbeats 4000000 in
set_option maxRecDepth 100000 in
theorem ctX1_isKind (l : Launch) (D : va_G) (cI cZ cB cS : ClassId) (kK kV : Nat → Nat) (sz : Nat) (qt qt_value qt_weight qt_slugWeight qt_rhythm qt_rhythmLength qt_paidBy : Nat) (it_kinds : Int32) (it_columns : Int32) (it_slugs : Int32) (x1 : Int32) (N : Nat) (r0 : Int32)  (h : fX1_isKind N it_kinds x1 = some r0) : CtI l yX1_isKind wsX1_isKind { frames := 0, cells := 0, slots := 0, locals := 0 } D (TY cI cZ cB cS) kK kV [.ref qt, .int x1] [(qt, .inr (1, [.ref qt_value, .ref qt_weight, .ref qt_slugWeight, .ref qt_rhythm, .ref qt_rhythmLength, .ref qt_paidBy, .int it_kinds, .int it_columns, .int it_slugs]))] [(qt, .inr (1, [.ref qt_value, .ref qt_weight, .ref qt_slugWeight, .ref qt_rhythm, .ref qt_rhythmLength, .ref qt_paidBy, .int it_kinds, .int it_columns, .int it_slugs]))] sz r0 := by
  refine mkI (cc := cX1_isKind) (maxL := 2) (rt := .boolean) (own := RX1) (by decide) rfl rfl (Nat.le_of_ble_eq_true rfl) ?_
  intro p e s m args below meth c A Z ls hx hb hml hown hts hK hN hX hP hD hA hS hret hl
  have hl : lv_has ls 2 [(0, .ref qt), (1, .int x1)] := hl
  have fl30 : (Cond.fieldLink RX1 30 "SoupWall$Plan" "kinds" "I").before args s = true := hts _ (List.mem_of_getElem? (l := wsX1_isKind) (i := 1) rfl)
  have hiX1 : ∀ w ∈ wsX10, w ∈ wsX1_isKind := fun w h => List.mem_cons_of_mem _ (List.mem_append_right _ h)
  unfold fX1_isKind at h
  refine lv_iload_n hx hb dX1_isKind_0 rfl (lv_at hl 1 rfl) ?_
  refine lv_if_lt (tgt := 16) hx hb dX1_isKind_1 (by decide) (fun c1 => ?_) (fun c1 => ?_)
  · replace h := if_t c1 h
    refine lv_iconst (v := 0) hx hb dX1_isKind_16 (by decide) ?_
    simp only [Option.some.injEq] at h
    subst h
    exact hret _ _ _ _ hP hS rfl dX1_isKind_17
  · replace h := if_f c1 h
    refine lv_iload_n hx hb dX1_isKind_4 rfl (lv_at hl 1 rfl) ?_
    refine lv_aload_n hx hb dX1_isKind_5 rfl (lv_at hl 0 rfl) ?_
    refine va_get (ci := 1) (v := .int it_kinds) (C := RX1) (T := TX1) (N := 9) hx hb hts hiX1 hown hK hP 0 rfl rfl 6 (by decide) fl30 (fun _ h9 => h9) rfl dX1_isKind_6 ?_
    refine lv_icmp_ge (tgt := 16) hx hb dX1_isKind_9 (by decide) (fun c2 => ?_) (fun c2 => ?_)
    · replace h := if_t c2 h
      refine lv_iconst (v := 0) hx hb dX1_isKind_16 (by decide) ?_
      simp only [Option.some.injEq] at h
      subst h
      exact hret _ _ _ _ hP hS rfl dX1_isKind_17
    · replace h := if_f c2 h
      refine lv_iconst (v := 1) hx hb dX1_isKind_12 (by decide) ?_
      refine lv_goto (tgt := 17) hx hb dX1_isKind_13 (by decide) ?_
      simp only [Option.some.injEq] at h
      subst h
      exact hret _ _ _ _ hP hS rfl dX1_isKind_17
theorem hdX1_isKind : yX1_isKind.cls = RX1 ∧ yX1_isKind.cls ≠ "java/lang/invoke/MethodHandle" ∧ yX1_isKind.cls ≠ "java/lang/invoke/VarHandle" ∧ (parseMethodDescriptor yX1_isKind.desc).map (fun d => d.parameters.length) = some 1 := by decide +kernel

noncomputable def fX1_weightNow (N : Nat) (is1_worn : Int32) (ft_weight : Nat → Int32) (x2 : Int32) : Option (Int32) := ck x2 5 (lt ((ft_weight (Int32.toNatClampNeg x2)) - is1_worn) fun n2 => some n2)
set_option maxHeartbeats 4000000 in
set_option maxRecDepth 100000 in
theorem ctX1_weightNow (l : Launch) (D : va_G) (cI cZ cB cS : ClassId) (kK kV : Nat → Nat) (sz : Nat) (qt qt_value qt_weight qt_slugWeight qt_rhythm qt_rhythmLength qt_paidBy qs1 qs1_tube qs1_goods qs1_stick qs1_kicks qs1_kickCount qs1_low qs1_high qs1_price qs1_wired : Nat) (it_kinds : Int32) (it_columns : Int32) (it_slugs : Int32) (is1_lost : Int32) (is1_stamps : Int32) (is1_sales : Int32) (is1_damp : Int32) (is1_worn : Int32) (is1_seed : Int32) (ft_weight : Nat → Int32) (x2 : Int32) (N : Nat) (r0 : Int32)  (h : fX1_weightNow N is1_worn ft_weight x2 = some r0) : CtI l yX1_weightNow wsX1_weightNow { frames := 0, cells := 0, slots := 0, locals := 0 } D (TY cI cZ cB cS) kK kV [.ref qt, .ref qs1, .int x2] [(qt, .inr (1, [.ref qt_value, .ref qt_weight, .ref qt_slugWeight, .ref qt_rhythm, .ref qt_rhythmLength, .ref qt_paidBy, .int it_kinds, .int it_columns, .int it_slugs])), (qs1, .inr (4, [.ref qs1_tube, .ref qs1_goods, .ref qs1_stick, .ref qs1_kicks, .ref qs1_kickCount, .ref qs1_low, .ref qs1_high, .ref qs1_price, .ref qs1_wired, .int is1_lost, .int is1_stamps, .int is1_sales, .int is1_damp, .int is1_worn, .int is1_seed])), (qt_weight, .inl (cI, 5, .inl ft_weight))] [(qt, .inr (1, [.ref qt_value, .ref qt_weight, .ref qt_slugWeight, .ref qt_rhythm, .ref qt_rhythmLength, .ref qt_paidBy, .int it_kinds, .int it_columns, .int it_slugs])), (qs1, .inr (4, [.ref qs1_tube, .ref qs1_goods, .ref qs1_stick, .ref qs1_kicks, .ref qs1_kickCount, .ref qs1_low, .ref qs1_high, .ref qs1_price, .ref qs1_wired, .int is1_lost, .int is1_stamps, .int is1_sales, .int is1_damp, .int is1_worn, .int is1_seed])), (qt_weight, .inl (cI, 5, .inl ft_weight))] sz r0 := by
  refine mkI (cc := cX1_weightNow) (maxL := 3) (rt := .int) (own := RX1) (by decide) rfl rfl (Nat.le_of_ble_eq_true rfl) ?_
  intro p e s m args below meth c A Z ls hx hb hml hown hts hK hN hX hP hD hA hS hret hl
  have hl : lv_has ls 3 [(0, .ref qt), (1, .ref qs1), (2, .int x2)] := hl
  have fl15 : (Cond.fieldLink RX1 15 "SoupWall$Plan" "weight" "[I").before args s = true := hts _ (List.mem_of_getElem? (l := wsX1_weightNow) (i := 1) rfl)
  have hiX1 : ∀ w ∈ wsX10, w ∈ wsX1_weightNow := fun w h => List.mem_cons_of_mem _ (List.mem_append_left _ (List.mem_append_right _ h))
  have fl44 : (Cond.fieldLinkNest "SoupWall$Plan" 44 "SoupWall$State" "worn" "I" "SoupWall").before args s = true := hN.f 35 rfl
  have hiX4 : ∀ w ∈ wsX40, w ∈ wsX1_weightNow := fun w h => List.mem_cons_of_mem _ (List.mem_append_right _ h)
  unfold fX1_weightNow at h
  refine lv_aload_n hx hb dX1_weightNow_0 rfl (lv_at hl 0 rfl) ?_
  refine va_get (ci := 1) (v := .ref qt_weight) (C := RX1) (T := TX1) (N := 9) hx hb hts hiX1 hown hK hP 0 rfl rfl 1 (by decide) fl15 (fun _ h9 => h9) rfl dX1_weightNow_1 ?_
  refine lv_iload_n hx hb dX1_weightNow_4 rfl (lv_at hl 2 rfl) ?_
  replace h := ck_el h
  obtain ⟨hi1, h⟩ := h
  refine va_iald hx hb hK hP 2 0 rfl rfl hi1 dX1_weightNow_5 ?_
  refine lv_aload_n hx hb dX1_weightNow_6 rfl (lv_at hl 1 rfl) ?_
  refine va_getN (ci := 4) (v := .int is1_worn) (C := RX4) (T := TX4) (N := 15) hx hb hts hiX4 hown hK hP 1 rfl rfl 13 (by decide) fl44 (fun _ h9 => h9) rfl dX1_weightNow_7 ?_
  refine lv_isub hx hb dX1_weightNow_10 ?_
  refine lv_topi (fun n2 en2 => ?_)
  replace h := lt_at en2 h
  simp only [Option.some.injEq] at h
  subst h
  exact hret _ _ _ _ hP hS rfl dX1_weightNow_11
theorem hdX1_weightNow : yX1_weightNow.cls = RX1 ∧ yX1_weightNow.cls ≠ "java/lang/invoke/MethodHandle" ∧ yX1_weightNow.cls ≠ "java/lang/invoke/VarHandle" ∧ (parseMethodDescriptor yX1_weightNow.desc).map (fun d => d.parameters.length) = some 2 := by decide +kernel

noncomputable def fX1_passes (N : Nat) (is1_worn : Int32) (ft_weight : Nat → Int32) (fs1_low : Nat → Int32) (fs1_high : Nat → Int32) (x2 : Int32) (x3 : Int32) : Option (Int32) := bd (fX1_weightNow N is1_worn ft_weight x3) fun r1 => ck x2 5 ((if r1 < (fs1_low (Int32.toNatClampNeg x2)) then some 0 else bd (fX1_weightNow N is1_worn ft_weight x3) fun r5 => (if (fs1_high (Int32.toNatClampNeg x2)) < r5 then some 0 else some 1)))
set_option maxHeartbeats 4000000 in
set_option maxRecDepth 100000 in
theorem ctX1_passes (l : Launch) (D : va_G) (cI cZ cB cS : ClassId) (kK kV : Nat → Nat) (sz : Nat) (qt qt_value qt_weight qt_slugWeight qt_rhythm qt_rhythmLength qt_paidBy qs1 qs1_tube qs1_goods qs1_stick qs1_kicks qs1_kickCount qs1_low qs1_high qs1_price qs1_wired : Nat) (it_kinds : Int32) (it_columns : Int32) (it_slugs : Int32) (is1_lost : Int32) (is1_stamps : Int32) (is1_sales : Int32) (is1_damp : Int32) (is1_worn : Int32) (is1_seed : Int32) (ft_weight : Nat → Int32) (fs1_low : Nat → Int32) (fs1_high : Nat → Int32) (x2 : Int32) (x3 : Int32) (N : Nat) (r0 : Int32)  (h : fX1_passes N is1_worn ft_weight fs1_low fs1_high x2 x3 = some r0) : CtI l yX1_passes wsX1_passes { frames := 1, cells := 0, slots := 0, locals := 22 } D (TY cI cZ cB cS) kK kV [.ref qt, .ref qs1, .int x2, .int x3] [(qt, .inr (1, [.ref qt_value, .ref qt_weight, .ref qt_slugWeight, .ref qt_rhythm, .ref qt_rhythmLength, .ref qt_paidBy, .int it_kinds, .int it_columns, .int it_slugs])), (qs1, .inr (4, [.ref qs1_tube, .ref qs1_goods, .ref qs1_stick, .ref qs1_kicks, .ref qs1_kickCount, .ref qs1_low, .ref qs1_high, .ref qs1_price, .ref qs1_wired, .int is1_lost, .int is1_stamps, .int is1_sales, .int is1_damp, .int is1_worn, .int is1_seed])), (qt_weight, .inl (cI, 5, .inl ft_weight)), (qs1_low, .inl (cI, 5, .inl fs1_low)), (qs1_high, .inl (cI, 5, .inl fs1_high))] [(qt, .inr (1, [.ref qt_value, .ref qt_weight, .ref qt_slugWeight, .ref qt_rhythm, .ref qt_rhythmLength, .ref qt_paidBy, .int it_kinds, .int it_columns, .int it_slugs])), (qs1, .inr (4, [.ref qs1_tube, .ref qs1_goods, .ref qs1_stick, .ref qs1_kicks, .ref qs1_kickCount, .ref qs1_low, .ref qs1_high, .ref qs1_price, .ref qs1_wired, .int is1_lost, .int is1_stamps, .int is1_sales, .int is1_damp, .int is1_worn, .int is1_seed])), (qt_weight, .inl (cI, 5, .inl ft_weight)), (qs1_low, .inl (cI, 5, .inl fs1_low)), (qs1_high, .inl (cI, 5, .inl fs1_high))] sz r0 := by
  refine mkI (cc := cX1_passes) (maxL := 4) (rt := .boolean) (own := RX1) (by decide) rfl rfl (Nat.le_of_ble_eq_true rfl) ?_
  intro p e s m args below meth c A Z ls hx hb hml hown hts hK hN hX hP hD hA hS hret hl
  have hl : lv_has ls 4 [(0, .ref qt), (1, .ref qs1), (2, .int x2), (3, .int x3)] := hl
  have fl53 : (Cond.fieldLinkNest "SoupWall$Plan" 53 "SoupWall$State" "low" "[I" "SoupWall").before args s = true := hN.f 20 rfl
  have hiX4 : ∀ w ∈ wsX40, w ∈ wsX1_passes := fun w h => List.mem_cons_of_mem _ (List.mem_append_left _ (List.mem_append_right _ h))
  have fl56 : (Cond.fieldLinkNest "SoupWall$Plan" 56 "SoupWall$State" "high" "[I" "SoupWall").before args s = true := hN.f 22 rfl
  unfold fX1_passes at h
  refine lv_aload_n hx hb dX1_passes_0 rfl (lv_at hl 0 rfl) ?_
  refine lv_aload_n hx hb dX1_passes_1 rfl (lv_at hl 1 rfl) ?_
  refine lv_iload_n hx hb dX1_passes_2 rfl (lv_at hl 3 rfl) ?_
  replace h := bd_el h
  obtain ⟨r1, hc2, h⟩ := h
  refine callVI (rest := []) ⟨hx, hb, hml, hown, hts⟩ (ctX1_weightNow l D cI cZ cB cS kK kV _ qt qt_value qt_weight qt_slugWeight qt_rhythm qt_rhythmLength qt_paidBy qs1 qs1_tube qs1_goods qs1_stick qs1_kicks qs1_kickCount qs1_low qs1_high qs1_price qs1_wired it_kinds it_columns it_slugs is1_lost is1_stamps is1_sales is1_damp is1_worn is1_seed ft_weight x3 N r1 hc2) (cwV 2 hts gX1_passes_X1_weightNow rfl rfl rfl hdX1_weightNow ⟨Nat.le_of_ble_eq_true rfl, Nat.le_of_ble_eq_true rfl⟩) hK hN hX hP (dF hD rfl) hS hA [0, 1, 2] (mcC rfl (mcC rfl (mcC rfl mcN))) (by decide +kernel) [(qt, .inr (1, [.ref qt_value, .ref qt_weight, .ref qt_slugWeight, .ref qt_rhythm, .ref qt_rhythmLength, .ref qt_paidBy, .int it_kinds, .int it_columns, .int it_slugs])), (qs1, .inr (4, [.ref qs1_tube, .ref qs1_goods, .ref qs1_stick, .ref qs1_kicks, .ref qs1_kickCount, .ref qs1_low, .ref qs1_high, .ref qs1_price, .ref qs1_wired, .int is1_lost, .int is1_stamps, .int is1_sales, .int is1_damp, .int is1_worn, .int is1_seed])), (qt_weight, .inl (cI, 5, .inl ft_weight)), (qs1_low, .inl (cI, 5, .inl fs1_low)), (qs1_high, .inl (cI, 5, .inl fs1_high))] [3, 4] (mcC rfl (mcC rfl (mcC rfl mcN))) ((mcC rfl (mcC rfl mcN)).trans (mcC rfl (mcC rfl mcN)).symm) 5 rfl (by decide +kernel) (va_recv hK hP (ci := 1) (q0 := 0) rfl rfl) rfl hl.1 rfl (Nat.le_of_ble_eq_true rfl) ⟨Nat.zero_le _, Nat.zero_le _⟩ dX1_passes_3 (fun H locs hP hS => ?_)
  refine lv_aload_n hx hb dX1_passes_6 rfl (lv_at hl 1 rfl) ?_
  refine va_getN (ci := 4) (v := .ref qs1_low) (C := RX4) (T := TX4) (N := 15) hx hb hts hiX4 hown hK hP 1 rfl rfl 5 (by decide) fl53 (fun _ h9 => h9) rfl dX1_passes_7 ?_
  refine lv_iload_n hx hb dX1_passes_10 rfl (lv_at hl 2 rfl) ?_
  replace h := ck_el h
  obtain ⟨hi3, h⟩ := h
  refine va_iald hx hb hK hP 3 0 rfl rfl hi3 dX1_passes_11 ?_
  refine lv_icmp_lt (tgt := 34) hx hb dX1_passes_12 (by decide) (fun c4 => ?_) (fun c4 => ?_)
  · replace h := if_t c4 h
    refine lv_iconst (v := 0) hx hb dX1_passes_34 (by decide) ?_
    simp only [Option.some.injEq] at h
    subst h
    exact hret _ _ _ _ hP hS rfl dX1_passes_35
  · replace h := if_f c4 h
    refine lv_aload_n hx hb dX1_passes_15 rfl (lv_at hl 0 rfl) ?_
    refine lv_aload_n hx hb dX1_passes_16 rfl (lv_at hl 1 rfl) ?_
    refine lv_iload_n hx hb dX1_passes_17 rfl (lv_at hl 3 rfl) ?_
    replace h := bd_el h
    obtain ⟨r5, hc6, h⟩ := h
    refine callVI (rest := []) ⟨hx, hb, hml, hown, hts⟩ (ctX1_weightNow l D cI cZ cB cS kK kV _ qt qt_value qt_weight qt_slugWeight qt_rhythm qt_rhythmLength qt_paidBy qs1 qs1_tube qs1_goods qs1_stick qs1_kicks qs1_kickCount qs1_low qs1_high qs1_price qs1_wired it_kinds it_columns it_slugs is1_lost is1_stamps is1_sales is1_damp is1_worn is1_seed ft_weight x3 N r5 hc6) (cwV 2 hts gX1_passes_X1_weightNow rfl rfl rfl hdX1_weightNow ⟨Nat.le_of_ble_eq_true rfl, Nat.le_of_ble_eq_true rfl⟩) hK hN hX hP (dF hD rfl) hS hA [0, 1, 2] (mcC rfl (mcC rfl (mcC rfl mcN))) (by decide +kernel) [(qt, .inr (1, [.ref qt_value, .ref qt_weight, .ref qt_slugWeight, .ref qt_rhythm, .ref qt_rhythmLength, .ref qt_paidBy, .int it_kinds, .int it_columns, .int it_slugs])), (qs1, .inr (4, [.ref qs1_tube, .ref qs1_goods, .ref qs1_stick, .ref qs1_kicks, .ref qs1_kickCount, .ref qs1_low, .ref qs1_high, .ref qs1_price, .ref qs1_wired, .int is1_lost, .int is1_stamps, .int is1_sales, .int is1_damp, .int is1_worn, .int is1_seed])), (qt_weight, .inl (cI, 5, .inl ft_weight)), (qs1_low, .inl (cI, 5, .inl fs1_low)), (qs1_high, .inl (cI, 5, .inl fs1_high))] [3, 4] (mcC rfl (mcC rfl (mcC rfl mcN))) ((mcC rfl (mcC rfl mcN)).trans (mcC rfl (mcC rfl mcN)).symm) 5 rfl (by decide +kernel) (va_recv hK hP (ci := 1) (q0 := 0) rfl rfl) rfl hl.1 rfl (Nat.le_of_ble_eq_true rfl) ⟨Nat.zero_le _, Nat.zero_le _⟩ dX1_passes_18 (fun H locs hP hS => ?_)
    refine lv_aload_n hx hb dX1_passes_21 rfl (lv_at hl 1 rfl) ?_
    refine va_getN (ci := 4) (v := .ref qs1_high) (C := RX4) (T := TX4) (N := 15) hx hb hts hiX4 hown hK hP 1 rfl rfl 6 (by decide) fl56 (fun _ h9 => h9) rfl dX1_passes_22 ?_
    refine lv_iload_n hx hb dX1_passes_25 rfl (lv_at hl 2 rfl) ?_
    refine va_iald hx hb hK hP 4 0 rfl rfl hi3 dX1_passes_26 ?_
    refine lv_icmp_gt (tgt := 34) hx hb dX1_passes_27 (by decide) (fun c7 => ?_) (fun c7 => ?_)
    · replace h := if_t c7 h
      refine lv_iconst (v := 0) hx hb dX1_passes_34 (by decide) ?_
      simp only [Option.some.injEq] at h
      subst h
      exact hret _ _ _ _ hP hS rfl dX1_passes_35
    · replace h := if_f c7 h
      refine lv_iconst (v := 1) hx hb dX1_passes_30 (by decide) ?_
      refine lv_goto (tgt := 35) hx hb dX1_passes_31 (by decide) ?_
      simp only [Option.some.injEq] at h
      subst h
      exact hret _ _ _ _ hP hS rfl dX1_passes_35
theorem hdX1_passes : yX1_passes.cls = RX1 ∧ yX1_passes.cls ≠ "java/lang/invoke/MethodHandle" ∧ yX1_passes.cls ≠ "java/lang/invoke/VarHandle" ∧ (parseMethodDescriptor yX1_passes.desc).map (fun d => d.parameters.length) = some 3 := by decide +kernel

noncomputable def fX1_columnsPassedBy_L5 (N : Nat) : Nat → Int32 → Int32 → Int32 → Int32 → Int32 → (Nat → Int32) → (Nat → Int32) → (Nat → Int32) → Option (Int32)
  | 0, _, _, _, _, _, _, _, _ => none
  | k + 1, x2, x3, x4, it_columns, is1_worn, ft_weight, fs1_low, fs1_high => (if it_columns ≤ x4 then some x3 else bd (fX1_passes N is1_worn ft_weight fs1_low fs1_high x4 x2) fun r2 => (if r2 = 0 then lt (x4 + 1) fun n5 => fX1_columnsPassedBy_L5 N k x2 x3 n5 it_columns is1_worn ft_weight fs1_low fs1_high else lt (x3 ||| (1 <<< (x4 &&& 31))) fun n6 => lt (x4 + 1) fun n7 => fX1_columnsPassedBy_L5 N k x2 n6 n7 it_columns is1_worn ft_weight fs1_low fs1_high))
theorem fX1_columnsPassedBy_L5_s (N : Nat) (k : Nat) (x2 : Int32) (x3 : Int32) (x4 : Int32) (it_columns : Int32) (is1_worn : Int32) (ft_weight : Nat → Int32) (fs1_low : Nat → Int32) (fs1_high : Nat → Int32) : fX1_columnsPassedBy_L5 N (k + 1) x2 x3 x4 it_columns is1_worn ft_weight fs1_low fs1_high = ((if it_columns ≤ x4 then some x3 else bd (fX1_passes N is1_worn ft_weight fs1_low fs1_high x4 x2) fun r2 => (if r2 = 0 then lt (x4 + 1) fun n5 => fX1_columnsPassedBy_L5 N k x2 x3 n5 it_columns is1_worn ft_weight fs1_low fs1_high else lt (x3 ||| (1 <<< (x4 &&& 31))) fun n6 => lt (x4 + 1) fun n7 => fX1_columnsPassedBy_L5 N k x2 n6 n7 it_columns is1_worn ft_weight fs1_low fs1_high))) := rfl
noncomputable def fX1_columnsPassedBy (N : Nat) (it_columns : Int32) (is1_worn : Int32) (ft_weight : Nat → Int32) (fs1_low : Nat → Int32) (fs1_high : Nat → Int32) (x2 : Int32) : Option (Int32) := bd (fX1_columnsPassedBy_L5 N N x2 0 0 it_columns is1_worn ft_weight fs1_low fs1_high) fun n9 => some n9
set_option maxHeartbeats 4000000 in
set_option maxRecDepth 100000 in
theorem ctX1_columnsPassedBy (l : Launch) (D : va_G) (cI cZ cB cS : ClassId) (kK kV : Nat → Nat) (sz : Nat) (qt qt_value qt_weight qt_slugWeight qt_rhythm qt_rhythmLength qt_paidBy qs1 qs1_tube qs1_goods qs1_stick qs1_kicks qs1_kickCount qs1_low qs1_high qs1_price qs1_wired : Nat) (it_kinds : Int32) (it_columns : Int32) (it_slugs : Int32) (is1_lost : Int32) (is1_stamps : Int32) (is1_sales : Int32) (is1_damp : Int32) (is1_worn : Int32) (is1_seed : Int32) (ft_weight : Nat → Int32) (fs1_low : Nat → Int32) (fs1_high : Nat → Int32) (x2 : Int32) (N : Nat) (r0 : Int32)  (h : fX1_columnsPassedBy N it_columns is1_worn ft_weight fs1_low fs1_high x2 = some r0) : CtI l yX1_columnsPassedBy wsX1_columnsPassedBy { frames := 2, cells := 0, slots := 0, locals := 45 } D (TY cI cZ cB cS) kK kV [.ref qt, .ref qs1, .int x2] [(qt, .inr (1, [.ref qt_value, .ref qt_weight, .ref qt_slugWeight, .ref qt_rhythm, .ref qt_rhythmLength, .ref qt_paidBy, .int it_kinds, .int it_columns, .int it_slugs])), (qs1, .inr (4, [.ref qs1_tube, .ref qs1_goods, .ref qs1_stick, .ref qs1_kicks, .ref qs1_kickCount, .ref qs1_low, .ref qs1_high, .ref qs1_price, .ref qs1_wired, .int is1_lost, .int is1_stamps, .int is1_sales, .int is1_damp, .int is1_worn, .int is1_seed])), (qt_weight, .inl (cI, 5, .inl ft_weight)), (qs1_low, .inl (cI, 5, .inl fs1_low)), (qs1_high, .inl (cI, 5, .inl fs1_high))] [(qt, .inr (1, [.ref qt_value, .ref qt_weight, .ref qt_slugWeight, .ref qt_rhythm, .ref qt_rhythmLength, .ref qt_paidBy, .int it_kinds, .int it_columns, .int it_slugs])), (qs1, .inr (4, [.ref qs1_tube, .ref qs1_goods, .ref qs1_stick, .ref qs1_kicks, .ref qs1_kickCount, .ref qs1_low, .ref qs1_high, .ref qs1_price, .ref qs1_wired, .int is1_lost, .int is1_stamps, .int is1_sales, .int is1_damp, .int is1_worn, .int is1_seed])), (qt_weight, .inl (cI, 5, .inl ft_weight)), (qs1_low, .inl (cI, 5, .inl fs1_low)), (qs1_high, .inl (cI, 5, .inl fs1_high))] sz r0 := by
  refine mkI (cc := cX1_columnsPassedBy) (maxL := 5) (rt := .int) (own := RX1) (by decide) rfl rfl (Nat.le_of_ble_eq_true rfl) ?_
  intro p e s m args below meth c A Z ls hx hb hml hown hts hK hN hX hP hD hA hS hret hl
  have hl : lv_has ls 5 [(0, .ref qt), (1, .ref qs1), (2, .int x2)] := hl
  have fl34 : (Cond.fieldLink RX1 34 "SoupWall$Plan" "columns" "I").before args s = true := hts _ (List.mem_of_getElem? (l := wsX1_columnsPassedBy) (i := 1) rfl)
  have hiX1 : ∀ w ∈ wsX10, w ∈ wsX1_columnsPassedBy := fun w h => List.mem_cons_of_mem _ (List.mem_append_left _ (List.mem_append_right _ h))
  have lp5 : ∀ (k : Nat) (x2 : Int32) (x3 : Int32) (x4 : Int32)  (H : Heap) (locs : List Loc) (ls : Array Slot) (o : Int32), fX1_columnsPassedBy_L5 N k x2 x3 x4 it_columns is1_worn ft_weight fs1_low fs1_high = some o → va_P D vwCl [(qt, .inr (1, [.ref qt_value, .ref qt_weight, .ref qt_slugWeight, .ref qt_rhythm, .ref qt_rhythmLength, .ref qt_paidBy, .int it_kinds, .int it_columns, .int it_slugs])), (qs1, .inr (4, [.ref qs1_tube, .ref qs1_goods, .ref qs1_stick, .ref qs1_kicks, .ref qs1_kickCount, .ref qs1_low, .ref qs1_high, .ref qs1_price, .ref qs1_wired, .int is1_lost, .int is1_stamps, .int is1_sales, .int is1_damp, .int is1_worn, .int is1_seed])), (qt_weight, .inl (cI, 5, .inl ft_weight)), (qs1_low, .inl (cI, 5, .inl fs1_low)), (qs1_high, .inl (cI, 5, .inl fs1_high))] H → va_S A s.heap H locs → lv_has ls 5 [(0, .ref qt), (1, .ref qs1), (2, .int x2), (3, .int x3), (4, .int x4)] → (∀ (e3 : Int32), e3 = o → ∀ (H : Heap) (locs : List Loc) (ls : Array Slot), va_P D vwCl [(qt, .inr (1, [.ref qt_value, .ref qt_weight, .ref qt_slugWeight, .ref qt_rhythm, .ref qt_rhythmLength, .ref qt_paidBy, .int it_kinds, .int it_columns, .int it_slugs])), (qs1, .inr (4, [.ref qs1_tube, .ref qs1_goods, .ref qs1_stick, .ref qs1_kicks, .ref qs1_kickCount, .ref qs1_low, .ref qs1_high, .ref qs1_price, .ref qs1_wired, .int is1_lost, .int is1_stamps, .int is1_sales, .int is1_damp, .int is1_worn, .int is1_seed])), (qt_weight, .inl (cI, 5, .inl ft_weight)), (qs1_low, .inl (cI, 5, .inl fs1_low)), (qs1_high, .inl (cI, 5, .inl fs1_high))] H → va_S A s.heap H locs → lv_has ls 5 [(3, .int e3)] → W p l e ({ frames := 2, cells := 0, slots := 0, locals := 45 } : Room) s m args below meth c H locs 0 0 Z (F0 m 38 ls [])) → W p l e ({ frames := 2, cells := 0, slots := 0, locals := 45 } : Room) s m args below meth c H locs 0 0 Z (F0 m 5 ls []) := by
    intro k
    induction k with
    | zero =>
      intro x2 x3 x4 H locs ls o h
      exact nomatch (show (none : Option (Int32)) = some o from h)
    | succ k ih =>
      intro x2 x3 x4 H locs ls o h hP hS hl K
      rw [fX1_columnsPassedBy_L5_s] at h
      refine lv_iload hx hb dX1_columnsPassedBy_5 (lv_at hl 4 rfl) ?_
      refine lv_aload_n hx hb dX1_columnsPassedBy_7 rfl (lv_at hl 0 rfl) ?_
      refine va_get (ci := 1) (v := .int it_columns) (C := RX1) (T := TX1) (N := 9) hx hb hts hiX1 hown hK hP 0 rfl rfl 7 (by decide) fl34 (fun _ h9 => h9) rfl dX1_columnsPassedBy_8 ?_
      refine lv_icmp_ge (tgt := 38) hx hb dX1_columnsPassedBy_11 (by decide) (fun c1 => ?_) (fun c1 => ?_)
      · replace h := if_t c1 h
        exact K x3 (Option.some.inj h) _ _ _ hP hS (lv_sub hl [3] rfl)
      · replace h := if_f c1 h
        refine lv_aload_n hx hb dX1_columnsPassedBy_14 rfl (lv_at hl 0 rfl) ?_
        refine lv_aload_n hx hb dX1_columnsPassedBy_15 rfl (lv_at hl 1 rfl) ?_
        refine lv_iload hx hb dX1_columnsPassedBy_16 (lv_at hl 4 rfl) ?_
        refine lv_iload_n hx hb dX1_columnsPassedBy_18 rfl (lv_at hl 2 rfl) ?_
        replace h := bd_el h
        obtain ⟨r2, hc3, h⟩ := h
        refine callVI (rest := []) ⟨hx, hb, hml, hown, hts⟩ (ctX1_passes l D cI cZ cB cS kK kV _ qt qt_value qt_weight qt_slugWeight qt_rhythm qt_rhythmLength qt_paidBy qs1 qs1_tube qs1_goods qs1_stick qs1_kicks qs1_kickCount qs1_low qs1_high qs1_price qs1_wired it_kinds it_columns it_slugs is1_lost is1_stamps is1_sales is1_damp is1_worn is1_seed ft_weight fs1_low fs1_high x4 x2 N r2 hc3) (cwV 3 hts gX1_columnsPassedBy_X1_passes rfl rfl rfl hdX1_passes ⟨Nat.le_of_ble_eq_true rfl, Nat.le_of_ble_eq_true rfl⟩) hK hN hX hP (dF hD rfl) hS hA [0, 1, 2, 3, 4] (mcC rfl (mcC rfl (mcC rfl (mcC rfl (mcC rfl mcN))))) (by decide +kernel) [(qt, .inr (1, [.ref qt_value, .ref qt_weight, .ref qt_slugWeight, .ref qt_rhythm, .ref qt_rhythmLength, .ref qt_paidBy, .int it_kinds, .int it_columns, .int it_slugs])), (qs1, .inr (4, [.ref qs1_tube, .ref qs1_goods, .ref qs1_stick, .ref qs1_kicks, .ref qs1_kickCount, .ref qs1_low, .ref qs1_high, .ref qs1_price, .ref qs1_wired, .int is1_lost, .int is1_stamps, .int is1_sales, .int is1_damp, .int is1_worn, .int is1_seed])), (qt_weight, .inl (cI, 5, .inl ft_weight)), (qs1_low, .inl (cI, 5, .inl fs1_low)), (qs1_high, .inl (cI, 5, .inl fs1_high))] [] (mcC rfl (mcC rfl (mcC rfl (mcC rfl (mcC rfl mcN))))) (mcN.trans mcN.symm) 5 rfl (by decide +kernel) (va_recv hK hP (ci := 1) (q0 := 0) rfl rfl) rfl hl.1 rfl (Nat.le_of_ble_eq_true rfl) ⟨Nat.zero_le _, Nat.zero_le _⟩ dX1_columnsPassedBy_19 (fun H locs hP hS => ?_)
        refine lv_if_eq (tgt := 32) hx hb dX1_columnsPassedBy_22 (by decide) (fun c4 => ?_) (fun c4 => ?_)
        · replace h := if_t c4 h
          obtain ⟨n5, en5⟩ : ∃ z : Int32, z = x4 + 1 := ⟨_, rfl⟩
          replace h := lt_at en5 h
          refine lv_iinc (v := n5) (lv' := [(4, .int n5), (0, .ref qt), (1, .ref qs1), (2, .int x2), (3, .int x3)]) hx hb dX1_columnsPassedBy_32 hl (k := 4) rfl (by rw [en5]; rfl) (by decide) rfl (fun ls hl => ?_)
          refine lv_goto (tgt := 5) hx hb dX1_columnsPassedBy_35 (by decide) ?_
          exact ih x2 x3 n5 _ _ _ o h hP hS (lv_sub hl [1, 2, 3, 4, 0] rfl) K
        · replace h := if_f c4 h
          refine lv_iload_n hx hb dX1_columnsPassedBy_25 rfl (lv_at hl 3 rfl) ?_
          refine lv_iconst (v := 1) hx hb dX1_columnsPassedBy_26 (by decide) ?_
          refine lv_iload hx hb dX1_columnsPassedBy_27 (lv_at hl 4 rfl) ?_
          refine lv_ishl hx hb dX1_columnsPassedBy_29 ?_
          refine lv_ior hx hb dX1_columnsPassedBy_30 ?_
          refine lv_topi (fun n6 en6 => ?_)
          replace h := lt_at en6 h
          refine lv_istore_n (lv' := [(3, .int n6), (0, .ref qt), (1, .ref qs1), (2, .int x2), (4, .int x4)]) hx hb dX1_columnsPassedBy_31 rfl hl (by decide) rfl (fun ls hl => ?_)
          obtain ⟨n7, en7⟩ : ∃ z : Int32, z = x4 + 1 := ⟨_, rfl⟩
          replace h := lt_at en7 h
          refine lv_iinc (v := n7) (lv' := [(4, .int n7), (3, .int n6), (0, .ref qt), (1, .ref qs1), (2, .int x2)]) hx hb dX1_columnsPassedBy_32 hl (k := 4) rfl (by rw [en7]; rfl) (by decide) rfl (fun ls hl => ?_)
          refine lv_goto (tgt := 5) hx hb dX1_columnsPassedBy_35 (by decide) ?_
          exact ih x2 n6 n7 _ _ _ o h hP hS (lv_sub hl [2, 3, 4, 1, 0] rfl) K
  unfold fX1_columnsPassedBy at h
  refine lv_iconst (v := 0) hx hb dX1_columnsPassedBy_0 (by decide) ?_
  refine lv_istore_n (lv' := [(3, .int 0), (0, .ref qt), (1, .ref qs1), (2, .int x2)]) hx hb dX1_columnsPassedBy_1 rfl hl (by decide) rfl (fun ls hl => ?_)
  refine lv_iconst (v := 0) hx hb dX1_columnsPassedBy_2 (by decide) ?_
  refine lv_istore (lv' := [(4, .int 0), (3, .int 0), (0, .ref qt), (1, .ref qs1), (2, .int x2)]) hx hb dX1_columnsPassedBy_3 hl (by decide) rfl (fun ls hl => ?_)
  replace h := bd_el h
  obtain ⟨o8, ho8, h⟩ := h
  refine lp5 N x2 0 0 _ _ _ o8 ho8 hP hS (lv_sub hl [2, 3, 4, 1, 0] rfl) (fun n9 eo H locs ls hP hS hl => ?_)
  subst eo
  refine lv_iload_n hx hb dX1_columnsPassedBy_38 rfl (lv_at hl 0 rfl) ?_
  simp only [Option.some.injEq] at h
  subst h
  exact hret _ _ _ _ hP hS rfl dX1_columnsPassedBy_39
theorem hdX1_columnsPassedBy : yX1_columnsPassedBy.cls = RX1 ∧ yX1_columnsPassedBy.cls ≠ "java/lang/invoke/MethodHandle" ∧ yX1_columnsPassedBy.cls ≠ "java/lang/invoke/VarHandle" ∧ (parseMethodDescriptor yX1_columnsPassedBy.desc).map (fun d => d.parameters.length) = some 2 := by decide +kernel

noncomputable def fX1_kindsWithin_L6 (N : Nat) : Nat → Int32 → Int32 → Int32 → Int32 → Int32 → Int32 → (Nat → Int32) → Option (Int32)
  | 0, _, _, _, _, _, _, _ => none
  | k + 1, x2, x3, x4, x5, it_kinds, is1_worn, ft_weight => (if it_kinds ≤ x5 then some x4 else bd (fX1_weightNow N is1_worn ft_weight x5) fun r2 => (if r2 < x2 then lt (x5 + 1) fun n5 => fX1_kindsWithin_L6 N k x2 x3 x4 n5 it_kinds is1_worn ft_weight else bd (fX1_weightNow N is1_worn ft_weight x5) fun r6 => (if x3 < r6 then lt (x5 + 1) fun n9 => fX1_kindsWithin_L6 N k x2 x3 x4 n9 it_kinds is1_worn ft_weight else lt (x4 ||| (1 <<< (x5 &&& 31))) fun n10 => lt (x5 + 1) fun n11 => fX1_kindsWithin_L6 N k x2 x3 n10 n11 it_kinds is1_worn ft_weight)))
theorem fX1_kindsWithin_L6_s (N : Nat) (k : Nat) (x2 : Int32) (x3 : Int32) (x4 : Int32) (x5 : Int32) (it_kinds : Int32) (is1_worn : Int32) (ft_weight : Nat → Int32) : fX1_kindsWithin_L6 N (k + 1) x2 x3 x4 x5 it_kinds is1_worn ft_weight = ((if it_kinds ≤ x5 then some x4 else bd (fX1_weightNow N is1_worn ft_weight x5) fun r2 => (if r2 < x2 then lt (x5 + 1) fun n5 => fX1_kindsWithin_L6 N k x2 x3 x4 n5 it_kinds is1_worn ft_weight else bd (fX1_weightNow N is1_worn ft_weight x5) fun r6 => (if x3 < r6 then lt (x5 + 1) fun n9 => fX1_kindsWithin_L6 N k x2 x3 x4 n9 it_kinds is1_worn ft_weight else lt (x4 ||| (1 <<< (x5 &&& 31))) fun n10 => lt (x5 + 1) fun n11 => fX1_kindsWithin_L6 N k x2 x3 n10 n11 it_kinds is1_worn ft_weight)))) := rfl
noncomputable def fX1_kindsWithin (N : Nat) (it_kinds : Int32) (is1_worn : Int32) (ft_weight : Nat → Int32) (x2 : Int32) (x3 : Int32) : Option (Int32) := bd (fX1_kindsWithin_L6 N N x2 x3 0 0 it_kinds is1_worn ft_weight) fun n13 => some n13
set_option maxHeartbeats 4000000 in
set_option maxRecDepth 100000 in
theorem ctX1_kindsWithin (l : Launch) (D : va_G) (cI cZ cB cS : ClassId) (kK kV : Nat → Nat) (sz : Nat) (qt qt_value qt_weight qt_slugWeight qt_rhythm qt_rhythmLength qt_paidBy qs1 qs1_tube qs1_goods qs1_stick qs1_kicks qs1_kickCount qs1_low qs1_high qs1_price qs1_wired : Nat) (it_kinds : Int32) (it_columns : Int32) (it_slugs : Int32) (is1_lost : Int32) (is1_stamps : Int32) (is1_sales : Int32) (is1_damp : Int32) (is1_worn : Int32) (is1_seed : Int32) (ft_weight : Nat → Int32) (x2 : Int32) (x3 : Int32) (N : Nat) (r0 : Int32)  (h : fX1_kindsWithin N it_kinds is1_worn ft_weight x2 x3 = some r0) : CtI l yX1_kindsWithin wsX1_kindsWithin { frames := 1, cells := 0, slots := 0, locals := 22 } D (TY cI cZ cB cS) kK kV [.ref qt, .ref qs1, .int x2, .int x3] [(qt, .inr (1, [.ref qt_value, .ref qt_weight, .ref qt_slugWeight, .ref qt_rhythm, .ref qt_rhythmLength, .ref qt_paidBy, .int it_kinds, .int it_columns, .int it_slugs])), (qs1, .inr (4, [.ref qs1_tube, .ref qs1_goods, .ref qs1_stick, .ref qs1_kicks, .ref qs1_kickCount, .ref qs1_low, .ref qs1_high, .ref qs1_price, .ref qs1_wired, .int is1_lost, .int is1_stamps, .int is1_sales, .int is1_damp, .int is1_worn, .int is1_seed])), (qt_weight, .inl (cI, 5, .inl ft_weight))] [(qt, .inr (1, [.ref qt_value, .ref qt_weight, .ref qt_slugWeight, .ref qt_rhythm, .ref qt_rhythmLength, .ref qt_paidBy, .int it_kinds, .int it_columns, .int it_slugs])), (qs1, .inr (4, [.ref qs1_tube, .ref qs1_goods, .ref qs1_stick, .ref qs1_kicks, .ref qs1_kickCount, .ref qs1_low, .ref qs1_high, .ref qs1_price, .ref qs1_wired, .int is1_lost, .int is1_stamps, .int is1_sales, .int is1_damp, .int is1_worn, .int is1_seed])), (qt_weight, .inl (cI, 5, .inl ft_weight))] sz r0 := by
  refine mkI (cc := cX1_kindsWithin) (maxL := 6) (rt := .int) (own := RX1) (by decide) rfl rfl (Nat.le_of_ble_eq_true rfl) ?_
  intro p e s m args below meth c A Z ls hx hb hml hown hts hK hN hX hP hD hA hS hret hl
  have hl : lv_has ls 6 [(0, .ref qt), (1, .ref qs1), (2, .int x2), (3, .int x3)] := hl
  have fl30 : (Cond.fieldLink RX1 30 "SoupWall$Plan" "kinds" "I").before args s = true := hts _ (List.mem_of_getElem? (l := wsX1_kindsWithin) (i := 1) rfl)
  have hiX1 : ∀ w ∈ wsX10, w ∈ wsX1_kindsWithin := fun w h => List.mem_cons_of_mem _ (List.mem_append_left _ (List.mem_append_right _ h))
  have lp6 : ∀ (k : Nat) (x2 : Int32) (x3 : Int32) (x4 : Int32) (x5 : Int32)  (H : Heap) (locs : List Loc) (ls : Array Slot) (o : Int32), fX1_kindsWithin_L6 N k x2 x3 x4 x5 it_kinds is1_worn ft_weight = some o → va_P D vwCl [(qt, .inr (1, [.ref qt_value, .ref qt_weight, .ref qt_slugWeight, .ref qt_rhythm, .ref qt_rhythmLength, .ref qt_paidBy, .int it_kinds, .int it_columns, .int it_slugs])), (qs1, .inr (4, [.ref qs1_tube, .ref qs1_goods, .ref qs1_stick, .ref qs1_kicks, .ref qs1_kickCount, .ref qs1_low, .ref qs1_high, .ref qs1_price, .ref qs1_wired, .int is1_lost, .int is1_stamps, .int is1_sales, .int is1_damp, .int is1_worn, .int is1_seed])), (qt_weight, .inl (cI, 5, .inl ft_weight))] H → va_S A s.heap H locs → lv_has ls 6 [(0, .ref qt), (1, .ref qs1), (2, .int x2), (3, .int x3), (4, .int x4), (5, .int x5)] → (∀ (e4 : Int32), e4 = o → ∀ (H : Heap) (locs : List Loc) (ls : Array Slot), va_P D vwCl [(qt, .inr (1, [.ref qt_value, .ref qt_weight, .ref qt_slugWeight, .ref qt_rhythm, .ref qt_rhythmLength, .ref qt_paidBy, .int it_kinds, .int it_columns, .int it_slugs])), (qs1, .inr (4, [.ref qs1_tube, .ref qs1_goods, .ref qs1_stick, .ref qs1_kicks, .ref qs1_kickCount, .ref qs1_low, .ref qs1_high, .ref qs1_price, .ref qs1_wired, .int is1_lost, .int is1_stamps, .int is1_sales, .int is1_damp, .int is1_worn, .int is1_seed])), (qt_weight, .inl (cI, 5, .inl ft_weight))] H → va_S A s.heap H locs → lv_has ls 6 [(4, .int e4)] → W p l e ({ frames := 1, cells := 0, slots := 0, locals := 22 } : Room) s m args below meth c H locs 0 0 Z (F0 m 52 ls [])) → W p l e ({ frames := 1, cells := 0, slots := 0, locals := 22 } : Room) s m args below meth c H locs 0 0 Z (F0 m 6 ls []) := by
    intro k
    induction k with
    | zero =>
      intro x2 x3 x4 x5 H locs ls o h
      exact nomatch (show (none : Option (Int32)) = some o from h)
    | succ k ih =>
      intro x2 x3 x4 x5 H locs ls o h hP hS hl K
      rw [fX1_kindsWithin_L6_s] at h
      refine lv_iload hx hb dX1_kindsWithin_6 (lv_at hl 5 rfl) ?_
      refine lv_aload_n hx hb dX1_kindsWithin_8 rfl (lv_at hl 0 rfl) ?_
      refine va_get (ci := 1) (v := .int it_kinds) (C := RX1) (T := TX1) (N := 9) hx hb hts hiX1 hown hK hP 0 rfl rfl 6 (by decide) fl30 (fun _ h9 => h9) rfl dX1_kindsWithin_9 ?_
      refine lv_icmp_ge (tgt := 52) hx hb dX1_kindsWithin_12 (by decide) (fun c1 => ?_) (fun c1 => ?_)
      · replace h := if_t c1 h
        exact K x4 (Option.some.inj h) _ _ _ hP hS (lv_sub hl [4] rfl)
      · replace h := if_f c1 h
        refine lv_aload_n hx hb dX1_kindsWithin_15 rfl (lv_at hl 0 rfl) ?_
        refine lv_aload_n hx hb dX1_kindsWithin_16 rfl (lv_at hl 1 rfl) ?_
        refine lv_iload hx hb dX1_kindsWithin_17 (lv_at hl 5 rfl) ?_
        replace h := bd_el h
        obtain ⟨r2, hc3, h⟩ := h
        refine callVI (rest := []) ⟨hx, hb, hml, hown, hts⟩ (ctX1_weightNow l D cI cZ cB cS kK kV _ qt qt_value qt_weight qt_slugWeight qt_rhythm qt_rhythmLength qt_paidBy qs1 qs1_tube qs1_goods qs1_stick qs1_kicks qs1_kickCount qs1_low qs1_high qs1_price qs1_wired it_kinds it_columns it_slugs is1_lost is1_stamps is1_sales is1_damp is1_worn is1_seed ft_weight x5 N r2 hc3) (cwV 2 hts gX1_kindsWithin_X1_weightNow rfl rfl rfl hdX1_weightNow ⟨Nat.le_of_ble_eq_true rfl, Nat.le_of_ble_eq_true rfl⟩) hK hN hX hP (dF hD rfl) hS hA [0, 1, 2] (mcC rfl (mcC rfl (mcC rfl mcN))) (by decide +kernel) [(qt, .inr (1, [.ref qt_value, .ref qt_weight, .ref qt_slugWeight, .ref qt_rhythm, .ref qt_rhythmLength, .ref qt_paidBy, .int it_kinds, .int it_columns, .int it_slugs])), (qs1, .inr (4, [.ref qs1_tube, .ref qs1_goods, .ref qs1_stick, .ref qs1_kicks, .ref qs1_kickCount, .ref qs1_low, .ref qs1_high, .ref qs1_price, .ref qs1_wired, .int is1_lost, .int is1_stamps, .int is1_sales, .int is1_damp, .int is1_worn, .int is1_seed])), (qt_weight, .inl (cI, 5, .inl ft_weight))] [] (mcC rfl (mcC rfl (mcC rfl mcN))) (mcN.trans mcN.symm) 3 rfl (by decide +kernel) (va_recv hK hP (ci := 1) (q0 := 0) rfl rfl) rfl hl.1 rfl (Nat.le_of_ble_eq_true rfl) ⟨Nat.zero_le _, Nat.zero_le _⟩ dX1_kindsWithin_19 (fun H locs hP hS => ?_)
        refine lv_iload_n hx hb dX1_kindsWithin_22 rfl (lv_at hl 2 rfl) ?_
        refine lv_icmp_lt (tgt := 46) hx hb dX1_kindsWithin_23 (by decide) (fun c4 => ?_) (fun c4 => ?_)
        · replace h := if_t c4 h
          obtain ⟨n5, en5⟩ : ∃ z : Int32, z = x5 + 1 := ⟨_, rfl⟩
          replace h := lt_at en5 h
          refine lv_iinc (v := n5) (lv' := [(5, .int n5), (0, .ref qt), (1, .ref qs1), (2, .int x2), (3, .int x3), (4, .int x4)]) hx hb dX1_kindsWithin_46 hl (k := 5) rfl (by rw [en5]; rfl) (by decide) rfl (fun ls hl => ?_)
          refine lv_goto (tgt := 6) hx hb dX1_kindsWithin_49 (by decide) ?_
          exact ih x2 x3 x4 n5 _ _ _ o h hP hS (lv_sub hl [1, 2, 3, 4, 5, 0] rfl) K
        · replace h := if_f c4 h
          refine lv_aload_n hx hb dX1_kindsWithin_26 rfl (lv_at hl 0 rfl) ?_
          refine lv_aload_n hx hb dX1_kindsWithin_27 rfl (lv_at hl 1 rfl) ?_
          refine lv_iload hx hb dX1_kindsWithin_28 (lv_at hl 5 rfl) ?_
          replace h := bd_el h
          obtain ⟨r6, hc7, h⟩ := h
          refine callVI (rest := []) ⟨hx, hb, hml, hown, hts⟩ (ctX1_weightNow l D cI cZ cB cS kK kV _ qt qt_value qt_weight qt_slugWeight qt_rhythm qt_rhythmLength qt_paidBy qs1 qs1_tube qs1_goods qs1_stick qs1_kicks qs1_kickCount qs1_low qs1_high qs1_price qs1_wired it_kinds it_columns it_slugs is1_lost is1_stamps is1_sales is1_damp is1_worn is1_seed ft_weight x5 N r6 hc7) (cwV 2 hts gX1_kindsWithin_X1_weightNow rfl rfl rfl hdX1_weightNow ⟨Nat.le_of_ble_eq_true rfl, Nat.le_of_ble_eq_true rfl⟩) hK hN hX hP (dF hD rfl) hS hA [0, 1, 2] (mcC rfl (mcC rfl (mcC rfl mcN))) (by decide +kernel) [(qt, .inr (1, [.ref qt_value, .ref qt_weight, .ref qt_slugWeight, .ref qt_rhythm, .ref qt_rhythmLength, .ref qt_paidBy, .int it_kinds, .int it_columns, .int it_slugs])), (qs1, .inr (4, [.ref qs1_tube, .ref qs1_goods, .ref qs1_stick, .ref qs1_kicks, .ref qs1_kickCount, .ref qs1_low, .ref qs1_high, .ref qs1_price, .ref qs1_wired, .int is1_lost, .int is1_stamps, .int is1_sales, .int is1_damp, .int is1_worn, .int is1_seed])), (qt_weight, .inl (cI, 5, .inl ft_weight))] [] (mcC rfl (mcC rfl (mcC rfl mcN))) (mcN.trans mcN.symm) 3 rfl (by decide +kernel) (va_recv hK hP (ci := 1) (q0 := 0) rfl rfl) rfl hl.1 rfl (Nat.le_of_ble_eq_true rfl) ⟨Nat.zero_le _, Nat.zero_le _⟩ dX1_kindsWithin_30 (fun H locs hP hS => ?_)
          refine lv_iload_n hx hb dX1_kindsWithin_33 rfl (lv_at hl 3 rfl) ?_
          refine lv_icmp_gt (tgt := 46) hx hb dX1_kindsWithin_34 (by decide) (fun c8 => ?_) (fun c8 => ?_)
          · replace h := if_t c8 h
            obtain ⟨n9, en9⟩ : ∃ z : Int32, z = x5 + 1 := ⟨_, rfl⟩
            replace h := lt_at en9 h
            refine lv_iinc (v := n9) (lv' := [(5, .int n9), (0, .ref qt), (1, .ref qs1), (2, .int x2), (3, .int x3), (4, .int x4)]) hx hb dX1_kindsWithin_46 hl (k := 5) rfl (by rw [en9]; rfl) (by decide) rfl (fun ls hl => ?_)
            refine lv_goto (tgt := 6) hx hb dX1_kindsWithin_49 (by decide) ?_
            exact ih x2 x3 x4 n9 _ _ _ o h hP hS (lv_sub hl [1, 2, 3, 4, 5, 0] rfl) K
          · replace h := if_f c8 h
            refine lv_iload hx hb dX1_kindsWithin_37 (lv_at hl 4 rfl) ?_
            refine lv_iconst (v := 1) hx hb dX1_kindsWithin_39 (by decide) ?_
            refine lv_iload hx hb dX1_kindsWithin_40 (lv_at hl 5 rfl) ?_
            refine lv_ishl hx hb dX1_kindsWithin_42 ?_
            refine lv_ior hx hb dX1_kindsWithin_43 ?_
            refine lv_topi (fun n10 en10 => ?_)
            replace h := lt_at en10 h
            refine lv_istore (lv' := [(4, .int n10), (0, .ref qt), (1, .ref qs1), (2, .int x2), (3, .int x3), (5, .int x5)]) hx hb dX1_kindsWithin_44 hl (by decide) rfl (fun ls hl => ?_)
            obtain ⟨n11, en11⟩ : ∃ z : Int32, z = x5 + 1 := ⟨_, rfl⟩
            replace h := lt_at en11 h
            refine lv_iinc (v := n11) (lv' := [(5, .int n11), (4, .int n10), (0, .ref qt), (1, .ref qs1), (2, .int x2), (3, .int x3)]) hx hb dX1_kindsWithin_46 hl (k := 5) rfl (by rw [en11]; rfl) (by decide) rfl (fun ls hl => ?_)
            refine lv_goto (tgt := 6) hx hb dX1_kindsWithin_49 (by decide) ?_
            exact ih x2 x3 n10 n11 _ _ _ o h hP hS (lv_sub hl [2, 3, 4, 5, 1, 0] rfl) K
  unfold fX1_kindsWithin at h
  refine lv_iconst (v := 0) hx hb dX1_kindsWithin_0 (by decide) ?_
  refine lv_istore (lv' := [(4, .int 0), (0, .ref qt), (1, .ref qs1), (2, .int x2), (3, .int x3)]) hx hb dX1_kindsWithin_1 hl (by decide) rfl (fun ls hl => ?_)
  refine lv_iconst (v := 0) hx hb dX1_kindsWithin_3 (by decide) ?_
  refine lv_istore (lv' := [(5, .int 0), (4, .int 0), (0, .ref qt), (1, .ref qs1), (2, .int x2), (3, .int x3)]) hx hb dX1_kindsWithin_4 hl (by decide) rfl (fun ls hl => ?_)
  replace h := bd_el h
  obtain ⟨o12, ho12, h⟩ := h
  refine lp6 N x2 x3 0 0 _ _ _ o12 ho12 hP hS (lv_sub hl [2, 3, 4, 5, 1, 0] rfl) (fun n13 eo H locs ls hP hS hl => ?_)
  subst eo
  refine lv_iload hx hb dX1_kindsWithin_52 (lv_at hl 0 rfl) ?_
  simp only [Option.some.injEq] at h
  subst h
  exact hret _ _ _ _ hP hS rfl dX1_kindsWithin_54
theorem hdX1_kindsWithin : yX1_kindsWithin.cls = RX1 ∧ yX1_kindsWithin.cls ≠ "java/lang/invoke/MethodHandle" ∧ yX1_kindsWithin.cls ≠ "java/lang/invoke/VarHandle" ∧ (parseMethodDescriptor yX1_kindsWithin.desc).map (fun d => d.parameters.length) = some 3 := by decide +kernel

noncomputable def fX1_slugsWithin_L5 (N : Nat) : Nat → Int32 → Int32 → Int32 → Int32 → Int32 → (Nat → Int32) → Option (Int32)
  | 0, _, _, _, _, _, _ => none
  | k + 1, x1, x2, x3, x4, it_slugs, ft_slugWeight => (if it_slugs ≤ x4 then some x3 else ck x4 5 ((if (ft_slugWeight (Int32.toNatClampNeg x4)) < x1 then lt (x4 + 1) fun n4 => fX1_slugsWithin_L5 N k x1 x2 x3 n4 it_slugs ft_slugWeight else (if x2 < (ft_slugWeight (Int32.toNatClampNeg x4)) then lt (x4 + 1) fun n6 => fX1_slugsWithin_L5 N k x1 x2 x3 n6 it_slugs ft_slugWeight else lt (x3 ||| (1 <<< (x4 &&& 31))) fun n7 => lt (x4 + 1) fun n8 => fX1_slugsWithin_L5 N k x1 x2 n7 n8 it_slugs ft_slugWeight))))
theorem fX1_slugsWithin_L5_s (N : Nat) (k : Nat) (x1 : Int32) (x2 : Int32) (x3 : Int32) (x4 : Int32) (it_slugs : Int32) (ft_slugWeight : Nat → Int32) : fX1_slugsWithin_L5 N (k + 1) x1 x2 x3 x4 it_slugs ft_slugWeight = ((if it_slugs ≤ x4 then some x3 else ck x4 5 ((if (ft_slugWeight (Int32.toNatClampNeg x4)) < x1 then lt (x4 + 1) fun n4 => fX1_slugsWithin_L5 N k x1 x2 x3 n4 it_slugs ft_slugWeight else (if x2 < (ft_slugWeight (Int32.toNatClampNeg x4)) then lt (x4 + 1) fun n6 => fX1_slugsWithin_L5 N k x1 x2 x3 n6 it_slugs ft_slugWeight else lt (x3 ||| (1 <<< (x4 &&& 31))) fun n7 => lt (x4 + 1) fun n8 => fX1_slugsWithin_L5 N k x1 x2 n7 n8 it_slugs ft_slugWeight))))) := rfl
noncomputable def fX1_slugsWithin (N : Nat) (it_slugs : Int32) (ft_slugWeight : Nat → Int32) (x1 : Int32) (x2 : Int32) : Option (Int32) := bd (fX1_slugsWithin_L5 N N x1 x2 0 0 it_slugs ft_slugWeight) fun n10 => some n10
set_option maxHeartbeats 4000000 in
set_option maxRecDepth 100000 in
theorem ctX1_slugsWithin (l : Launch) (D : va_G) (cI cZ cB cS : ClassId) (kK kV : Nat → Nat) (sz : Nat) (qt qt_value qt_weight qt_slugWeight qt_rhythm qt_rhythmLength qt_paidBy : Nat) (it_kinds : Int32) (it_columns : Int32) (it_slugs : Int32) (ft_slugWeight : Nat → Int32) (x1 : Int32) (x2 : Int32) (N : Nat) (r0 : Int32)  (h : fX1_slugsWithin N it_slugs ft_slugWeight x1 x2 = some r0) : CtI l yX1_slugsWithin wsX1_slugsWithin { frames := 0, cells := 0, slots := 0, locals := 0 } D (TY cI cZ cB cS) kK kV [.ref qt, .int x1, .int x2] [(qt, .inr (1, [.ref qt_value, .ref qt_weight, .ref qt_slugWeight, .ref qt_rhythm, .ref qt_rhythmLength, .ref qt_paidBy, .int it_kinds, .int it_columns, .int it_slugs])), (qt_slugWeight, .inl (cI, 5, .inl ft_slugWeight))] [(qt, .inr (1, [.ref qt_value, .ref qt_weight, .ref qt_slugWeight, .ref qt_rhythm, .ref qt_rhythmLength, .ref qt_paidBy, .int it_kinds, .int it_columns, .int it_slugs])), (qt_slugWeight, .inl (cI, 5, .inl ft_slugWeight))] sz r0 := by
  refine mkI (cc := cX1_slugsWithin) (maxL := 5) (rt := .int) (own := RX1) (by decide) rfl rfl (Nat.le_of_ble_eq_true rfl) ?_
  intro p e s m args below meth c A Z ls hx hb hml hown hts hK hN hX hP hD hA hS hret hl
  have hl : lv_has ls 5 [(0, .ref qt), (1, .int x1), (2, .int x2)] := hl
  have fl37 : (Cond.fieldLink RX1 37 "SoupWall$Plan" "slugs" "I").before args s = true := hts _ (List.mem_of_getElem? (l := wsX1_slugsWithin) (i := 1) rfl)
  have hiX1 : ∀ w ∈ wsX10, w ∈ wsX1_slugsWithin := fun w h => List.mem_cons_of_mem _ (List.mem_append_right _ h)
  have fl18 : (Cond.fieldLink RX1 18 "SoupWall$Plan" "slugWeight" "[I").before args s = true := hts _ (List.mem_of_getElem? (l := wsX1_slugsWithin) (i := 2) rfl)
  have lp5 : ∀ (k : Nat) (x1 : Int32) (x2 : Int32) (x3 : Int32) (x4 : Int32)  (H : Heap) (locs : List Loc) (ls : Array Slot) (o : Int32), fX1_slugsWithin_L5 N k x1 x2 x3 x4 it_slugs ft_slugWeight = some o → va_P D vwCl [(qt, .inr (1, [.ref qt_value, .ref qt_weight, .ref qt_slugWeight, .ref qt_rhythm, .ref qt_rhythmLength, .ref qt_paidBy, .int it_kinds, .int it_columns, .int it_slugs])), (qt_slugWeight, .inl (cI, 5, .inl ft_slugWeight))] H → va_S A s.heap H locs → lv_has ls 5 [(0, .ref qt), (1, .int x1), (2, .int x2), (3, .int x3), (4, .int x4)] → (∀ (e3 : Int32), e3 = o → ∀ (H : Heap) (locs : List Loc) (ls : Array Slot), va_P D vwCl [(qt, .inr (1, [.ref qt_value, .ref qt_weight, .ref qt_slugWeight, .ref qt_rhythm, .ref qt_rhythmLength, .ref qt_paidBy, .int it_kinds, .int it_columns, .int it_slugs])), (qt_slugWeight, .inl (cI, 5, .inl ft_slugWeight))] H → va_S A s.heap H locs → lv_has ls 5 [(3, .int e3)] → W p l e ({ frames := 0, cells := 0, slots := 0, locals := 0 } : Room) s m args below meth c H locs 0 0 Z (F0 m 49 ls [])) → W p l e ({ frames := 0, cells := 0, slots := 0, locals := 0 } : Room) s m args below meth c H locs 0 0 Z (F0 m 5 ls []) := by
    intro k
    induction k with
    | zero =>
      intro x1 x2 x3 x4 H locs ls o h
      exact nomatch (show (none : Option (Int32)) = some o from h)
    | succ k ih =>
      intro x1 x2 x3 x4 H locs ls o h hP hS hl K
      rw [fX1_slugsWithin_L5_s] at h
      refine lv_iload hx hb dX1_slugsWithin_5 (lv_at hl 4 rfl) ?_
      refine lv_aload_n hx hb dX1_slugsWithin_7 rfl (lv_at hl 0 rfl) ?_
      refine va_get (ci := 1) (v := .int it_slugs) (C := RX1) (T := TX1) (N := 9) hx hb hts hiX1 hown hK hP 0 rfl rfl 8 (by decide) fl37 (fun _ h9 => h9) rfl dX1_slugsWithin_8 ?_
      refine lv_icmp_ge (tgt := 49) hx hb dX1_slugsWithin_11 (by decide) (fun c1 => ?_) (fun c1 => ?_)
      · replace h := if_t c1 h
        exact K x3 (Option.some.inj h) _ _ _ hP hS (lv_sub hl [3] rfl)
      · replace h := if_f c1 h
        refine lv_aload_n hx hb dX1_slugsWithin_14 rfl (lv_at hl 0 rfl) ?_
        refine va_get (ci := 1) (v := .ref qt_slugWeight) (C := RX1) (T := TX1) (N := 9) hx hb hts hiX1 hown hK hP 0 rfl rfl 2 (by decide) fl18 (fun _ h9 => h9) rfl dX1_slugsWithin_15 ?_
        refine lv_iload hx hb dX1_slugsWithin_18 (lv_at hl 4 rfl) ?_
        replace h := ck_el h
        obtain ⟨hi2, h⟩ := h
        refine va_iald hx hb hK hP 1 0 rfl rfl hi2 dX1_slugsWithin_20 ?_
        refine lv_iload_n hx hb dX1_slugsWithin_21 rfl (lv_at hl 1 rfl) ?_
        refine lv_icmp_lt (tgt := 43) hx hb dX1_slugsWithin_22 (by decide) (fun c3 => ?_) (fun c3 => ?_)
        · replace h := if_t c3 h
          obtain ⟨n4, en4⟩ : ∃ z : Int32, z = x4 + 1 := ⟨_, rfl⟩
          replace h := lt_at en4 h
          refine lv_iinc (v := n4) (lv' := [(4, .int n4), (0, .ref qt), (1, .int x1), (2, .int x2), (3, .int x3)]) hx hb dX1_slugsWithin_43 hl (k := 4) rfl (by rw [en4]; rfl) (by decide) rfl (fun ls hl => ?_)
          refine lv_goto (tgt := 5) hx hb dX1_slugsWithin_46 (by decide) ?_
          exact ih x1 x2 x3 n4 _ _ _ o h hP hS (lv_sub hl [1, 2, 3, 4, 0] rfl) K
        · replace h := if_f c3 h
          refine lv_aload_n hx hb dX1_slugsWithin_25 rfl (lv_at hl 0 rfl) ?_
          refine va_get (ci := 1) (v := .ref qt_slugWeight) (C := RX1) (T := TX1) (N := 9) hx hb hts hiX1 hown hK hP 0 rfl rfl 2 (by decide) fl18 (fun _ h9 => h9) rfl dX1_slugsWithin_26 ?_
          refine lv_iload hx hb dX1_slugsWithin_29 (lv_at hl 4 rfl) ?_
          refine va_iald hx hb hK hP 1 0 rfl rfl hi2 dX1_slugsWithin_31 ?_
          refine lv_iload_n hx hb dX1_slugsWithin_32 rfl (lv_at hl 2 rfl) ?_
          refine lv_icmp_gt (tgt := 43) hx hb dX1_slugsWithin_33 (by decide) (fun c5 => ?_) (fun c5 => ?_)
          · replace h := if_t c5 h
            obtain ⟨n6, en6⟩ : ∃ z : Int32, z = x4 + 1 := ⟨_, rfl⟩
            replace h := lt_at en6 h
            refine lv_iinc (v := n6) (lv' := [(4, .int n6), (0, .ref qt), (1, .int x1), (2, .int x2), (3, .int x3)]) hx hb dX1_slugsWithin_43 hl (k := 4) rfl (by rw [en6]; rfl) (by decide) rfl (fun ls hl => ?_)
            refine lv_goto (tgt := 5) hx hb dX1_slugsWithin_46 (by decide) ?_
            exact ih x1 x2 x3 n6 _ _ _ o h hP hS (lv_sub hl [1, 2, 3, 4, 0] rfl) K
          · replace h := if_f c5 h
            refine lv_iload_n hx hb dX1_slugsWithin_36 rfl (lv_at hl 3 rfl) ?_
            refine lv_iconst (v := 1) hx hb dX1_slugsWithin_37 (by decide) ?_
            refine lv_iload hx hb dX1_slugsWithin_38 (lv_at hl 4 rfl) ?_
            refine lv_ishl hx hb dX1_slugsWithin_40 ?_
            refine lv_ior hx hb dX1_slugsWithin_41 ?_
            refine lv_topi (fun n7 en7 => ?_)
            replace h := lt_at en7 h
            refine lv_istore_n (lv' := [(3, .int n7), (0, .ref qt), (1, .int x1), (2, .int x2), (4, .int x4)]) hx hb dX1_slugsWithin_42 rfl hl (by decide) rfl (fun ls hl => ?_)
            obtain ⟨n8, en8⟩ : ∃ z : Int32, z = x4 + 1 := ⟨_, rfl⟩
            replace h := lt_at en8 h
            refine lv_iinc (v := n8) (lv' := [(4, .int n8), (3, .int n7), (0, .ref qt), (1, .int x1), (2, .int x2)]) hx hb dX1_slugsWithin_43 hl (k := 4) rfl (by rw [en8]; rfl) (by decide) rfl (fun ls hl => ?_)
            refine lv_goto (tgt := 5) hx hb dX1_slugsWithin_46 (by decide) ?_
            exact ih x1 x2 n7 n8 _ _ _ o h hP hS (lv_sub hl [2, 3, 4, 1, 0] rfl) K
  unfold fX1_slugsWithin at h
  refine lv_iconst (v := 0) hx hb dX1_slugsWithin_0 (by decide) ?_
  refine lv_istore_n (lv' := [(3, .int 0), (0, .ref qt), (1, .int x1), (2, .int x2)]) hx hb dX1_slugsWithin_1 rfl hl (by decide) rfl (fun ls hl => ?_)
  refine lv_iconst (v := 0) hx hb dX1_slugsWithin_2 (by decide) ?_
  refine lv_istore (lv' := [(4, .int 0), (3, .int 0), (0, .ref qt), (1, .int x1), (2, .int x2)]) hx hb dX1_slugsWithin_3 hl (by decide) rfl (fun ls hl => ?_)
  replace h := bd_el h
  obtain ⟨o9, ho9, h⟩ := h
  refine lp5 N x1 x2 0 0 _ _ _ o9 ho9 hP hS (lv_sub hl [2, 3, 4, 1, 0] rfl) (fun n10 eo H locs ls hP hS hl => ?_)
  subst eo
  refine lv_iload_n hx hb dX1_slugsWithin_49 rfl (lv_at hl 0 rfl) ?_
  simp only [Option.some.injEq] at h
  subst h
  exact hret _ _ _ _ hP hS rfl dX1_slugsWithin_50
theorem hdX1_slugsWithin : yX1_slugsWithin.cls = RX1 ∧ yX1_slugsWithin.cls ≠ "java/lang/invoke/MethodHandle" ∧ yX1_slugsWithin.cls ≠ "java/lang/invoke/VarHandle" ∧ (parseMethodDescriptor yX1_slugsWithin.desc).map (fun d => d.parameters.length) = some 2 := by decide +kernel

noncomputable def fX1_valueOfTubes_L4 (N : Nat) : Nat → Int32 → Int32 → Int32 → (Nat → Int32) → (Nat → Int32) → Option (Int32)
  | 0, _, _, _, _, _ => none
  | k + 1, x2, x3, it_kinds, ft_value, fs1_tube => (if it_kinds ≤ x3 then some x2 else ck x3 5 (lt (x2 + ((ft_value (Int32.toNatClampNeg x3)) * (fs1_tube (Int32.toNatClampNeg x3)))) fun n3 => lt (x3 + 1) fun n4 => fX1_valueOfTubes_L4 N k n3 n4 it_kinds ft_value fs1_tube))
theorem fX1_valueOfTubes_L4_s (N : Nat) (k : Nat) (x2 : Int32) (x3 : Int32) (it_kinds : Int32) (ft_value : Nat → Int32) (fs1_tube : Nat → Int32) : fX1_valueOfTubes_L4 N (k + 1) x2 x3 it_kinds ft_value fs1_tube = ((if it_kinds ≤ x3 then some x2 else ck x3 5 (lt (x2 + ((ft_value (Int32.toNatClampNeg x3)) * (fs1_tube (Int32.toNatClampNeg x3)))) fun n3 => lt (x3 + 1) fun n4 => fX1_valueOfTubes_L4 N k n3 n4 it_kinds ft_value fs1_tube))) := rfl
noncomputable def fX1_valueOfTubes (N : Nat) (it_kinds : Int32) (ft_value : Nat → Int32) (fs1_tube : Nat → Int32) : Option (Int32) := bd (fX1_valueOfTubes_L4 N N 0 0 it_kinds ft_value fs1_tube) fun n6 => some n6
set_option maxHeartbeats 4000000 in
set_option maxRecDepth 100000 in
theorem ctX1_valueOfTubes (l : Launch) (D : va_G) (cI cZ cB cS : ClassId) (kK kV : Nat → Nat) (sz : Nat) (qt qt_value qt_weight qt_slugWeight qt_rhythm qt_rhythmLength qt_paidBy qs1 qs1_tube qs1_goods qs1_stick qs1_kicks qs1_kickCount qs1_low qs1_high qs1_price qs1_wired : Nat) (it_kinds : Int32) (it_columns : Int32) (it_slugs : Int32) (is1_lost : Int32) (is1_stamps : Int32) (is1_sales : Int32) (is1_damp : Int32) (is1_worn : Int32) (is1_seed : Int32) (ft_value : Nat → Int32) (fs1_tube : Nat → Int32)  (N : Nat) (r0 : Int32)  (h : fX1_valueOfTubes N it_kinds ft_value fs1_tube = some r0) : CtI l yX1_valueOfTubes wsX1_valueOfTubes { frames := 0, cells := 0, slots := 0, locals := 0 } D (TY cI cZ cB cS) kK kV [.ref qt, .ref qs1] [(qt, .inr (1, [.ref qt_value, .ref qt_weight, .ref qt_slugWeight, .ref qt_rhythm, .ref qt_rhythmLength, .ref qt_paidBy, .int it_kinds, .int it_columns, .int it_slugs])), (qs1, .inr (4, [.ref qs1_tube, .ref qs1_goods, .ref qs1_stick, .ref qs1_kicks, .ref qs1_kickCount, .ref qs1_low, .ref qs1_high, .ref qs1_price, .ref qs1_wired, .int is1_lost, .int is1_stamps, .int is1_sales, .int is1_damp, .int is1_worn, .int is1_seed])), (qt_value, .inl (cI, 5, .inl ft_value)), (qs1_tube, .inl (cI, 5, .inl fs1_tube))] [(qt, .inr (1, [.ref qt_value, .ref qt_weight, .ref qt_slugWeight, .ref qt_rhythm, .ref qt_rhythmLength, .ref qt_paidBy, .int it_kinds, .int it_columns, .int it_slugs])), (qs1, .inr (4, [.ref qs1_tube, .ref qs1_goods, .ref qs1_stick, .ref qs1_kicks, .ref qs1_kickCount, .ref qs1_low, .ref qs1_high, .ref qs1_price, .ref qs1_wired, .int is1_lost, .int is1_stamps, .int is1_sales, .int is1_damp, .int is1_worn, .int is1_seed])), (qt_value, .inl (cI, 5, .inl ft_value)), (qs1_tube, .inl (cI, 5, .inl fs1_tube))] sz r0 := by
  refine mkI (cc := cX1_valueOfTubes) (maxL := 4) (rt := .int) (own := RX1) (by decide) rfl rfl (Nat.le_of_ble_eq_true rfl) ?_
  intro p e s m args below meth c A Z ls hx hb hml hown hts hK hN hX hP hD hA hS hret hl
  have hl : lv_has ls 4 [(0, .ref qt), (1, .ref qs1)] := hl
  have fl30 : (Cond.fieldLink RX1 30 "SoupWall$Plan" "kinds" "I").before args s = true := hts _ (List.mem_of_getElem? (l := wsX1_valueOfTubes) (i := 1) rfl)
  have hiX1 : ∀ w ∈ wsX10, w ∈ wsX1_valueOfTubes := fun w h => List.mem_cons_of_mem _ (List.mem_append_left _ (List.mem_append_right _ h))
  have fl9 : (Cond.fieldLink RX1 9 "SoupWall$Plan" "value" "[I").before args s = true := hts _ (List.mem_of_getElem? (l := wsX1_valueOfTubes) (i := 2) rfl)
  have fl63 : (Cond.fieldLinkNest "SoupWall$Plan" 63 "SoupWall$State" "tube" "[I" "SoupWall").before args s = true := hN.f 12 rfl
  have hiX4 : ∀ w ∈ wsX40, w ∈ wsX1_valueOfTubes := fun w h => List.mem_cons_of_mem _ (List.mem_append_right _ h)
  have lp4 : ∀ (k : Nat) (x2 : Int32) (x3 : Int32)  (H : Heap) (locs : List Loc) (ls : Array Slot) (o : Int32), fX1_valueOfTubes_L4 N k x2 x3 it_kinds ft_value fs1_tube = some o → va_P D vwCl [(qt, .inr (1, [.ref qt_value, .ref qt_weight, .ref qt_slugWeight, .ref qt_rhythm, .ref qt_rhythmLength, .ref qt_paidBy, .int it_kinds, .int it_columns, .int it_slugs])), (qs1, .inr (4, [.ref qs1_tube, .ref qs1_goods, .ref qs1_stick, .ref qs1_kicks, .ref qs1_kickCount, .ref qs1_low, .ref qs1_high, .ref qs1_price, .ref qs1_wired, .int is1_lost, .int is1_stamps, .int is1_sales, .int is1_damp, .int is1_worn, .int is1_seed])), (qt_value, .inl (cI, 5, .inl ft_value)), (qs1_tube, .inl (cI, 5, .inl fs1_tube))] H → va_S A s.heap H locs → lv_has ls 4 [(0, .ref qt), (1, .ref qs1), (2, .int x2), (3, .int x3)] → (∀ (e2 : Int32), e2 = o → ∀ (H : Heap) (locs : List Loc) (ls : Array Slot), va_P D vwCl [(qt, .inr (1, [.ref qt_value, .ref qt_weight, .ref qt_slugWeight, .ref qt_rhythm, .ref qt_rhythmLength, .ref qt_paidBy, .int it_kinds, .int it_columns, .int it_slugs])), (qs1, .inr (4, [.ref qs1_tube, .ref qs1_goods, .ref qs1_stick, .ref qs1_kicks, .ref qs1_kickCount, .ref qs1_low, .ref qs1_high, .ref qs1_price, .ref qs1_wired, .int is1_lost, .int is1_stamps, .int is1_sales, .int is1_damp, .int is1_worn, .int is1_seed])), (qt_value, .inl (cI, 5, .inl ft_value)), (qs1_tube, .inl (cI, 5, .inl fs1_tube))] H → va_S A s.heap H locs → lv_has ls 4 [(2, .int e2)] → W p l e ({ frames := 0, cells := 0, slots := 0, locals := 0 } : Room) s m args below meth c H locs 0 0 Z (F0 m 34 ls [])) → W p l e ({ frames := 0, cells := 0, slots := 0, locals := 0 } : Room) s m args below meth c H locs 0 0 Z (F0 m 4 ls []) := by
    intro k
    induction k with
    | zero =>
      intro x2 x3 H locs ls o h
      exact nomatch (show (none : Option (Int32)) = some o from h)
    | succ k ih =>
      intro x2 x3 H locs ls o h hP hS hl K
      rw [fX1_valueOfTubes_L4_s] at h
      refine lv_iload_n hx hb dX1_valueOfTubes_4 rfl (lv_at hl 3 rfl) ?_
      refine lv_aload_n hx hb dX1_valueOfTubes_5 rfl (lv_at hl 0 rfl) ?_
      refine va_get (ci := 1) (v := .int it_kinds) (C := RX1) (T := TX1) (N := 9) hx hb hts hiX1 hown hK hP 0 rfl rfl 6 (by decide) fl30 (fun _ h9 => h9) rfl dX1_valueOfTubes_6 ?_
      refine lv_icmp_ge (tgt := 34) hx hb dX1_valueOfTubes_9 (by decide) (fun c1 => ?_) (fun c1 => ?_)
      · replace h := if_t c1 h
        exact K x2 (Option.some.inj h) _ _ _ hP hS (lv_sub hl [2] rfl)
      · replace h := if_f c1 h
        refine lv_iload_n hx hb dX1_valueOfTubes_12 rfl (lv_at hl 2 rfl) ?_
        refine lv_aload_n hx hb dX1_valueOfTubes_13 rfl (lv_at hl 0 rfl) ?_
        refine va_get (ci := 1) (v := .ref qt_value) (C := RX1) (T := TX1) (N := 9) hx hb hts hiX1 hown hK hP 0 rfl rfl 0 (by decide) fl9 (fun _ h9 => h9) rfl dX1_valueOfTubes_14 ?_
        refine lv_iload_n hx hb dX1_valueOfTubes_17 rfl (lv_at hl 3 rfl) ?_
        replace h := ck_el h
        obtain ⟨hi2, h⟩ := h
        refine va_iald hx hb hK hP 2 0 rfl rfl hi2 dX1_valueOfTubes_18 ?_
        refine lv_aload_n hx hb dX1_valueOfTubes_19 rfl (lv_at hl 1 rfl) ?_
        refine va_getN (ci := 4) (v := .ref qs1_tube) (C := RX4) (T := TX4) (N := 15) hx hb hts hiX4 hown hK hP 1 rfl rfl 0 (by decide) fl63 (fun _ h9 => h9) rfl dX1_valueOfTubes_20 ?_
        refine lv_iload_n hx hb dX1_valueOfTubes_23 rfl (lv_at hl 3 rfl) ?_
        refine va_iald hx hb hK hP 3 0 rfl rfl hi2 dX1_valueOfTubes_24 ?_
        refine lv_imul hx hb dX1_valueOfTubes_25 ?_
        refine lv_iadd hx hb dX1_valueOfTubes_26 ?_
        refine lv_topi (fun n3 en3 => ?_)
        replace h := lt_at en3 h
        refine lv_istore_n (lv' := [(2, .int n3), (0, .ref qt), (1, .ref qs1), (3, .int x3)]) hx hb dX1_valueOfTubes_27 rfl hl (by decide) rfl (fun ls hl => ?_)
        obtain ⟨n4, en4⟩ : ∃ z : Int32, z = x3 + 1 := ⟨_, rfl⟩
        replace h := lt_at en4 h
        refine lv_iinc (v := n4) (lv' := [(3, .int n4), (2, .int n3), (0, .ref qt), (1, .ref qs1)]) hx hb dX1_valueOfTubes_28 hl (k := 3) rfl (by rw [en4]; rfl) (by decide) rfl (fun ls hl => ?_)
        refine lv_goto (tgt := 4) hx hb dX1_valueOfTubes_31 (by decide) ?_
        exact ih n3 n4 _ _ _ o h hP hS (lv_sub hl [2, 3, 1, 0] rfl) K
  unfold fX1_valueOfTubes at h
  refine lv_iconst (v := 0) hx hb dX1_valueOfTubes_0 (by decide) ?_
  refine lv_istore_n (lv' := [(2, .int 0), (0, .ref qt), (1, .ref qs1)]) hx hb dX1_valueOfTubes_1 rfl hl (by decide) rfl (fun ls hl => ?_)
  refine lv_iconst (v := 0) hx hb dX1_valueOfTubes_2 (by decide) ?_
  refine lv_istore_n (lv' := [(3, .int 0), (2, .int 0), (0, .ref qt), (1, .ref qs1)]) hx hb dX1_valueOfTubes_3 rfl hl (by decide) rfl (fun ls hl => ?_)
  replace h := bd_el h
  obtain ⟨o5, ho5, h⟩ := h
  refine lp4 N 0 0 _ _ _ o5 ho5 hP hS (lv_sub hl [2, 3, 1, 0] rfl) (fun n6 eo H locs ls hP hS hl => ?_)
  subst eo
  refine lv_iload_n hx hb dX1_valueOfTubes_34 rfl (lv_at hl 0 rfl) ?_
  simp only [Option.some.injEq] at h
  subst h
  exact hret _ _ _ _ hP hS rfl dX1_valueOfTubes_35
theorem hdX1_valueOfTubes : yX1_valueOfTubes.cls = RX1 ∧ yX1_valueOfTubes.cls ≠ "java/lang/invoke/MethodHandle" ∧ yX1_valueOfTubes.cls ≠ "java/lang/invoke/VarHandle" ∧ (parseMethodDescriptor yX1_valueOfTubes.desc).map (fun d => d.parameters.length) = some 1 := by decide +kernel

noncomputable def fX1_isRhythm (N : Nat) (ft_rhythmLength : Nat → Int32) (ft_rhythm : Nat → Int32) (x1 : Int32) (x2 : Int32) (x3 : Int32) : Option (Int32) := ck x1 5 (lt (ft_rhythmLength (Int32.toNatClampNeg x1)) fun n2 => (if x3 < n2 then some 0 else (if (x2 &&& ((1 <<< (n2 &&& 31)) - 1)) = (ft_rhythm (Int32.toNatClampNeg x1)) then some 1 else some 0)))
set_option maxHeartbeats 4000000 in
set_option maxRecDepth 100000 in
theorem ctX1_isRhythm (l : Launch) (D : va_G) (cI cZ cB cS : ClassId) (kK kV : Nat → Nat) (sz : Nat) (qt qt_value qt_weight qt_slugWeight qt_rhythm qt_rhythmLength qt_paidBy : Nat) (it_kinds : Int32) (it_columns : Int32) (it_slugs : Int32) (ft_rhythmLength : Nat → Int32) (ft_rhythm : Nat → Int32) (x1 : Int32) (x2 : Int32) (x3 : Int32) (N : Nat) (r0 : Int32)  (h : fX1_isRhythm N ft_rhythmLength ft_rhythm x1 x2 x3 = some r0) : CtI l yX1_isRhythm wsX1_isRhythm { frames := 0, cells := 0, slots := 0, locals := 0 } D (TY cI cZ cB cS) kK kV [.ref qt, .int x1, .int x2, .int x3] [(qt, .inr (1, [.ref qt_value, .ref qt_weight, .ref qt_slugWeight, .ref qt_rhythm, .ref qt_rhythmLength, .ref qt_paidBy, .int it_kinds, .int it_columns, .int it_slugs])), (qt_rhythmLength, .inl (cI, 5, .inl ft_rhythmLength)), (qt_rhythm, .inl (cI, 5, .inl ft_rhythm))] [(qt, .inr (1, [.ref qt_value, .ref qt_weight, .ref qt_slugWeight, .ref qt_rhythm, .ref qt_rhythmLength, .ref qt_paidBy, .int it_kinds, .int it_columns, .int it_slugs])), (qt_rhythmLength, .inl (cI, 5, .inl ft_rhythmLength)), (qt_rhythm, .inl (cI, 5, .inl ft_rhythm))] sz r0 := by
  refine mkI (cc := cX1_isRhythm) (maxL := 5) (rt := .boolean) (own := RX1) (by decide) rfl rfl (Nat.le_of_ble_eq_true rfl) ?_
  intro p e s m args below meth c A Z ls hx hb hml hown hts hK hN hX hP hD hA hS hret hl
  have hl : lv_has ls 5 [(0, .ref qt), (1, .int x1), (2, .int x2), (3, .int x3)] := hl
  have fl24 : (Cond.fieldLink RX1 24 "SoupWall$Plan" "rhythmLength" "[I").before args s = true := hts _ (List.mem_of_getElem? (l := wsX1_isRhythm) (i := 1) rfl)
  have hiX1 : ∀ w ∈ wsX10, w ∈ wsX1_isRhythm := fun w h => List.mem_cons_of_mem _ (List.mem_append_right _ h)
  have fl21 : (Cond.fieldLink RX1 21 "SoupWall$Plan" "rhythm" "[I").before args s = true := hts _ (List.mem_of_getElem? (l := wsX1_isRhythm) (i := 2) rfl)
  unfold fX1_isRhythm at h
  refine lv_aload_n hx hb dX1_isRhythm_0 rfl (lv_at hl 0 rfl) ?_
  refine va_get (ci := 1) (v := .ref qt_rhythmLength) (C := RX1) (T := TX1) (N := 9) hx hb hts hiX1 hown hK hP 0 rfl rfl 4 (by decide) fl24 (fun _ h9 => h9) rfl dX1_isRhythm_1 ?_
  refine lv_iload_n hx hb dX1_isRhythm_4 rfl (lv_at hl 1 rfl) ?_
  replace h := ck_el h
  obtain ⟨hi1, h⟩ := h
  refine va_iald hx hb hK hP 1 0 rfl rfl hi1 dX1_isRhythm_5 ?_
  refine lv_topi (fun n2 en2 => ?_)
  replace h := lt_at en2 h
  refine lv_istore (lv' := [(4, .int n2), (0, .ref qt), (1, .int x1), (2, .int x2), (3, .int x3)]) hx hb dX1_isRhythm_6 hl (by decide) rfl (fun ls hl => ?_)
  refine lv_iload_n hx hb dX1_isRhythm_8 rfl (lv_at hl 4 rfl) ?_
  refine lv_iload hx hb dX1_isRhythm_9 (lv_at hl 0 rfl) ?_
  refine lv_icmp_lt (tgt := 35) hx hb dX1_isRhythm_11 (by decide) (fun c3 => ?_) (fun c3 => ?_)
  · replace h := if_t c3 h
    refine lv_iconst (v := 0) hx hb dX1_isRhythm_35 (by decide) ?_
    simp only [Option.some.injEq] at h
    subst h
    exact hret _ _ _ _ hP hS rfl dX1_isRhythm_36
  · replace h := if_f c3 h
    refine lv_iload_n hx hb dX1_isRhythm_14 rfl (lv_at hl 3 rfl) ?_
    refine lv_iconst (v := 1) hx hb dX1_isRhythm_15 (by decide) ?_
    refine lv_iload hx hb dX1_isRhythm_16 (lv_at hl 0 rfl) ?_
    refine lv_ishl hx hb dX1_isRhythm_18 ?_
    refine lv_iconst (v := 1) hx hb dX1_isRhythm_19 (by decide) ?_
    refine lv_isub hx hb dX1_isRhythm_20 ?_
    refine lv_iand hx hb dX1_isRhythm_21 ?_
    refine lv_aload_n hx hb dX1_isRhythm_22 rfl (lv_at hl 1 rfl) ?_
    refine va_get (ci := 1) (v := .ref qt_rhythm) (C := RX1) (T := TX1) (N := 9) hx hb hts hiX1 hown hK hP 0 rfl rfl 3 (by decide) fl21 (fun _ h9 => h9) rfl dX1_isRhythm_23 ?_
    refine lv_iload_n hx hb dX1_isRhythm_26 rfl (lv_at hl 2 rfl) ?_
    refine va_iald hx hb hK hP 2 0 rfl rfl hi1 dX1_isRhythm_27 ?_
    refine lv_icmp_ne (tgt := 35) hx hb dX1_isRhythm_28 (by decide) (fun c4 => ?_) (fun c4 => ?_)
    · replace h := if_f c4 h
      refine lv_iconst (v := 0) hx hb dX1_isRhythm_35 (by decide) ?_
      simp only [Option.some.injEq] at h
      subst h
      exact hret _ _ _ _ hP hS rfl dX1_isRhythm_36
    · replace h := if_t c4 h
      refine lv_iconst (v := 1) hx hb dX1_isRhythm_31 (by decide) ?_
      refine lv_goto (tgt := 36) hx hb dX1_isRhythm_32 (by decide) ?_
      simp only [Option.some.injEq] at h
      subst h
      exact hret _ _ _ _ hP hS rfl dX1_isRhythm_36
theorem hdX1_isRhythm : yX1_isRhythm.cls = RX1 ∧ yX1_isRhythm.cls ≠ "java/lang/invoke/MethodHandle" ∧ yX1_isRhythm.cls ≠ "java/lang/invoke/VarHandle" ∧ (parseMethodDescriptor yX1_isRhythm.desc).map (fun d => d.parameters.length) = some 3 := by decide +kernel

noncomputable def fX1_changeOf (N : Nat) (ft_value : Nat → Int32) (fs1_price : Nat → Int32) (x2 : Int32) (x3 : Int32) (x4 : Int32) : Option (Int32) := ck x3 5 (ck x2 5 (lt ((x4 * (ft_value (Int32.toNatClampNeg x3))) - (fs1_price (Int32.toNatClampNeg x2))) fun n3 => some n3))
set_option maxHeartbeats 4000000 in
set_option maxRecDepth 100000 in
theorem ctX1_changeOf (l : Launch) (D : va_G) (cI cZ cB cS : ClassId) (kK kV : Nat → Nat) (sz : Nat) (qt qt_value qt_weight qt_slugWeight qt_rhythm qt_rhythmLength qt_paidBy qs1 qs1_tube qs1_goods qs1_stick qs1_kicks qs1_kickCount qs1_low qs1_high qs1_price qs1_wired : Nat) (it_kinds : Int32) (it_columns : Int32) (it_slugs : Int32) (is1_lost : Int32) (is1_stamps : Int32) (is1_sales : Int32) (is1_damp : Int32) (is1_worn : Int32) (is1_seed : Int32) (ft_value : Nat → Int32) (fs1_price : Nat → Int32) (x2 : Int32) (x3 : Int32) (x4 : Int32) (N : Nat) (r0 : Int32)  (h : fX1_changeOf N ft_value fs1_price x2 x3 x4 = some r0) : CtI l yX1_changeOf wsX1_changeOf { frames := 0, cells := 0, slots := 0, locals := 0 } D (TY cI cZ cB cS) kK kV [.ref qt, .ref qs1, .int x2, .int x3, .int x4] [(qt, .inr (1, [.ref qt_value, .ref qt_weight, .ref qt_slugWeight, .ref qt_rhythm, .ref qt_rhythmLength, .ref qt_paidBy, .int it_kinds, .int it_columns, .int it_slugs])), (qs1, .inr (4, [.ref qs1_tube, .ref qs1_goods, .ref qs1_stick, .ref qs1_kicks, .ref qs1_kickCount, .ref qs1_low, .ref qs1_high, .ref qs1_price, .ref qs1_wired, .int is1_lost, .int is1_stamps, .int is1_sales, .int is1_damp, .int is1_worn, .int is1_seed])), (qt_value, .inl (cI, 5, .inl ft_value)), (qs1_price, .inl (cI, 5, .inl fs1_price))] [(qt, .inr (1, [.ref qt_value, .ref qt_weight, .ref qt_slugWeight, .ref qt_rhythm, .ref qt_rhythmLength, .ref qt_paidBy, .int it_kinds, .int it_columns, .int it_slugs])), (qs1, .inr (4, [.ref qs1_tube, .ref qs1_goods, .ref qs1_stick, .ref qs1_kicks, .ref qs1_kickCount, .ref qs1_low, .ref qs1_high, .ref qs1_price, .ref qs1_wired, .int is1_lost, .int is1_stamps, .int is1_sales, .int is1_damp, .int is1_worn, .int is1_seed])), (qt_value, .inl (cI, 5, .inl ft_value)), (qs1_price, .inl (cI, 5, .inl fs1_price))] sz r0 := by
  refine mkI (cc := cX1_changeOf) (maxL := 5) (rt := .int) (own := RX1) (by decide) rfl rfl (Nat.le_of_ble_eq_true rfl) ?_
  intro p e s m args below meth c A Z ls hx hb hml hown hts hK hN hX hP hD hA hS hret hl
  have hl : lv_has ls 5 [(0, .ref qt), (1, .ref qs1), (2, .int x2), (3, .int x3), (4, .int x4)] := hl
  have fl9 : (Cond.fieldLink RX1 9 "SoupWall$Plan" "value" "[I").before args s = true := hts _ (List.mem_of_getElem? (l := wsX1_changeOf) (i := 1) rfl)
  have hiX1 : ∀ w ∈ wsX10, w ∈ wsX1_changeOf := fun w h => List.mem_cons_of_mem _ (List.mem_append_left _ (List.mem_append_right _ h))
  have fl66 : (Cond.fieldLinkNest "SoupWall$Plan" 66 "SoupWall$State" "price" "[I" "SoupWall").before args s = true := hN.f 24 rfl
  have hiX4 : ∀ w ∈ wsX40, w ∈ wsX1_changeOf := fun w h => List.mem_cons_of_mem _ (List.mem_append_right _ h)
  unfold fX1_changeOf at h
  refine lv_iload hx hb dX1_changeOf_0 (lv_at hl 4 rfl) ?_
  refine lv_aload_n hx hb dX1_changeOf_2 rfl (lv_at hl 0 rfl) ?_
  refine va_get (ci := 1) (v := .ref qt_value) (C := RX1) (T := TX1) (N := 9) hx hb hts hiX1 hown hK hP 0 rfl rfl 0 (by decide) fl9 (fun _ h9 => h9) rfl dX1_changeOf_3 ?_
  refine lv_iload_n hx hb dX1_changeOf_6 rfl (lv_at hl 3 rfl) ?_
  replace h := ck_el h
  obtain ⟨hi1, h⟩ := h
  refine va_iald hx hb hK hP 2 0 rfl rfl hi1 dX1_changeOf_7 ?_
  refine lv_imul hx hb dX1_changeOf_8 ?_
  refine lv_aload_n hx hb dX1_changeOf_9 rfl (lv_at hl 1 rfl) ?_
  refine va_getN (ci := 4) (v := .ref qs1_price) (C := RX4) (T := TX4) (N := 15) hx hb hts hiX4 hown hK hP 1 rfl rfl 7 (by decide) fl66 (fun _ h9 => h9) rfl dX1_changeOf_10 ?_
  refine lv_iload_n hx hb dX1_changeOf_13 rfl (lv_at hl 2 rfl) ?_
  replace h := ck_el h
  obtain ⟨hi2, h⟩ := h
  refine va_iald hx hb hK hP 3 0 rfl rfl hi2 dX1_changeOf_14 ?_
  refine lv_isub hx hb dX1_changeOf_15 ?_
  refine lv_topi (fun n3 en3 => ?_)
  replace h := lt_at en3 h
  simp only [Option.some.injEq] at h
  subst h
  exact hret _ _ _ _ hP hS rfl dX1_changeOf_16
theorem hdX1_changeOf : yX1_changeOf.cls = RX1 ∧ yX1_changeOf.cls ≠ "java/lang/invoke/MethodHandle" ∧ yX1_changeOf.cls ≠ "java/lang/invoke/VarHandle" ∧ (parseMethodDescriptor yX1_changeOf.desc).map (fun d => d.parameters.length) = some 4 := by decide +kernel

noncomputable def fX1_payBack_L5 (N : Nat) : Nat → Int32 → Int32 → Int32 → Int32 → (Nat → Int32) → (Nat → Int32) → (Nat → Int32) → Option (Int32 × (Nat → Int32))
  | 0, _, _, _, _, _, _, _ => none
  | k + 1, x2, x3, x4, it_kinds, fs1, ft_paidBy, ft_value => (if it_kinds ≤ x4 then some (x3, fs1) else ck x4 5 (lt (ft_paidBy (Int32.toNatClampNeg x4)) fun n3 => ck n3 5 ((if (ft_value (Int32.toNatClampNeg n3)) ≤ 0 then lt (x4 + 1) fun n6 => fX1_payBack_L5 N k x2 x3 n6 it_kinds fs1 ft_paidBy ft_value else nz (ft_value (Int32.toNatClampNeg n3)) (lt ((if (x3 / (ft_value (Int32.toNatClampNeg n3))) < (fs1 (Int32.toNatClampNeg n3)) then (x3 / (ft_value (Int32.toNatClampNeg n3))) else (fs1 (Int32.toNatClampNeg n3)))) fun n8 => lt ((fs1 (Int32.toNatClampNeg n3)) - n8) fun n9 => lt (x3 - (n8 * (ft_value (Int32.toNatClampNeg n3)))) fun n10 => lt (x4 + 1) fun n11 => fX1_payBack_L5 N k x2 n10 n11 it_kinds (upd fs1 (Int32.toNatClampNeg n3) n9) ft_paidBy ft_value)))))
theorem fX1_payBack_L5_s (N : Nat) (k : Nat) (x2 : Int32) (x3 : Int32) (x4 : Int32) (it_kinds : Int32) (fs1 : Nat → Int32) (ft_paidBy : Nat → Int32) (ft_value : Nat → Int32) : fX1_payBack_L5 N (k + 1) x2 x3 x4 it_kinds fs1 ft_paidBy ft_value = ((if it_kinds ≤ x4 then some (x3, fs1) else ck x4 5 (lt (ft_paidBy (Int32.toNatClampNeg x4)) fun n3 => ck n3 5 ((if (ft_value (Int32.toNatClampNeg n3)) ≤ 0 then lt (x4 + 1) fun n6 => fX1_payBack_L5 N k x2 x3 n6 it_kinds fs1 ft_paidBy ft_value else nz (ft_value (Int32.toNatClampNeg n3)) (lt ((if (x3 / (ft_value (Int32.toNatClampNeg n3))) < (fs1 (Int32.toNatClampNeg n3)) then (x3 / (ft_value (Int32.toNatClampNeg n3))) else (fs1 (Int32.toNatClampNeg n3)))) fun n8 => lt ((fs1 (Int32.toNatClampNeg n3)) - n8) fun n9 => lt (x3 - (n8 * (ft_value (Int32.toNatClampNeg n3)))) fun n10 => lt (x4 + 1) fun n11 => fX1_payBack_L5 N k x2 n10 n11 it_kinds (upd fs1 (Int32.toNatClampNeg n3) n9) ft_paidBy ft_value)))))) := rfl
noncomputable def fX1_payBack (N : Nat) (it_kinds : Int32) (fs1 : Nat → Int32) (ft_paidBy : Nat → Int32) (ft_value : Nat → Int32) (x2 : Int32) : Option (Int32 × (Nat → Int32)) := bd (fX1_payBack_L5 N N x2 x2 0 it_kinds fs1 ft_paidBy ft_value) fun (n13, g14) => lt (x2 - n13) fun n15 => some (n15, g14)
set_option maxHeartbeats 4000000 in
set_option maxRecDepth 100000 in
theorem ctX1_payBack (l : Launch) (D : va_G) (cI cZ cB cS : ClassId) (kK kV : Nat → Nat) (sz : Nat) (qt qt_value qt_weight qt_slugWeight qt_rhythm qt_rhythmLength qt_paidBy qs1 : Nat) (it_kinds : Int32) (it_columns : Int32) (it_slugs : Int32) (fs1 : Nat → Int32) (ft_paidBy : Nat → Int32) (ft_value : Nat → Int32) (x2 : Int32) (N : Nat) (r0 : Int32) (w_fs1 : Nat → Int32) (h : fX1_payBack N it_kinds fs1 ft_paidBy ft_value x2 = some (r0, w_fs1)) : CtI l yX1_payBack wsX1_payBack { frames := 1, cells := 0, slots := 0, locals := 21 } D (TY cI cZ cB cS) kK kV [.ref qt, .ref qs1, .int x2] [(qt, .inr (1, [.ref qt_value, .ref qt_weight, .ref qt_slugWeight, .ref qt_rhythm, .ref qt_rhythmLength, .ref qt_paidBy, .int it_kinds, .int it_columns, .int it_slugs])), (qs1, .inl (cI, 5, .inl fs1)), (qt_paidBy, .inl (cI, 5, .inl ft_paidBy)), (qt_value, .inl (cI, 5, .inl ft_value))] [(qt, .inr (1, [.ref qt_value, .ref qt_weight, .ref qt_slugWeight, .ref qt_rhythm, .ref qt_rhythmLength, .ref qt_paidBy, .int it_kinds, .int it_columns, .int it_slugs])), (qs1, .inl (cI, 5, .inl w_fs1)), (qt_paidBy, .inl (cI, 5, .inl ft_paidBy)), (qt_value, .inl (cI, 5, .inl ft_value))] sz r0 := by
  refine mkI (cc := cX1_payBack) (maxL := 7) (rt := .int) (own := RX1) (by decide) rfl rfl (Nat.le_of_ble_eq_true rfl) ?_
  intro p e s m args below meth c A Z ls hx hb hml hown hts hK hN hX hP hD hA hS hret hl
  have hl : lv_has ls 7 [(0, .ref qt), (1, .ref qs1), (2, .int x2)] := hl
  have fl30 : (Cond.fieldLink RX1 30 "SoupWall$Plan" "kinds" "I").before args s = true := hts _ (List.mem_of_getElem? (l := wsX1_payBack) (i := 1) rfl)
  have hiX1 : ∀ w ∈ wsX10, w ∈ wsX1_payBack := fun w h => List.mem_cons_of_mem _ (List.mem_append_right _ h)
  have fl27 : (Cond.fieldLink RX1 27 "SoupWall$Plan" "paidBy" "[I").before args s = true := hts _ (List.mem_of_getElem? (l := wsX1_payBack) (i := 2) rfl)
  have fl9 : (Cond.fieldLink RX1 9 "SoupWall$Plan" "value" "[I").before args s = true := hts _ (List.mem_of_getElem? (l := wsX1_payBack) (i := 3) rfl)
  have ml95 : (Cond.methodLink RX1 95 Lib.Math.min.name).before args s = true := hts _ (List.mem_of_getElem? (l := wsX1_payBack) (i := 4) rfl)
  have msmin : (Cond.static Lib.Math.min.name).before args s = true := hts _ (List.mem_of_getElem? (l := wsX1_payBack) (i := 5) rfl)
  have mi : (Cond.initialized "java/lang/Math").before args s = true := hts _ (List.mem_of_getElem? (l := wsX1_payBack) (i := 6) rfl)
  have mcmin : (Cond.code Lib.Math.min.name Lib.Math.min.code 2 (some .int)).before args s = true := hts _ (List.mem_of_getElem? (l := wsX1_payBack) (i := 7) rfl)
  have lp5 : ∀ (k : Nat) (x2 : Int32) (x3 : Int32) (x4 : Int32) (fs1 : Nat → Int32) (H : Heap) (locs : List Loc) (ls : Array Slot) (o : Int32 × (Nat → Int32)), fX1_payBack_L5 N k x2 x3 x4 it_kinds fs1 ft_paidBy ft_value = some o → va_P D vwCl [(qt, .inr (1, [.ref qt_value, .ref qt_weight, .ref qt_slugWeight, .ref qt_rhythm, .ref qt_rhythmLength, .ref qt_paidBy, .int it_kinds, .int it_columns, .int it_slugs])), (qs1, .inl (cI, 5, .inl fs1)), (qt_paidBy, .inl (cI, 5, .inl ft_paidBy)), (qt_value, .inl (cI, 5, .inl ft_value))] H → va_S A s.heap H locs → lv_has ls 7 [(0, .ref qt), (1, .ref qs1), (2, .int x2), (3, .int x3), (4, .int x4)] → (∀ (e3 : Int32) (e_fs1 : Nat → Int32), (e3, e_fs1) = o → ∀ (H : Heap) (locs : List Loc) (ls : Array Slot), va_P D vwCl [(qt, .inr (1, [.ref qt_value, .ref qt_weight, .ref qt_slugWeight, .ref qt_rhythm, .ref qt_rhythmLength, .ref qt_paidBy, .int it_kinds, .int it_columns, .int it_slugs])), (qs1, .inl (cI, 5, .inl e_fs1)), (qt_paidBy, .inl (cI, 5, .inl ft_paidBy)), (qt_value, .inl (cI, 5, .inl ft_value))] H → va_S A s.heap H locs → lv_has ls 7 [(2, .int x2), (3, .int e3)] → W p l e ({ frames := 1, cells := 0, slots := 0, locals := 21 } : Room) s m args below meth c H locs 0 0 Z (F0 m 79 ls [])) → W p l e ({ frames := 1, cells := 0, slots := 0, locals := 21 } : Room) s m args below meth c H locs 0 0 Z (F0 m 5 ls []) := by
    intro k
    induction k with
    | zero =>
      intro x2 x3 x4 fs1 H locs ls o h
      exact nomatch (show (none : Option (Int32 × (Nat → Int32))) = some o from h)
    | succ k ih =>
      intro x2 x3 x4 fs1 H locs ls o h hP hS hl K
      rw [fX1_payBack_L5_s] at h
      refine lv_iload hx hb dX1_payBack_5 (lv_at hl 4 rfl) ?_
      refine lv_aload_n hx hb dX1_payBack_7 rfl (lv_at hl 0 rfl) ?_
      refine va_get (ci := 1) (v := .int it_kinds) (C := RX1) (T := TX1) (N := 9) hx hb hts hiX1 hown hK hP 0 rfl rfl 6 (by decide) fl30 (fun _ h9 => h9) rfl dX1_payBack_8 ?_
      refine lv_icmp_ge (tgt := 79) hx hb dX1_payBack_11 (by decide) (fun c1 => ?_) (fun c1 => ?_)
      · replace h := if_t c1 h
        exact K x3 fs1 (Option.some.inj h) _ _ _ hP hS (lv_sub hl [2, 3] rfl)
      · replace h := if_f c1 h
        refine lv_aload_n hx hb dX1_payBack_14 rfl (lv_at hl 0 rfl) ?_
        refine va_get (ci := 1) (v := .ref qt_paidBy) (C := RX1) (T := TX1) (N := 9) hx hb hts hiX1 hown hK hP 0 rfl rfl 5 (by decide) fl27 (fun _ h9 => h9) rfl dX1_payBack_15 ?_
        refine lv_iload hx hb dX1_payBack_18 (lv_at hl 4 rfl) ?_
        replace h := ck_el h
        obtain ⟨hi2, h⟩ := h
        refine va_iald hx hb hK hP 2 0 rfl rfl hi2 dX1_payBack_20 ?_
        refine lv_topi (fun n3 en3 => ?_)
        replace h := lt_at en3 h
        refine lv_istore (lv' := [(5, .int n3), (0, .ref qt), (1, .ref qs1), (2, .int x2), (3, .int x3), (4, .int x4)]) hx hb dX1_payBack_21 hl (by decide) rfl (fun ls hl => ?_)
        refine lv_aload_n hx hb dX1_payBack_23 rfl (lv_at hl 1 rfl) ?_
        refine va_get (ci := 1) (v := .ref qt_value) (C := RX1) (T := TX1) (N := 9) hx hb hts hiX1 hown hK hP 0 rfl rfl 0 (by decide) fl9 (fun _ h9 => h9) rfl dX1_payBack_24 ?_
        refine lv_iload hx hb dX1_payBack_27 (lv_at hl 0 rfl) ?_
        replace h := ck_el h
        obtain ⟨hi4, h⟩ := h
        refine va_iald hx hb hK hP 3 0 rfl rfl hi4 dX1_payBack_29 ?_
        refine lv_if_le (tgt := 73) hx hb dX1_payBack_30 (by decide) (fun c5 => ?_) (fun c5 => ?_)
        · replace h := if_t c5 h
          obtain ⟨n6, en6⟩ : ∃ z : Int32, z = x4 + 1 := ⟨_, rfl⟩
          replace h := lt_at en6 h
          refine lv_iinc (v := n6) (lv' := [(4, .int n6), (5, .int n3), (0, .ref qt), (1, .ref qs1), (2, .int x2), (3, .int x3)]) hx hb dX1_payBack_73 hl (k := 5) rfl (by rw [en6]; rfl) (by decide) rfl (fun ls hl => ?_)
          refine lv_goto (tgt := 5) hx hb dX1_payBack_76 (by decide) ?_
          exact ih x2 x3 n6 fs1 _ _ _ o h hP hS (lv_sub hl [2, 3, 4, 5, 0] rfl) K
        · replace h := if_f c5 h
          refine lv_aload_n hx hb dX1_payBack_33 rfl (lv_at hl 2 rfl) ?_
          refine lv_iload hx hb dX1_payBack_34 (lv_at hl 0 rfl) ?_
          refine va_iald hx hb hK hP 1 0 rfl rfl hi4 dX1_payBack_36 ?_
          refine lv_iload_n hx hb dX1_payBack_37 rfl (lv_at hl 4 rfl) ?_
          refine lv_aload_n hx hb dX1_payBack_38 rfl (lv_at hl 1 rfl) ?_
          refine va_get (ci := 1) (v := .ref qt_value) (C := RX1) (T := TX1) (N := 9) hx hb hts hiX1 hown hK hP 0 rfl rfl 0 (by decide) fl9 (fun _ h9 => h9) rfl dX1_payBack_39 ?_
          refine lv_iload hx hb dX1_payBack_42 (lv_at hl 0 rfl) ?_
          refine va_iald hx hb hK hP 3 0 rfl rfl hi4 dX1_payBack_44 ?_
          replace h := nz_el h
          obtain ⟨hz7, h⟩ := h
          refine lv_idiv hx hb dX1_payBack_45 hz7 ?_
          refine va_mmin hx hb (hml.trans hl.1.symm) hown ml95 msmin mi mcmin (Nat.le_of_ble_eq_true rfl) (Nat.le_of_ble_eq_true rfl) (Nat.zero_le _) (Nat.zero_le _) dX1_payBack_46 ?_
          refine lv_topi (fun n8 en8 => ?_)
          replace h := lt_at en8 h
          refine lv_istore (lv' := [(6, .int n8), (5, .int n3), (0, .ref qt), (1, .ref qs1), (2, .int x2), (3, .int x3), (4, .int x4)]) hx hb dX1_payBack_49 hl (by decide) rfl (fun ls hl => ?_)
          refine lv_aload_n hx hb dX1_payBack_51 rfl (lv_at hl 3 rfl) ?_
          refine lv_iload hx hb dX1_payBack_52 (lv_at hl 1 rfl) ?_
          refine lv_dup2_11 hx hb dX1_payBack_54 rfl rfl ?_
          refine va_iald hx hb hK hP 1 0 rfl rfl hi4 dX1_payBack_55 ?_
          refine lv_iload hx hb dX1_payBack_56 (lv_at hl 0 rfl) ?_
          refine lv_isub hx hb dX1_payBack_58 ?_
          refine lv_topi (fun n9 en9 => ?_)
          replace h := lt_at en9 h
          refine va_iast hx hb hK hP (dF hD rfl) hS 1 0 rfl rfl hi4 dX1_payBack_59 (fun H locs hP _ hS => ?_)
          replace hP : va_P D vwCl [(qt, .inr (1, [.ref qt_value, .ref qt_weight, .ref qt_slugWeight, .ref qt_rhythm, .ref qt_rhythmLength, .ref qt_paidBy, .int it_kinds, .int it_columns, .int it_slugs])), (qs1, .inl (cI, 5, .inl (upd fs1 (Int32.toNatClampNeg n3) n9))), (qt_paidBy, .inl (cI, 5, .inl ft_paidBy)), (qt_value, .inl (cI, 5, .inl ft_value))] H := hP
          refine lv_iload_n hx hb dX1_payBack_60 rfl (lv_at hl 5 rfl) ?_
          refine lv_iload hx hb dX1_payBack_61 (lv_at hl 0 rfl) ?_
          refine lv_aload_n hx hb dX1_payBack_63 rfl (lv_at hl 2 rfl) ?_
          refine va_get (ci := 1) (v := .ref qt_value) (C := RX1) (T := TX1) (N := 9) hx hb hts hiX1 hown hK hP 0 rfl rfl 0 (by decide) fl9 (fun _ h9 => h9) rfl dX1_payBack_64 ?_
          refine lv_iload hx hb dX1_payBack_67 (lv_at hl 1 rfl) ?_
          refine va_iald hx hb hK hP 3 0 rfl rfl hi4 dX1_payBack_69 ?_
          refine lv_imul hx hb dX1_payBack_70 ?_
          refine lv_isub hx hb dX1_payBack_71 ?_
          refine lv_topi (fun n10 en10 => ?_)
          replace h := lt_at en10 h
          refine lv_istore_n (lv' := [(3, .int n10), (6, .int n8), (5, .int n3), (0, .ref qt), (1, .ref qs1), (2, .int x2), (4, .int x4)]) hx hb dX1_payBack_72 rfl hl (by decide) rfl (fun ls hl => ?_)
          obtain ⟨n11, en11⟩ : ∃ z : Int32, z = x4 + 1 := ⟨_, rfl⟩
          replace h := lt_at en11 h
          refine lv_iinc (v := n11) (lv' := [(4, .int n11), (3, .int n10), (6, .int n8), (5, .int n3), (0, .ref qt), (1, .ref qs1), (2, .int x2)]) hx hb dX1_payBack_73 hl (k := 6) rfl (by rw [en11]; rfl) (by decide) rfl (fun ls hl => ?_)
          refine lv_goto (tgt := 5) hx hb dX1_payBack_76 (by decide) ?_
          exact ih x2 n10 n11 (upd fs1 (Int32.toNatClampNeg n3) n9) _ _ _ o h hP hS (lv_sub hl [4, 5, 6, 1, 0] rfl) K
  unfold fX1_payBack at h
  refine lv_iload_n hx hb dX1_payBack_0 rfl (lv_at hl 2 rfl) ?_
  refine lv_istore_n (lv' := [(3, .int x2), (0, .ref qt), (1, .ref qs1), (2, .int x2)]) hx hb dX1_payBack_1 rfl hl (by decide) rfl (fun ls hl => ?_)
  refine lv_iconst (v := 0) hx hb dX1_payBack_2 (by decide) ?_
  refine lv_istore (lv' := [(4, .int 0), (3, .int x2), (0, .ref qt), (1, .ref qs1), (2, .int x2)]) hx hb dX1_payBack_3 hl (by decide) rfl (fun ls hl => ?_)
  replace h := bd_el h
  obtain ⟨o12, ho12, h⟩ := h
  refine lp5 N x2 x2 0 fs1 _ _ _ o12 ho12 hP hS (lv_sub hl [2, 3, 4, 1, 0] rfl) (fun n13 g14 eo H locs ls hP hS hl => ?_)
  subst eo
  refine lv_iload_n hx hb dX1_payBack_79 rfl (lv_at hl 0 rfl) ?_
  refine lv_iload_n hx hb dX1_payBack_80 rfl (lv_at hl 1 rfl) ?_
  refine lv_isub hx hb dX1_payBack_81 ?_
  refine lv_topi (fun n15 en15 => ?_)
  replace h := lt_at en15 h
  simp only [Option.some.injEq, Prod.mk.injEq] at h
  obtain ⟨rfl, rfl⟩ := h
  exact hret _ _ _ _ hP hS rfl dX1_payBack_82
theorem hdX1_payBack : yX1_payBack.cls = RX1 ∧ yX1_payBack.cls ≠ "java/lang/invoke/MethodHandle" ∧ yX1_payBack.cls ≠ "java/lang/invoke/VarHandle" ∧ (parseMethodDescriptor yX1_payBack.desc).map (fun d => d.parameters.length) = some 2 := by decide +kernel
