noncomputable def fX2_skipBlanks_L0 (N : Nat) : Nat → Int32 → Int32 → (Nat → Int32) → Option (Int32)
  | 0, _, _, _ => none
  | k + 1, it_at, it_text_length, ft_text_bytes => (if it_text_length ≤ it_at then some it_at else bd (fX5_byteAt N it_text_length ft_text_bytes it_at) fun r2 => (if r2 = 32 then lt (it_at + 1) fun n5 => fX2_skipBlanks_L0 N k n5 it_text_length ft_text_bytes else some it_at))
theorem fX2_skipBlanks_L0_s (N : Nat) (k : Nat) (it_at : Int32) (it_text_length : Int32) (ft_text_bytes : Nat → Int32) : fX2_skipBlanks_L0 N (k + 1) it_at it_text_length ft_text_bytes = ((if it_text_length ≤ it_at then some it_at else bd (fX5_byteAt N it_text_length ft_text_bytes it_at) fun r2 => (if r2 = 32 then lt (it_at + 1) fun n5 => fX2_skipBlanks_L0 N k n5 it_text_length ft_text_bytes else some it_at))) := rfl
noncomputable def fX2_skipBlanks (N : Nat) (it_at : Int32) (it_text_length : Int32) (ft_text_bytes : Nat → Int32) : Option (Int32) := (if it_text_length ≤ it_at then some it_at else bd (fX5_byteAt N it_text_length ft_text_bytes it_at) fun r7 => (if r7 = 32 then lt (it_at + 1) fun n10 => bd (fX2_skipBlanks_L0 N N n10 it_text_length ft_text_bytes) fun g12 => some g12 else some it_at))
set_option maxHeartbeats 4000000 in
set_option maxRecDepth 100000 in
theorem ctX2_skipBlanks (l : Launch) (D : va_G) (cI cZ cB cS : ClassId) (kK kV : Nat → Nat) (sz : Nat) (qt qt_text qt_plan qt_start qt_text_bytes : Nat) (it_at : Int32) (it_tokenAt : Int32) (it_fault : Int32) (it_faultAt : Int32) (it_text_length : Int32) (ft_text_bytes : Nat → Int32)  (N : Nat) (w_it_at : Int32) (h : fX2_skipBlanks N it_at it_text_length ft_text_bytes = some w_it_at) : CtV l yX2_skipBlanks wsX2_skipBlanks { frames := 1, cells := 0, slots := 0, locals := 21 } D (TY cI cZ cB cS) kK kV [.ref qt] [(qt, .inr (2, [.ref qt_text, .ref qt_plan, .ref qt_start, .int it_at, .int it_tokenAt, .int it_fault, .int it_faultAt])), (qt_text, .inr (5, [.ref qt_text_bytes, .int it_text_length])), (qt_text_bytes, .inl (cB, 400, .inl ft_text_bytes))] [(qt, .inr (2, [.ref qt_text, .ref qt_plan, .ref qt_start, .int w_it_at, .int it_tokenAt, .int it_fault, .int it_faultAt])), (qt_text, .inr (5, [.ref qt_text_bytes, .int it_text_length])), (qt_text_bytes, .inl (cB, 400, .inl ft_text_bytes))] sz := by
  refine mkV (cc := cX2_skipBlanks) (maxL := 1) (own := RX2) (by decide) rfl rfl (Nat.le_of_ble_eq_true rfl) ?_
  intro p e s m args below meth c A Z ls hx hb hml hown hts hK hN hX hP hD hA hS hret hl
  have hl : lv_has ls 1 [(0, .ref qt)] := hl
  have fl37 : (Cond.fieldLink RX2 37 "SoupWall$Reader" "at" "I").before args s = true := hts _ (List.mem_of_getElem? (l := wsX2_skipBlanks) (i := 1) rfl)
  have hiX2 : ∀ w ∈ wsX20, w ∈ wsX2_skipBlanks := fun w h => List.mem_cons_of_mem _ (List.mem_append_left _ (List.mem_append_right _ h))
  have fl29 : (Cond.fieldLink RX2 29 "SoupWall$Reader" "text" "LSoupWall$Text;").before args s = true := hts _ (List.mem_of_getElem? (l := wsX2_skipBlanks) (i := 2) rfl)
  have fl46 : (Cond.fieldLinkNest "SoupWall$Reader" 46 "SoupWall$Text" "length" "I" "SoupWall").before args s = true := hN.f 1 rfl
  have hiX5 : ∀ w ∈ wsX50, w ∈ wsX2_skipBlanks := fun w h => List.mem_cons_of_mem _ (List.mem_append_right _ h)
  have lp0 : ∀ (k : Nat)  (it_at : Int32) (H : Heap) (locs : List Loc) (ls : Array Slot) (o : Int32), fX2_skipBlanks_L0 N k it_at it_text_length ft_text_bytes = some o → va_P D vwCl [(qt, .inr (2, [.ref qt_text, .ref qt_plan, .ref qt_start, .int it_at, .int it_tokenAt, .int it_fault, .int it_faultAt])), (qt_text, .inr (5, [.ref qt_text_bytes, .int it_text_length])), (qt_text_bytes, .inl (cB, 400, .inl ft_text_bytes))] H → va_S A s.heap H locs → lv_has ls 1 [(0, .ref qt)] → (∀ (e_it_at : Int32), e_it_at = o → ∀ (H : Heap) (locs : List Loc) (ls : Array Slot), va_P D vwCl [(qt, .inr (2, [.ref qt_text, .ref qt_plan, .ref qt_start, .int e_it_at, .int it_tokenAt, .int it_fault, .int it_faultAt])), (qt_text, .inr (5, [.ref qt_text_bytes, .int it_text_length])), (qt_text_bytes, .inl (cB, 400, .inl ft_text_bytes))] H → va_S A s.heap H locs → lv_has ls 1 [] → W p l e ({ frames := 1, cells := 0, slots := 0, locals := 21 } : Room) s m args below meth c H locs 0 0 Z (F0 m 43 ls [])) → W p l e ({ frames := 1, cells := 0, slots := 0, locals := 21 } : Room) s m args below meth c H locs 0 0 Z (F0 m 0 ls []) := by
    intro k
    induction k with
    | zero =>
      intro it_at H locs ls o h
      exact nomatch (show (none : Option (Int32)) = some o from h)
    | succ k ih =>
      intro it_at H locs ls o h hP hS hl K
      rw [fX2_skipBlanks_L0_s] at h
      refine lv_aload_n hx hb dX2_skipBlanks_0 rfl (lv_at hl 0 rfl) ?_
      refine va_get (ci := 2) (v := .int it_at) (C := RX2) (T := TX2) (N := 7) hx hb hts hiX2 hown hK hP 0 rfl rfl 3 (by decide) fl37 (fun _ h9 => h9) rfl dX2_skipBlanks_1 ?_
      refine lv_aload_n hx hb dX2_skipBlanks_4 rfl (lv_at hl 0 rfl) ?_
      refine va_get (ci := 2) (v := .ref qt_text) (C := RX2) (T := TX2) (N := 7) hx hb hts hiX2 hown hK hP 0 rfl rfl 0 (by decide) fl29 (fun _ h9 => h9) rfl dX2_skipBlanks_5 ?_
      refine va_getN (ci := 5) (v := .int it_text_length) (C := RX5) (T := TX5) (N := 2) hx hb hts hiX5 hown hK hP 1 rfl rfl 1 (by decide) fl46 (fun _ h9 => h9) rfl dX2_skipBlanks_8 ?_
      refine lv_icmp_ge (tgt := 43) hx hb dX2_skipBlanks_11 (by decide) (fun c1 => ?_) (fun c1 => ?_)
      · replace h := if_t c1 h
        exact K it_at (Option.some.inj h) _ _ _ hP hS (lv_sub hl [] rfl)
      · replace h := if_f c1 h
        refine lv_aload_n hx hb dX2_skipBlanks_14 rfl (lv_at hl 0 rfl) ?_
        refine va_get (ci := 2) (v := .ref qt_text) (C := RX2) (T := TX2) (N := 7) hx hb hts hiX2 hown hK hP 0 rfl rfl 0 (by decide) fl29 (fun _ h9 => h9) rfl dX2_skipBlanks_15 ?_
        refine lv_aload_n hx hb dX2_skipBlanks_18 rfl (lv_at hl 0 rfl) ?_
        refine va_get (ci := 2) (v := .int it_at) (C := RX2) (T := TX2) (N := 7) hx hb hts hiX2 hown hK hP 0 rfl rfl 3 (by decide) fl37 (fun _ h9 => h9) rfl dX2_skipBlanks_19 ?_
        replace h := bd_el h
        obtain ⟨r2, hc3, h⟩ := h
        refine callVI (rest := []) ⟨hx, hb, hml, hown, hts⟩ (ctX5_byteAt l D cI cZ cB cS kK kV _ qt_text qt_text_bytes it_text_length ft_text_bytes it_at N r2 hc3) (cwV 1 hts gX2_skipBlanks_X5_byteAt rfl rfl rfl hdX5_byteAt ⟨Nat.le_of_ble_eq_true rfl, Nat.le_of_ble_eq_true rfl⟩) hK hN hX hP (dF hD rfl) hS hA [1, 2] (mcC rfl (mcC rfl mcN)) (by decide +kernel) [(qt, .inr (2, [.ref qt_text, .ref qt_plan, .ref qt_start, .int it_at, .int it_tokenAt, .int it_fault, .int it_faultAt])), (qt_text, .inr (5, [.ref qt_text_bytes, .int it_text_length])), (qt_text_bytes, .inl (cB, 400, .inl ft_text_bytes))] [0] (mcC rfl (mcC rfl mcN)) ((mcC rfl mcN).trans (mcC rfl mcN).symm) 3 rfl (by decide +kernel) (va_recv hK hP (ci := 5) (q0 := 1) rfl rfl) rfl hl.1 rfl (Nat.le_of_ble_eq_true rfl) ⟨Nat.zero_le _, Nat.zero_le _⟩ dX2_skipBlanks_22 (fun H locs hP hS => ?_)
        refine lv_bipush (v := 32) hx hb dX2_skipBlanks_25 (by decide) ?_
        refine lv_icmp_ne (tgt := 43) hx hb dX2_skipBlanks_27 (by decide) (fun c4 => ?_) (fun c4 => ?_)
        · replace h := if_f c4 h
          exact K it_at (Option.some.inj h) _ _ _ hP hS (lv_sub hl [] rfl)
        · replace h := if_t c4 h
          refine lv_aload_n hx hb dX2_skipBlanks_30 rfl (lv_at hl 0 rfl) ?_
          refine lv_dup hx hb dX2_skipBlanks_31 rfl ?_
          refine va_get (ci := 2) (v := .int it_at) (C := RX2) (T := TX2) (N := 7) hx hb hts hiX2 hown hK hP 0 rfl rfl 3 (by decide) fl37 (fun _ h9 => h9) rfl dX2_skipBlanks_32 ?_
          refine lv_iconst (v := 1) hx hb dX2_skipBlanks_35 (by decide) ?_
          refine lv_iadd hx hb dX2_skipBlanks_36 ?_
          refine lv_topi (fun n5 en5 => ?_)
          replace h := lt_at en5 h
          refine va_put (ci := 2) (v := .int n5) (ty := .int) (C := RX2) (T := TX2) (N := 7) hx hb hts hiX2 tyX2 tyX2_ok nmX2 hown hK hP (dF hD rfl) hS 0 rfl rfl 3 (by decide) fl37 (fun _ h9 => h9) rfl (by decide +kernel) rfl rfl (Nat.le_of_ble_eq_true rfl) dX2_skipBlanks_37 (fun H locs hP _ hS => ?_)
          replace hP : va_P D vwCl [(qt, .inr (2, [.ref qt_text, .ref qt_plan, .ref qt_start, .int n5, .int it_tokenAt, .int it_fault, .int it_faultAt])), (qt_text, .inr (5, [.ref qt_text_bytes, .int it_text_length])), (qt_text_bytes, .inl (cB, 400, .inl ft_text_bytes))] H := hP
          refine lv_goto (tgt := 0) hx hb dX2_skipBlanks_40 (by decide) ?_
          exact ih n5 _ _ _ o h hP hS (lv_sub hl [0] rfl) K
  unfold fX2_skipBlanks at h
  refine lv_aload_n hx hb dX2_skipBlanks_0 rfl (lv_at hl 0 rfl) ?_
  refine va_get (ci := 2) (v := .int it_at) (C := RX2) (T := TX2) (N := 7) hx hb hts hiX2 hown hK hP 0 rfl rfl 3 (by decide) fl37 (fun _ h9 => h9) rfl dX2_skipBlanks_1 ?_
  refine lv_aload_n hx hb dX2_skipBlanks_4 rfl (lv_at hl 0 rfl) ?_
  refine va_get (ci := 2) (v := .ref qt_text) (C := RX2) (T := TX2) (N := 7) hx hb hts hiX2 hown hK hP 0 rfl rfl 0 (by decide) fl29 (fun _ h9 => h9) rfl dX2_skipBlanks_5 ?_
  refine va_getN (ci := 5) (v := .int it_text_length) (C := RX5) (T := TX5) (N := 2) hx hb hts hiX5 hown hK hP 1 rfl rfl 1 (by decide) fl46 (fun _ h9 => h9) rfl dX2_skipBlanks_8 ?_
  refine lv_icmp_ge (tgt := 43) hx hb dX2_skipBlanks_11 (by decide) (fun c6 => ?_) (fun c6 => ?_)
  · replace h := if_t c6 h
    simp only [Option.some.injEq] at h
    subst h
    exact hret _ _ _ _ hP hS dX2_skipBlanks_43
  · replace h := if_f c6 h
    refine lv_aload_n hx hb dX2_skipBlanks_14 rfl (lv_at hl 0 rfl) ?_
    refine va_get (ci := 2) (v := .ref qt_text) (C := RX2) (T := TX2) (N := 7) hx hb hts hiX2 hown hK hP 0 rfl rfl 0 (by decide) fl29 (fun _ h9 => h9) rfl dX2_skipBlanks_15 ?_
    refine lv_aload_n hx hb dX2_skipBlanks_18 rfl (lv_at hl 0 rfl) ?_
    refine va_get (ci := 2) (v := .int it_at) (C := RX2) (T := TX2) (N := 7) hx hb hts hiX2 hown hK hP 0 rfl rfl 3 (by decide) fl37 (fun _ h9 => h9) rfl dX2_skipBlanks_19 ?_
    replace h := bd_el h
    obtain ⟨r7, hc8, h⟩ := h
    refine callVI (rest := []) ⟨hx, hb, hml, hown, hts⟩ (ctX5_byteAt l D cI cZ cB cS kK kV _ qt_text qt_text_bytes it_text_length ft_text_bytes it_at N r7 hc8) (cwV 1 hts gX2_skipBlanks_X5_byteAt rfl rfl rfl hdX5_byteAt ⟨Nat.le_of_ble_eq_true rfl, Nat.le_of_ble_eq_true rfl⟩) hK hN hX hP (dF hD rfl) hS hA [1, 2] (mcC rfl (mcC rfl mcN)) (by decide +kernel) [(qt, .inr (2, [.ref qt_text, .ref qt_plan, .ref qt_start, .int it_at, .int it_tokenAt, .int it_fault, .int it_faultAt])), (qt_text, .inr (5, [.ref qt_text_bytes, .int it_text_length])), (qt_text_bytes, .inl (cB, 400, .inl ft_text_bytes))] [0] (mcC rfl (mcC rfl mcN)) ((mcC rfl mcN).trans (mcC rfl mcN).symm) 3 rfl (by decide +kernel) (va_recv hK hP (ci := 5) (q0 := 1) rfl rfl) rfl hl.1 rfl (Nat.le_of_ble_eq_true rfl) ⟨Nat.zero_le _, Nat.zero_le _⟩ dX2_skipBlanks_22 (fun H locs hP hS => ?_)
    refine lv_bipush (v := 32) hx hb dX2_skipBlanks_25 (by decide) ?_
    refine lv_icmp_ne (tgt := 43) hx hb dX2_skipBlanks_27 (by decide) (fun c9 => ?_) (fun c9 => ?_)
    · replace h := if_f c9 h
      simp only [Option.some.injEq] at h
      subst h
      exact hret _ _ _ _ hP hS dX2_skipBlanks_43
    · replace h := if_t c9 h
      refine lv_aload_n hx hb dX2_skipBlanks_30 rfl (lv_at hl 0 rfl) ?_
      refine lv_dup hx hb dX2_skipBlanks_31 rfl ?_
      refine va_get (ci := 2) (v := .int it_at) (C := RX2) (T := TX2) (N := 7) hx hb hts hiX2 hown hK hP 0 rfl rfl 3 (by decide) fl37 (fun _ h9 => h9) rfl dX2_skipBlanks_32 ?_
      refine lv_iconst (v := 1) hx hb dX2_skipBlanks_35 (by decide) ?_
      refine lv_iadd hx hb dX2_skipBlanks_36 ?_
      refine lv_topi (fun n10 en10 => ?_)
      replace h := lt_at en10 h
      refine va_put (ci := 2) (v := .int n10) (ty := .int) (C := RX2) (T := TX2) (N := 7) hx hb hts hiX2 tyX2 tyX2_ok nmX2 hown hK hP (dF hD rfl) hS 0 rfl rfl 3 (by decide) fl37 (fun _ h9 => h9) rfl (by decide +kernel) rfl rfl (Nat.le_of_ble_eq_true rfl) dX2_skipBlanks_37 (fun H locs hP _ hS => ?_)
      replace hP : va_P D vwCl [(qt, .inr (2, [.ref qt_text, .ref qt_plan, .ref qt_start, .int n10, .int it_tokenAt, .int it_fault, .int it_faultAt])), (qt_text, .inr (5, [.ref qt_text_bytes, .int it_text_length])), (qt_text_bytes, .inl (cB, 400, .inl ft_text_bytes))] H := hP
      refine lv_goto (tgt := 0) hx hb dX2_skipBlanks_40 (by decide) ?_
      replace h := bd_el h
      obtain ⟨o11, ho11, h⟩ := h
      refine lp0 N n10 _ _ _ o11 ho11 hP hS (lv_sub hl [0] rfl) (fun g12 eo H locs ls hP hS hl => ?_)
      subst eo
      simp only [Option.some.injEq] at h
      subst h
      exact hret _ _ _ _ hP hS dX2_skipBlanks_43
theorem hdX2_skipBlanks : yX2_skipBlanks.cls = RX2 ∧ yX2_skipBlanks.cls ≠ "java/lang/invoke/MethodHandle" ∧ yX2_skipBlanks.cls ≠ "java/lang/invoke/VarHandle" ∧ (parseMethodDescriptor yX2_skipBlanks.desc).map (fun d => d.parameters.length) = some 0 := by decide +kernel

noncomputable def fX2_takeWord_L12 (N : Nat) : Nat → Int32 → Int32 → (Nat → Int32) → Option (Int32)
  | 0, _, _, _ => none
  | k + 1, it_at, it_text_length, ft_text_bytes => (if it_text_length ≤ it_at then some it_at else bd (fX5_isLetter N it_text_length ft_text_bytes it_at) fun r2 => (if r2 = 0 then some it_at else lt (it_at + 1) fun n5 => fX2_takeWord_L12 N k n5 it_text_length ft_text_bytes))
theorem fX2_takeWord_L12_s (N : Nat) (k : Nat) (it_at : Int32) (it_text_length : Int32) (ft_text_bytes : Nat → Int32) : fX2_takeWord_L12 N (k + 1) it_at it_text_length ft_text_bytes = ((if it_text_length ≤ it_at then some it_at else bd (fX5_isLetter N it_text_length ft_text_bytes it_at) fun r2 => (if r2 = 0 then some it_at else lt (it_at + 1) fun n5 => fX2_takeWord_L12 N k n5 it_text_length ft_text_bytes))) := rfl
noncomputable def fX2_takeWord (N : Nat) (it_at : Int32) (it_tokenAt : Int32) (it_text_length : Int32) (ft_text_bytes : Nat → Int32) : Option (Int32 × Int32) := bd (fX2_skipBlanks N it_at it_text_length ft_text_bytes) fun g6 => bd (fX2_takeWord_L12 N N g6 it_text_length ft_text_bytes) fun g9 => some (g9, g6)
set_option maxHeartbeats 4000000 in
set_option maxRecDepth 100000 in
theorem ctX2_takeWord (l : Launch) (D : va_G) (cI cZ cB cS : ClassId) (kK kV : Nat → Nat) (sz : Nat) (qt qt_text qt_plan qt_start qt_text_bytes : Nat) (it_at : Int32) (it_tokenAt : Int32) (it_fault : Int32) (it_faultAt : Int32) (it_text_length : Int32) (ft_text_bytes : Nat → Int32)  (N : Nat) (w_it_at : Int32) (w_it_tokenAt : Int32) (h : fX2_takeWord N it_at it_tokenAt it_text_length ft_text_bytes = some (w_it_at, w_it_tokenAt)) : CtV l yX2_takeWord wsX2_takeWord { frames := 2, cells := 0, slots := 0, locals := 42 } D (TY cI cZ cB cS) kK kV [.ref qt] [(qt, .inr (2, [.ref qt_text, .ref qt_plan, .ref qt_start, .int it_at, .int it_tokenAt, .int it_fault, .int it_faultAt])), (qt_text, .inr (5, [.ref qt_text_bytes, .int it_text_length])), (qt_text_bytes, .inl (cB, 400, .inl ft_text_bytes))] [(qt, .inr (2, [.ref qt_text, .ref qt_plan, .ref qt_start, .int w_it_at, .int w_it_tokenAt, .int it_fault, .int it_faultAt])), (qt_text, .inr (5, [.ref qt_text_bytes, .int it_text_length])), (qt_text_bytes, .inl (cB, 400, .inl ft_text_bytes))] sz := by
  refine mkV (cc := cX2_takeWord) (maxL := 1) (own := RX2) (by decide) rfl rfl (Nat.le_of_ble_eq_true rfl) ?_
  intro p e s m args below meth c A Z ls hx hb hml hown hts hK hN hX hP hD hA hS hret hl
  have hl : lv_has ls 1 [(0, .ref qt)] := hl
  have fl37 : (Cond.fieldLink RX2 37 "SoupWall$Reader" "at" "I").before args s = true := hts _ (List.mem_of_getElem? (l := wsX2_takeWord) (i := 1) rfl)
  have hiX2 : ∀ w ∈ wsX20, w ∈ wsX2_takeWord := fun w h => List.mem_cons_of_mem _ (List.mem_append_left _ (List.mem_append_right _ h))
  have fl29 : (Cond.fieldLink RX2 29 "SoupWall$Reader" "text" "LSoupWall$Text;").before args s = true := hts _ (List.mem_of_getElem? (l := wsX2_takeWord) (i := 3) rfl)
  have fl46 : (Cond.fieldLinkNest "SoupWall$Reader" 46 "SoupWall$Text" "length" "I" "SoupWall").before args s = true := hN.f 1 rfl
  have hiX5 : ∀ w ∈ wsX50, w ∈ wsX2_takeWord := fun w h => List.mem_cons_of_mem _ (List.mem_append_right _ h)
  have fl84 : (Cond.fieldLink RX2 84 "SoupWall$Reader" "tokenAt" "I").before args s = true := hts _ (List.mem_of_getElem? (l := wsX2_takeWord) (i := 2) rfl)
  have lp12 : ∀ (k : Nat)  (it_at : Int32) (it_tokenAt : Int32) (H : Heap) (locs : List Loc) (ls : Array Slot) (o : Int32), fX2_takeWord_L12 N k it_at it_text_length ft_text_bytes = some o → va_P D vwCl [(qt, .inr (2, [.ref qt_text, .ref qt_plan, .ref qt_start, .int it_at, .int it_tokenAt, .int it_fault, .int it_faultAt])), (qt_text, .inr (5, [.ref qt_text_bytes, .int it_text_length])), (qt_text_bytes, .inl (cB, 400, .inl ft_text_bytes))] H → va_S A s.heap H locs → lv_has ls 1 [(0, .ref qt)] → (∀ (e_it_at : Int32), e_it_at = o → ∀ (H : Heap) (locs : List Loc) (ls : Array Slot), va_P D vwCl [(qt, .inr (2, [.ref qt_text, .ref qt_plan, .ref qt_start, .int e_it_at, .int it_tokenAt, .int it_fault, .int it_faultAt])), (qt_text, .inr (5, [.ref qt_text_bytes, .int it_text_length])), (qt_text_bytes, .inl (cB, 400, .inl ft_text_bytes))] H → va_S A s.heap H locs → lv_has ls 1 [] → W p l e ({ frames := 2, cells := 0, slots := 0, locals := 42 } : Room) s m args below meth c H locs 0 0 Z (F0 m 53 ls [])) → W p l e ({ frames := 2, cells := 0, slots := 0, locals := 42 } : Room) s m args below meth c H locs 0 0 Z (F0 m 12 ls []) := by
    intro k
    induction k with
    | zero =>
      intro it_at it_tokenAt H locs ls o h
      exact nomatch (show (none : Option (Int32)) = some o from h)
    | succ k ih =>
      intro it_at it_tokenAt H locs ls o h hP hS hl K
      rw [fX2_takeWord_L12_s] at h
      refine lv_aload_n hx hb dX2_takeWord_12 rfl (lv_at hl 0 rfl) ?_
      refine va_get (ci := 2) (v := .int it_at) (C := RX2) (T := TX2) (N := 7) hx hb hts hiX2 hown hK hP 0 rfl rfl 3 (by decide) fl37 (fun _ h9 => h9) rfl dX2_takeWord_13 ?_
      refine lv_aload_n hx hb dX2_takeWord_16 rfl (lv_at hl 0 rfl) ?_
      refine va_get (ci := 2) (v := .ref qt_text) (C := RX2) (T := TX2) (N := 7) hx hb hts hiX2 hown hK hP 0 rfl rfl 0 (by decide) fl29 (fun _ h9 => h9) rfl dX2_takeWord_17 ?_
      refine va_getN (ci := 5) (v := .int it_text_length) (C := RX5) (T := TX5) (N := 2) hx hb hts hiX5 hown hK hP 1 rfl rfl 1 (by decide) fl46 (fun _ h9 => h9) rfl dX2_takeWord_20 ?_
      refine lv_icmp_ge (tgt := 53) hx hb dX2_takeWord_23 (by decide) (fun c1 => ?_) (fun c1 => ?_)
      · replace h := if_t c1 h
        exact K it_at (Option.some.inj h) _ _ _ hP hS (lv_sub hl [] rfl)
      · replace h := if_f c1 h
        refine lv_aload_n hx hb dX2_takeWord_26 rfl (lv_at hl 0 rfl) ?_
        refine va_get (ci := 2) (v := .ref qt_text) (C := RX2) (T := TX2) (N := 7) hx hb hts hiX2 hown hK hP 0 rfl rfl 0 (by decide) fl29 (fun _ h9 => h9) rfl dX2_takeWord_27 ?_
        refine lv_aload_n hx hb dX2_takeWord_30 rfl (lv_at hl 0 rfl) ?_
        refine va_get (ci := 2) (v := .int it_at) (C := RX2) (T := TX2) (N := 7) hx hb hts hiX2 hown hK hP 0 rfl rfl 3 (by decide) fl37 (fun _ h9 => h9) rfl dX2_takeWord_31 ?_
        replace h := bd_el h
        obtain ⟨r2, hc3, h⟩ := h
        refine callVI (rest := []) ⟨hx, hb, hml, hown, hts⟩ (ctX5_isLetter l D cI cZ cB cS kK kV _ qt_text qt_text_bytes it_text_length ft_text_bytes it_at N r2 hc3) (cwV 1 hts gX2_takeWord_X5_isLetter rfl rfl rfl hdX5_isLetter ⟨Nat.le_of_ble_eq_true rfl, Nat.le_of_ble_eq_true rfl⟩) hK hN hX hP (dF hD rfl) hS hA [1, 2] (mcC rfl (mcC rfl mcN)) (by decide +kernel) [(qt, .inr (2, [.ref qt_text, .ref qt_plan, .ref qt_start, .int it_at, .int it_tokenAt, .int it_fault, .int it_faultAt])), (qt_text, .inr (5, [.ref qt_text_bytes, .int it_text_length])), (qt_text_bytes, .inl (cB, 400, .inl ft_text_bytes))] [0] (mcC rfl (mcC rfl mcN)) ((mcC rfl mcN).trans (mcC rfl mcN).symm) 3 rfl (by decide +kernel) (va_recv hK hP (ci := 5) (q0 := 1) rfl rfl) rfl hl.1 rfl (Nat.le_of_ble_eq_true rfl) ⟨Nat.zero_le _, Nat.zero_le _⟩ dX2_takeWord_34 (fun H locs hP hS => ?_)
        refine lv_if_eq (tgt := 53) hx hb dX2_takeWord_37 (by decide) (fun c4 => ?_) (fun c4 => ?_)
        · replace h := if_t c4 h
          exact K it_at (Option.some.inj h) _ _ _ hP hS (lv_sub hl [] rfl)
        · replace h := if_f c4 h
          refine lv_aload_n hx hb dX2_takeWord_40 rfl (lv_at hl 0 rfl) ?_
          refine lv_dup hx hb dX2_takeWord_41 rfl ?_
          refine va_get (ci := 2) (v := .int it_at) (C := RX2) (T := TX2) (N := 7) hx hb hts hiX2 hown hK hP 0 rfl rfl 3 (by decide) fl37 (fun _ h9 => h9) rfl dX2_takeWord_42 ?_
          refine lv_iconst (v := 1) hx hb dX2_takeWord_45 (by decide) ?_
          refine lv_iadd hx hb dX2_takeWord_46 ?_
          refine lv_topi (fun n5 en5 => ?_)
          replace h := lt_at en5 h
          refine va_put (ci := 2) (v := .int n5) (ty := .int) (C := RX2) (T := TX2) (N := 7) hx hb hts hiX2 tyX2 tyX2_ok nmX2 hown hK hP (dF hD rfl) hS 0 rfl rfl 3 (by decide) fl37 (fun _ h9 => h9) rfl (by decide +kernel) rfl rfl (Nat.le_of_ble_eq_true rfl) dX2_takeWord_47 (fun H locs hP _ hS => ?_)
          replace hP : va_P D vwCl [(qt, .inr (2, [.ref qt_text, .ref qt_plan, .ref qt_start, .int n5, .int it_tokenAt, .int it_fault, .int it_faultAt])), (qt_text, .inr (5, [.ref qt_text_bytes, .int it_text_length])), (qt_text_bytes, .inl (cB, 400, .inl ft_text_bytes))] H := hP
          refine lv_goto (tgt := 12) hx hb dX2_takeWord_50 (by decide) ?_
          exact ih n5 it_tokenAt _ _ _ o h hP hS (lv_sub hl [0] rfl) K
  unfold fX2_takeWord at h
  refine lv_aload_n hx hb dX2_takeWord_0 rfl (lv_at hl 0 rfl) ?_
  replace h := bd_el h
  obtain ⟨g6, hc7, h⟩ := h
  refine callVV (rest := []) ⟨hx, hb, hml, hown, hts⟩ (ctX2_skipBlanks l D cI cZ cB cS kK kV _ qt qt_text qt_plan qt_start qt_text_bytes it_at it_tokenAt it_fault it_faultAt it_text_length ft_text_bytes N g6 hc7) (cwV 0 hts gX2_takeWord_X2_skipBlanks rfl rfl rfl hdX2_skipBlanks ⟨Nat.le_of_ble_eq_true rfl, Nat.le_of_ble_eq_true rfl⟩) hK hN hX hP (dF hD rfl) hS hA [0, 1, 2] (mcC rfl (mcC rfl (mcC rfl mcN))) (by decide +kernel) [(qt, .inr (2, [.ref qt_text, .ref qt_plan, .ref qt_start, .int g6, .int it_tokenAt, .int it_fault, .int it_faultAt])), (qt_text, .inr (5, [.ref qt_text_bytes, .int it_text_length])), (qt_text_bytes, .inl (cB, 400, .inl ft_text_bytes))] [] (mcC rfl (mcC rfl (mcC rfl mcN))) (mcN.trans mcN.symm) 3 rfl (by decide +kernel) (va_recv hK hP (ci := 2) (q0 := 0) rfl rfl) rfl hl.1 rfl (Nat.le_of_ble_eq_true rfl) ⟨Nat.zero_le _, Nat.zero_le _⟩ dX2_takeWord_1 (fun H locs hP hS => ?_)
  refine lv_aload_n hx hb dX2_takeWord_4 rfl (lv_at hl 0 rfl) ?_
  refine lv_aload_n hx hb dX2_takeWord_5 rfl (lv_at hl 0 rfl) ?_
  refine va_get (ci := 2) (v := .int g6) (C := RX2) (T := TX2) (N := 7) hx hb hts hiX2 hown hK hP 0 rfl rfl 3 (by decide) fl37 (fun _ h9 => h9) rfl dX2_takeWord_6 ?_
  refine va_put (ci := 2) (v := .int g6) (ty := .int) (C := RX2) (T := TX2) (N := 7) hx hb hts hiX2 tyX2 tyX2_ok nmX2 hown hK hP (dF hD rfl) hS 0 rfl rfl 4 (by decide) fl84 (fun _ h9 => h9) rfl (by decide +kernel) rfl rfl (Nat.le_of_ble_eq_true rfl) dX2_takeWord_9 (fun H locs hP _ hS => ?_)
  replace hP : va_P D vwCl [(qt, .inr (2, [.ref qt_text, .ref qt_plan, .ref qt_start, .int g6, .int g6, .int it_fault, .int it_faultAt])), (qt_text, .inr (5, [.ref qt_text_bytes, .int it_text_length])), (qt_text_bytes, .inl (cB, 400, .inl ft_text_bytes))] H := hP
  replace h := bd_el h
  obtain ⟨o8, ho8, h⟩ := h
  refine lp12 N g6 g6 _ _ _ o8 ho8 hP hS (lv_sub hl [0] rfl) (fun g9 eo H locs ls hP hS hl => ?_)
  subst eo
  simp only [Option.some.injEq, Prod.mk.injEq] at h
  obtain ⟨rfl, rfl⟩ := h
  exact hret _ _ _ _ hP hS dX2_takeWord_53
theorem hdX2_takeWord : yX2_takeWord.cls = RX2 ∧ yX2_takeWord.cls ≠ "java/lang/invoke/MethodHandle" ∧ yX2_takeWord.cls ≠ "java/lang/invoke/VarHandle" ∧ (parseMethodDescriptor yX2_takeWord.desc).map (fun d => d.parameters.length) = some 0 := by decide +kernel

noncomputable def fX2_wordIs_L20 (N : Nat) (sx : Nat) : Nat → Int32 → Int32 → Int32 → (Nat → Int32) → Option ((Unit) ⊕ (Int32))
  | 0, _, _, _, _ => none
  | k + 1, x2, it_tokenAt, it_text_length, ft_text_bytes => (if (nI (lenS.getD sx 0)) ≤ x2 then some (.inl ()) else bd (fX5_byteAt N it_text_length ft_text_bytes (it_tokenAt + x2)) fun r2 => ck x2 (lenS.getD sx 0) ((if r2 = (chS sx (Int32.toNatClampNeg x2)) then lt (x2 + 1) fun n6 => fX2_wordIs_L20 N sx k n6 it_tokenAt it_text_length ft_text_bytes else some (.inr 0))))
theorem fX2_wordIs_L20_s (N : Nat) (sx : Nat) (k : Nat) (x2 : Int32) (it_tokenAt : Int32) (it_text_length : Int32) (ft_text_bytes : Nat → Int32) : fX2_wordIs_L20 N sx (k + 1) x2 it_tokenAt it_text_length ft_text_bytes = ((if (nI (lenS.getD sx 0)) ≤ x2 then some (.inl ()) else bd (fX5_byteAt N it_text_length ft_text_bytes (it_tokenAt + x2)) fun r2 => ck x2 (lenS.getD sx 0) ((if r2 = (chS sx (Int32.toNatClampNeg x2)) then lt (x2 + 1) fun n6 => fX2_wordIs_L20 N sx k n6 it_tokenAt it_text_length ft_text_bytes else some (.inr 0))))) := rfl
noncomputable def fX2_wordIs (N : Nat) (it_at : Int32) (it_tokenAt : Int32) (it_text_length : Int32) (ft_text_bytes : Nat → Int32) (sx : Nat) : Option (Int32) := (if (it_at - it_tokenAt) = (nI (lenS.getD sx 0)) then bd (fX2_wordIs_L20 N sx N 0 it_tokenAt it_text_length ft_text_bytes) fun o => match o with | .inr rr => some rr | .inl _ => some 1 else some 0)
set_option maxHeartbeats 4000000 in
set_option maxRecDepth 100000 in
theorem ctX2_wordIs (l : Launch) (D : va_G) (cI cZ cB cS : ClassId) (kK kV : Nat → Nat) (sz : Nat) (qt qt_text qt_plan qt_start qt_text_bytes : Nat) (it_at : Int32) (it_tokenAt : Int32) (it_fault : Int32) (it_faultAt : Int32) (it_text_length : Int32) (ft_text_bytes : Nat → Int32) (sx : Nat) (hsx : sx < 4) (N : Nat) (r0 : Int32)  (h : fX2_wordIs N it_at it_tokenAt it_text_length ft_text_bytes sx = some r0) : CtI l yX2_wordIs wsX2_wordIs { frames := 4, cells := 0, slots := 0, locals := 85 } D (TY cI cZ cB cS) kK kV [.ref qt, .ref (kK sx)] [(qt, .inr (2, [.ref qt_text, .ref qt_plan, .ref qt_start, .int it_at, .int it_tokenAt, .int it_fault, .int it_faultAt])), (qt_text, .inr (5, [.ref qt_text_bytes, .int it_text_length])), (qt_text_bytes, .inl (cB, 400, .inl ft_text_bytes))] [(qt, .inr (2, [.ref qt_text, .ref qt_plan, .ref qt_start, .int it_at, .int it_tokenAt, .int it_fault, .int it_faultAt])), (qt_text, .inr (5, [.ref qt_text_bytes, .int it_text_length])), (qt_text_bytes, .inl (cB, 400, .inl ft_text_bytes))] sz r0 := by
  refine mkI (cc := cX2_wordIs) (maxL := 3) (rt := .boolean) (own := RX2) (by decide) rfl rfl (Nat.le_of_ble_eq_true rfl) ?_
  intro p e s m args below meth c A Z ls hx hb hml hown hts hK hN hX hP hD hA hS hret hl
  have hl : lv_has ls 3 [(0, .ref qt), (1, .ref (kK sx))] := hl
  have fl29 : (Cond.fieldLink RX2 29 "SoupWall$Reader" "text" "LSoupWall$Text;").before args s = true := hts _ (List.mem_of_getElem? (l := wsX2_wordIs) (i := 3) rfl)
  have hiX2 : ∀ w ∈ wsX20, w ∈ wsX2_wordIs := fun w h => List.mem_cons_of_mem _ (List.mem_append_left _ (List.mem_append_right _ h))
  have fl84 : (Cond.fieldLink RX2 84 "SoupWall$Reader" "tokenAt" "I").before args s = true := hts _ (List.mem_of_getElem? (l := wsX2_wordIs) (i := 2) rfl)
  have fl37 : (Cond.fieldLink RX2 37 "SoupWall$Reader" "at" "I").before args s = true := hts _ (List.mem_of_getElem? (l := wsX2_wordIs) (i := 1) rfl)
  have lp20 : ∀ (k : Nat) (x2 : Int32)  (H : Heap) (locs : List Loc) (ls : Array Slot) (o : (Unit) ⊕ (Int32)), fX2_wordIs_L20 N sx k x2 it_tokenAt it_text_length ft_text_bytes = some o → va_P D vwCl [(qt, .inr (2, [.ref qt_text, .ref qt_plan, .ref qt_start, .int it_at, .int it_tokenAt, .int it_fault, .int it_faultAt])), (qt_text, .inr (5, [.ref qt_text_bytes, .int it_text_length])), (qt_text_bytes, .inl (cB, 400, .inl ft_text_bytes))] H → va_S A s.heap H locs → lv_has ls 3 [(0, .ref qt), (1, .ref (kK sx)), (2, .int x2)] → (∀ rr, .inr rr = o → rr = r0) → (.inl () = o → ∀ (H : Heap) (locs : List Loc) (ls : Array Slot), va_P D vwCl [(qt, .inr (2, [.ref qt_text, .ref qt_plan, .ref qt_start, .int it_at, .int it_tokenAt, .int it_fault, .int it_faultAt])), (qt_text, .inr (5, [.ref qt_text_bytes, .int it_text_length])), (qt_text_bytes, .inl (cB, 400, .inl ft_text_bytes))] H → va_S A s.heap H locs → lv_has ls 3 [] → W p l e ({ frames := 4, cells := 0, slots := 0, locals := 85 } : Room) s m args below meth c H locs 0 0 Z (F0 m 57 ls [])) → W p l e ({ frames := 4, cells := 0, slots := 0, locals := 85 } : Room) s m args below meth c H locs 0 0 Z (F0 m 20 ls []) := by
    intro k
    induction k with
    | zero =>
      intro x2 H locs ls o h
      exact nomatch (show (none : Option ((Unit) ⊕ (Int32))) = some o from h)
    | succ k ih =>
      intro x2 H locs ls o h hP hS hl KR K
      rw [fX2_wordIs_L20_s] at h
      refine lv_iload_n hx hb dX2_wordIs_20 rfl (lv_at hl 2 rfl) ?_
      refine lv_aload_n hx hb dX2_wordIs_21 rfl (lv_at hl 1 rfl) ?_
      refine callVI (rest := [.int x2]) ⟨hx, hb, hml, hown, hts⟩ (ctJ0_length l D (TY cI cZ cB cS) kK kV _ sx hsx) (cwV 0 hts gX2_wordIs_J0_length_8abf5 rfl rfl rfl (by decide +kernel) ⟨Nat.le_of_ble_eq_true rfl, Nat.le_of_ble_eq_true rfl⟩) hK hN hX hP (dF hD rfl) hS hA [] rfl (by decide) [(qt, .inr (2, [.ref qt_text, .ref qt_plan, .ref qt_start, .int it_at, .int it_tokenAt, .int it_fault, .int it_faultAt])), (qt_text, .inr (5, [.ref qt_text_bytes, .int it_text_length])), (qt_text_bytes, .inl (cB, 400, .inl ft_text_bytes))] [0, 1, 2] rfl rfl 3 rfl (by decide +kernel) (vk_recv hX.1 hsx hS) rfl hl.1 rfl (Nat.le_of_ble_eq_true rfl) ⟨Nat.zero_le _, Nat.zero_le _⟩ dX2_wordIs_22 (fun H locs hP hS => ?_)
      refine lv_icmp_ge (tgt := 57) hx hb dX2_wordIs_25 (by decide) (fun c1 => ?_) (fun c1 => ?_)
      · replace h := if_t c1 h
        exact K  (Option.some.inj h) _ _ _ hP hS (lv_sub hl [] rfl)
      · replace h := if_f c1 h
        refine lv_aload_n hx hb dX2_wordIs_28 rfl (lv_at hl 0 rfl) ?_
        refine va_get (ci := 2) (v := .ref qt_text) (C := RX2) (T := TX2) (N := 7) hx hb hts hiX2 hown hK hP 0 rfl rfl 0 (by decide) fl29 (fun _ h9 => h9) rfl dX2_wordIs_29 ?_
        refine lv_aload_n hx hb dX2_wordIs_32 rfl (lv_at hl 0 rfl) ?_
        refine va_get (ci := 2) (v := .int it_tokenAt) (C := RX2) (T := TX2) (N := 7) hx hb hts hiX2 hown hK hP 0 rfl rfl 4 (by decide) fl84 (fun _ h9 => h9) rfl dX2_wordIs_33 ?_
        refine lv_iload_n hx hb dX2_wordIs_36 rfl (lv_at hl 2 rfl) ?_
        refine lv_iadd hx hb dX2_wordIs_37 ?_
        replace h := bd_el h
        obtain ⟨r2, hc3, h⟩ := h
        refine callVI (rest := []) ⟨hx, hb, hml, hown, hts⟩ (ctX5_byteAt l D cI cZ cB cS kK kV _ qt_text qt_text_bytes it_text_length ft_text_bytes (it_tokenAt + x2) N r2 hc3) (cwV 1 hts gX2_wordIs_X5_byteAt rfl rfl rfl hdX5_byteAt ⟨Nat.le_of_ble_eq_true rfl, Nat.le_of_ble_eq_true rfl⟩) hK hN hX hP (dF hD rfl) hS hA [1, 2] (mcC rfl (mcC rfl mcN)) (by decide +kernel) [(qt, .inr (2, [.ref qt_text, .ref qt_plan, .ref qt_start, .int it_at, .int it_tokenAt, .int it_fault, .int it_faultAt])), (qt_text, .inr (5, [.ref qt_text_bytes, .int it_text_length])), (qt_text_bytes, .inl (cB, 400, .inl ft_text_bytes))] [0] (mcC rfl (mcC rfl mcN)) ((mcC rfl mcN).trans (mcC rfl mcN).symm) 3 rfl (by decide +kernel) (va_recv hK hP (ci := 5) (q0 := 1) rfl rfl) rfl hl.1 rfl (Nat.le_of_ble_eq_true rfl) ⟨Nat.zero_le _, Nat.zero_le _⟩ dX2_wordIs_38 (fun H locs hP hS => ?_)
        refine lv_aload_n hx hb dX2_wordIs_41 rfl (lv_at hl 1 rfl) ?_
        refine lv_iload_n hx hb dX2_wordIs_42 rfl (lv_at hl 2 rfl) ?_
        replace h := ck_el h
        obtain ⟨hi4, h⟩ := h
        refine callVI (rest := [.int r2]) ⟨hx, hb, hml, hown, hts⟩ (ctJ0_charAt l D (TY cI cZ cB cS) kK kV _ sx hsx x2 hi4) (cwV 1 hts gX2_wordIs_J0_charAt_5068e rfl rfl rfl (by decide +kernel) ⟨Nat.le_of_ble_eq_true rfl, Nat.le_of_ble_eq_true rfl⟩) hK hN hX hP (dF hD rfl) hS hA [] rfl (by decide) [(qt, .inr (2, [.ref qt_text, .ref qt_plan, .ref qt_start, .int it_at, .int it_tokenAt, .int it_fault, .int it_faultAt])), (qt_text, .inr (5, [.ref qt_text_bytes, .int it_text_length])), (qt_text_bytes, .inl (cB, 400, .inl ft_text_bytes))] [0, 1, 2] rfl rfl 3 rfl (by decide +kernel) (vk_recv hX.1 hsx hS) rfl hl.1 rfl (Nat.le_of_ble_eq_true rfl) ⟨Nat.zero_le _, Nat.zero_le _⟩ dX2_wordIs_43 (fun H locs hP hS => ?_)
        refine lv_icmp_eq (tgt := 51) hx hb dX2_wordIs_46 (by decide) (fun c5 => ?_) (fun c5 => ?_)
        · replace h := if_t c5 h
          obtain ⟨n6, en6⟩ : ∃ z : Int32, z = x2 + 1 := ⟨_, rfl⟩
          replace h := lt_at en6 h
          refine lv_iinc (v := n6) (lv' := [(2, .int n6), (0, .ref qt), (1, .ref (kK sx))]) hx hb dX2_wordIs_51 hl (k := 2) rfl (by rw [en6]; rfl) (by decide) rfl (fun ls hl => ?_)
          refine lv_goto (tgt := 20) hx hb dX2_wordIs_54 (by decide) ?_
          exact ih n6 _ _ _ o h hP hS (lv_sub hl [1, 2, 0] rfl) KR K
        · replace h := if_f c5 h
          refine lv_iconst (v := 0) hx hb dX2_wordIs_49 (by decide) ?_
          have hz9 := KR _ (Option.some.inj h)
          subst hz9
          exact hret _ _ _ _ hP hS rfl dX2_wordIs_50
  unfold fX2_wordIs at h
  refine lv_aload_n hx hb dX2_wordIs_0 rfl (lv_at hl 0 rfl) ?_
  refine va_get (ci := 2) (v := .int it_at) (C := RX2) (T := TX2) (N := 7) hx hb hts hiX2 hown hK hP 0 rfl rfl 3 (by decide) fl37 (fun _ h9 => h9) rfl dX2_wordIs_1 ?_
  refine lv_aload_n hx hb dX2_wordIs_4 rfl (lv_at hl 0 rfl) ?_
  refine va_get (ci := 2) (v := .int it_tokenAt) (C := RX2) (T := TX2) (N := 7) hx hb hts hiX2 hown hK hP 0 rfl rfl 4 (by decide) fl84 (fun _ h9 => h9) rfl dX2_wordIs_5 ?_
  refine lv_isub hx hb dX2_wordIs_8 ?_
  refine lv_aload_n hx hb dX2_wordIs_9 rfl (lv_at hl 1 rfl) ?_
  refine callVI (rest := [.int (it_at - it_tokenAt)]) ⟨hx, hb, hml, hown, hts⟩ (ctJ0_length l D (TY cI cZ cB cS) kK kV _ sx hsx) (cwV 0 hts gX2_wordIs_J0_length_8abf5 rfl rfl rfl (by decide +kernel) ⟨Nat.le_of_ble_eq_true rfl, Nat.le_of_ble_eq_true rfl⟩) hK hN hX hP (dF hD rfl) hS hA [] rfl (by decide) [(qt, .inr (2, [.ref qt_text, .ref qt_plan, .ref qt_start, .int it_at, .int it_tokenAt, .int it_fault, .int it_faultAt])), (qt_text, .inr (5, [.ref qt_text_bytes, .int it_text_length])), (qt_text_bytes, .inl (cB, 400, .inl ft_text_bytes))] [0, 1, 2] rfl rfl 3 rfl (by decide +kernel) (vk_recv hX.1 hsx hS) rfl hl.1 rfl (Nat.le_of_ble_eq_true rfl) ⟨Nat.zero_le _, Nat.zero_le _⟩ dX2_wordIs_10 (fun H locs hP hS => ?_)
  refine lv_icmp_eq (tgt := 18) hx hb dX2_wordIs_13 (by decide) (fun c7 => ?_) (fun c7 => ?_)
  · replace h := if_t c7 h
    refine lv_iconst (v := 0) hx hb dX2_wordIs_18 (by decide) ?_
    refine lv_istore_n (lv' := [(2, .int 0), (0, .ref qt), (1, .ref (kK sx))]) hx hb dX2_wordIs_19 rfl hl (by decide) rfl (fun ls hl => ?_)
    replace h := bd_el h
    obtain ⟨o8, ho8, h⟩ := h
    refine lp20 N 0 _ _ _ o8 ho8 hP hS (lv_sub hl [1, 2, 0] rfl) (fun rr er => by subst er; exact Option.some.inj h) (fun  eo H locs ls hP hS hl => ?_)
    subst eo
    dsimp only at h
    refine lv_iconst (v := 1) hx hb dX2_wordIs_57 (by decide) ?_
    simp only [Option.some.injEq] at h
    subst h
    exact hret _ _ _ _ hP hS rfl dX2_wordIs_58
  · replace h := if_f c7 h
    refine lv_iconst (v := 0) hx hb dX2_wordIs_16 (by decide) ?_
    simp only [Option.some.injEq] at h
    subst h
    exact hret _ _ _ _ hP hS rfl dX2_wordIs_17
theorem hdX2_wordIs : yX2_wordIs.cls = RX2 ∧ yX2_wordIs.cls ≠ "java/lang/invoke/MethodHandle" ∧ yX2_wordIs.cls ≠ "java/lang/invoke/VarHandle" ∧ (parseMethodDescriptor yX2_wordIs.desc).map (fun d => d.parameters.length) = some 1 := by decide +kernel

noncomputable def fX2_fail (N : Nat) (it_fault : Int32) (it_faultAt : Int32) (x1 : Int32) (x2 : Int32) : Option (Int32 × Int32) := (if it_fault = 0 then some (x1, x2) else some (it_fault, it_faultAt))
set_option maxHeartbeats 4000000 in
set_option maxRecDepth 100000 in
theorem ctX2_fail (l : Launch) (D : va_G) (cI cZ cB cS : ClassId) (kK kV : Nat → Nat) (sz : Nat) (qt qt_text qt_plan qt_start : Nat) (it_at : Int32) (it_tokenAt : Int32) (it_fault : Int32) (it_faultAt : Int32) (x1 : Int32) (x2 : Int32) (N : Nat) (w_it_fault : Int32) (w_it_faultAt : Int32) (h : fX2_fail N it_fault it_faultAt x1 x2 = some (w_it_fault, w_it_faultAt)) : CtV l yX2_fail wsX2_fail { frames := 0, cells := 0, slots := 0, locals := 0 } D (TY cI cZ cB cS) kK kV [.ref qt, .int x1, .int x2] [(qt, .inr (2, [.ref qt_text, .ref qt_plan, .ref qt_start, .int it_at, .int it_tokenAt, .int it_fault, .int it_faultAt]))] [(qt, .inr (2, [.ref qt_text, .ref qt_plan, .ref qt_start, .int it_at, .int it_tokenAt, .int w_it_fault, .int w_it_faultAt]))] sz := by
  refine mkV (cc := cX2_fail) (maxL := 3) (own := RX2) (by decide) rfl rfl (Nat.le_of_ble_eq_true rfl) ?_
  intro p e s m args below meth c A Z ls hx hb hml hown hts hK hN hX hP hD hA hS hret hl
  have hl : lv_has ls 3 [(0, .ref qt), (1, .int x1), (2, .int x2)] := hl
  have fl40 : (Cond.fieldLink RX2 40 "SoupWall$Reader" "fault" "I").before args s = true := hts _ (List.mem_of_getElem? (l := wsX2_fail) (i := 1) rfl)
  have hiX2 : ∀ w ∈ wsX20, w ∈ wsX2_fail := fun w h => List.mem_cons_of_mem _ (List.mem_append_right _ h)
  have fl25 : (Cond.fieldLink RX2 25 "SoupWall$Reader" "faultAt" "I").before args s = true := hts _ (List.mem_of_getElem? (l := wsX2_fail) (i := 2) rfl)
  unfold fX2_fail at h
  refine lv_aload_n hx hb dX2_fail_0 rfl (lv_at hl 0 rfl) ?_
  refine va_get (ci := 2) (v := .int it_fault) (C := RX2) (T := TX2) (N := 7) hx hb hts hiX2 hown hK hP 0 rfl rfl 5 (by decide) fl40 (fun _ h9 => h9) rfl dX2_fail_1 ?_
  refine lv_if_ne (tgt := 17) hx hb dX2_fail_4 (by decide) (fun c1 => ?_) (fun c1 => ?_)
  · replace h := if_f c1 h
    simp only [Option.some.injEq, Prod.mk.injEq] at h
    obtain ⟨rfl, rfl⟩ := h
    exact hret _ _ _ _ hP hS dX2_fail_17
  · replace h := if_t c1 h
    refine lv_aload_n hx hb dX2_fail_7 rfl (lv_at hl 0 rfl) ?_
    refine lv_iload_n hx hb dX2_fail_8 rfl (lv_at hl 1 rfl) ?_
    refine va_put (ci := 2) (v := .int x1) (ty := .int) (C := RX2) (T := TX2) (N := 7) hx hb hts hiX2 tyX2 tyX2_ok nmX2 hown hK hP (dF hD rfl) hS 0 rfl rfl 5 (by decide) fl40 (fun _ h9 => h9) rfl (by decide +kernel) rfl rfl (Nat.le_of_ble_eq_true rfl) dX2_fail_9 (fun H locs hP _ hS => ?_)
    replace hP : va_P D vwCl [(qt, .inr (2, [.ref qt_text, .ref qt_plan, .ref qt_start, .int it_at, .int it_tokenAt, .int x1, .int it_faultAt]))] H := hP
    refine lv_aload_n hx hb dX2_fail_12 rfl (lv_at hl 0 rfl) ?_
    refine lv_iload_n hx hb dX2_fail_13 rfl (lv_at hl 2 rfl) ?_
    refine va_put (ci := 2) (v := .int x2) (ty := .int) (C := RX2) (T := TX2) (N := 7) hx hb hts hiX2 tyX2 tyX2_ok nmX2 hown hK hP (dF hD rfl) hS 0 rfl rfl 6 (by decide) fl25 (fun _ h9 => h9) rfl (by decide +kernel) rfl rfl (Nat.le_of_ble_eq_true rfl) dX2_fail_14 (fun H locs hP _ hS => ?_)
    replace hP : va_P D vwCl [(qt, .inr (2, [.ref qt_text, .ref qt_plan, .ref qt_start, .int it_at, .int it_tokenAt, .int x1, .int x2]))] H := hP
    simp only [Option.some.injEq, Prod.mk.injEq] at h
    obtain ⟨rfl, rfl⟩ := h
    exact hret _ _ _ _ hP hS dX2_fail_17
theorem hdX2_fail : yX2_fail.cls = RX2 ∧ yX2_fail.cls ≠ "java/lang/invoke/MethodHandle" ∧ yX2_fail.cls ≠ "java/lang/invoke/VarHandle" ∧ (parseMethodDescriptor yX2_fail.desc).map (fun d => d.parameters.length) = some 2 := by decide +kernel

noncomputable def fX2_refuseSixth (N : Nat) (it_tokenAt : Int32) (it_fault : Int32) (it_faultAt : Int32) (x1 : Int32) (x2 : Int32) : Option (Int32 × Int32) := (if x1 < x2 then some (it_fault, it_faultAt) else bd (fX2_fail N it_fault it_faultAt 3 it_tokenAt) fun (g2, g3) => some (g2, g3))
set_option maxHeartbeats 4000000 in
set_option maxRecDepth 100000 in
theorem ctX2_refuseSixth (l : Launch) (D : va_G) (cI cZ cB cS : ClassId) (kK kV : Nat → Nat) (sz : Nat) (qt qt_text qt_plan qt_start : Nat) (it_at : Int32) (it_tokenAt : Int32) (it_fault : Int32) (it_faultAt : Int32) (x1 : Int32) (x2 : Int32) (N : Nat) (w_it_fault : Int32) (w_it_faultAt : Int32) (h : fX2_refuseSixth N it_tokenAt it_fault it_faultAt x1 x2 = some (w_it_fault, w_it_faultAt)) : CtV l yX2_refuseSixth wsX2_refuseSixth { frames := 1, cells := 0, slots := 0, locals := 22 } D (TY cI cZ cB cS) kK kV [.ref qt, .int x1, .int x2] [(qt, .inr (2, [.ref qt_text, .ref qt_plan, .ref qt_start, .int it_at, .int it_tokenAt, .int it_fault, .int it_faultAt]))] [(qt, .inr (2, [.ref qt_text, .ref qt_plan, .ref qt_start, .int it_at, .int it_tokenAt, .int w_it_fault, .int w_it_faultAt]))] sz := by
  refine mkV (cc := cX2_refuseSixth) (maxL := 3) (own := RX2) (by decide) rfl rfl (Nat.le_of_ble_eq_true rfl) ?_
  intro p e s m args below meth c A Z ls hx hb hml hown hts hK hN hX hP hD hA hS hret hl
  have hl : lv_has ls 3 [(0, .ref qt), (1, .int x1), (2, .int x2)] := hl
  have fl84 : (Cond.fieldLink RX2 84 "SoupWall$Reader" "tokenAt" "I").before args s = true := hts _ (List.mem_of_getElem? (l := wsX2_refuseSixth) (i := 1) rfl)
  have hiX2 : ∀ w ∈ wsX20, w ∈ wsX2_refuseSixth := fun w h => List.mem_cons_of_mem _ (List.mem_append_right _ h)
  unfold fX2_refuseSixth at h
  refine lv_iload_n hx hb dX2_refuseSixth_0 rfl (lv_at hl 1 rfl) ?_
  refine lv_iload_n hx hb dX2_refuseSixth_1 rfl (lv_at hl 2 rfl) ?_
  refine lv_icmp_lt (tgt := 14) hx hb dX2_refuseSixth_2 (by decide) (fun c1 => ?_) (fun c1 => ?_)
  · replace h := if_t c1 h
    simp only [Option.some.injEq, Prod.mk.injEq] at h
    obtain ⟨rfl, rfl⟩ := h
    exact hret _ _ _ _ hP hS dX2_refuseSixth_14
  · replace h := if_f c1 h
    refine lv_aload_n hx hb dX2_refuseSixth_5 rfl (lv_at hl 0 rfl) ?_
    refine lv_iconst (v := 3) hx hb dX2_refuseSixth_6 (by decide) ?_
    refine lv_aload_n hx hb dX2_refuseSixth_7 rfl (lv_at hl 0 rfl) ?_
    refine va_get (ci := 2) (v := .int it_tokenAt) (C := RX2) (T := TX2) (N := 7) hx hb hts hiX2 hown hK hP 0 rfl rfl 4 (by decide) fl84 (fun _ h9 => h9) rfl dX2_refuseSixth_8 ?_
    replace h := bd_el h
    obtain ⟨⟨g2, g3⟩, hc4, h⟩ := h
    refine callVV (rest := []) ⟨hx, hb, hml, hown, hts⟩ (ctX2_fail l D cI cZ cB cS kK kV _ qt qt_text qt_plan qt_start it_at it_tokenAt it_fault it_faultAt 3 it_tokenAt N g2 g3 hc4) (cwV 2 hts gX2_refuseSixth_X2_fail rfl rfl rfl hdX2_fail ⟨Nat.le_of_ble_eq_true rfl, Nat.le_of_ble_eq_true rfl⟩) hK hN hX hP (dF hD rfl) hS hA [0] (mcC rfl mcN) (by decide +kernel) [(qt, .inr (2, [.ref qt_text, .ref qt_plan, .ref qt_start, .int it_at, .int it_tokenAt, .int g2, .int g3]))] [] (mcC rfl mcN) (mcN.trans mcN.symm) 1 rfl (by decide +kernel) (va_recv hK hP (ci := 2) (q0 := 0) rfl rfl) rfl hl.1 rfl (Nat.le_of_ble_eq_true rfl) ⟨Nat.zero_le _, Nat.zero_le _⟩ dX2_refuseSixth_11 (fun H locs hP hS => ?_)
    simp only [Option.some.injEq, Prod.mk.injEq] at h
    obtain ⟨rfl, rfl⟩ := h
    exact hret _ _ _ _ hP hS dX2_refuseSixth_14
theorem hdX2_refuseSixth : yX2_refuseSixth.cls = RX2 ∧ yX2_refuseSixth.cls ≠ "java/lang/invoke/MethodHandle" ∧ yX2_refuseSixth.cls ≠ "java/lang/invoke/VarHandle" ∧ (parseMethodDescriptor yX2_refuseSixth.desc).map (fun d => d.parameters.length) = some 2 := by decide +kernel

noncomputable def fX2_takeNumber_L23 (N : Nat) : Nat → Int32 → Int32 → Int32 → Int32 → Int32 → (Nat → Int32) → Option (Int32 × Int32)
  | 0, _, _, _, _, _, _ => none
  | k + 1, x1, x2, x3, it_at, it_text_length, ft_text_bytes => (if it_text_length ≤ it_at then some (x3, it_at) else bd (fX5_isFigure N it_text_length ft_text_bytes it_at) fun r2 => (if r2 = 0 then some (x3, it_at) else bd (fX5_byteAt N it_text_length ft_text_bytes it_at) fun r5 => lt ((if (((10 * x3) + r5) - 48) < 1000 then (((10 * x3) + r5) - 48) else 1000)) fun n7 => lt (it_at + 1) fun n8 => fX2_takeNumber_L23 N k x1 x2 n7 n8 it_text_length ft_text_bytes))
theorem fX2_takeNumber_L23_s (N : Nat) (k : Nat) (x1 : Int32) (x2 : Int32) (x3 : Int32) (it_at : Int32) (it_text_length : Int32) (ft_text_bytes : Nat → Int32) : fX2_takeNumber_L23 N (k + 1) x1 x2 x3 it_at it_text_length ft_text_bytes = ((if it_text_length ≤ it_at then some (x3, it_at) else bd (fX5_isFigure N it_text_length ft_text_bytes it_at) fun r2 => (if r2 = 0 then some (x3, it_at) else bd (fX5_byteAt N it_text_length ft_text_bytes it_at) fun r5 => lt ((if (((10 * x3) + r5) - 48) < 1000 then (((10 * x3) + r5) - 48) else 1000)) fun n7 => lt (it_at + 1) fun n8 => fX2_takeNumber_L23 N k x1 x2 n7 n8 it_text_length ft_text_bytes))) := rfl
noncomputable def fX2_takeNumber (N : Nat) (it_at : Int32) (it_tokenAt : Int32) (it_fault : Int32) (it_faultAt : Int32) (it_text_length : Int32) (ft_text_bytes : Nat → Int32) (x1 : Int32) (x2 : Int32) : Option (Int32 × Int32 × Int32 × Int32 × Int32) := (if it_fault = 0 then bd (fX2_skipBlanks N it_at it_text_length ft_text_bytes) fun g10 => bd (fX2_takeNumber_L23 N N x1 x2 0 g10 it_text_length ft_text_bytes) fun (n13, g14) => (if g14 = g10 then bd (fX2_fail N it_fault it_faultAt 1 g10) fun (g28, g29) => some (n13, g14, g10, g28, g29) else (if 3 < (g14 - g10) then bd (fX2_fail N it_fault it_faultAt 2 g10) fun (g17, g18) => some (n13, g14, g10, g17, g18) else (if n13 < x1 then bd (fX2_fail N it_fault it_faultAt 2 g10) fun (g21, g22) => some (n13, g14, g10, g21, g22) else (if n13 ≤ x2 then some (n13, g14, g10, it_fault, it_faultAt) else bd (fX2_fail N it_fault it_faultAt 2 g10) fun (g25, g26) => some (n13, g14, g10, g25, g26))))) else some (0, it_at, it_tokenAt, it_fault, it_faultAt))
set_option maxHeartbeats 4000000 in
set_option maxRecDepth 100000 in
theorem ctX2_takeNumber (l : Launch) (D : va_G) (cI cZ cB cS : ClassId) (kK kV : Nat → Nat) (sz : Nat) (qt qt_text qt_plan qt_start qt_text_bytes : Nat) (it_at : Int32) (it_tokenAt : Int32) (it_fault : Int32) (it_faultAt : Int32) (it_text_length : Int32) (ft_text_bytes : Nat → Int32) (x1 : Int32) (x2 : Int32) (N : Nat) (r0 : Int32) (w_it_at : Int32) (w_it_tokenAt : Int32) (w_it_fault : Int32) (w_it_faultAt : Int32) (h : fX2_takeNumber N it_at it_tokenAt it_fault it_faultAt it_text_length ft_text_bytes x1 x2 = some (r0, w_it_at, w_it_tokenAt, w_it_fault, w_it_faultAt)) : CtI l yX2_takeNumber wsX2_takeNumber { frames := 2, cells := 0, slots := 0, locals := 42 } D (TY cI cZ cB cS) kK kV [.ref qt, .int x1, .int x2] [(qt, .inr (2, [.ref qt_text, .ref qt_plan, .ref qt_start, .int it_at, .int it_tokenAt, .int it_fault, .int it_faultAt])), (qt_text, .inr (5, [.ref qt_text_bytes, .int it_text_length])), (qt_text_bytes, .inl (cB, 400, .inl ft_text_bytes))] [(qt, .inr (2, [.ref qt_text, .ref qt_plan, .ref qt_start, .int w_it_at, .int w_it_tokenAt, .int w_it_fault, .int w_it_faultAt])), (qt_text, .inr (5, [.ref qt_text_bytes, .int it_text_length])), (qt_text_bytes, .inl (cB, 400, .inl ft_text_bytes))] sz r0 := by
  refine mkI (cc := cX2_takeNumber) (maxL := 4) (rt := .int) (own := RX2) (by decide) rfl rfl (Nat.le_of_ble_eq_true rfl) ?_
  intro p e s m args below meth c A Z ls hx hb hml hown hts hK hN hX hP hD hA hS hret hl
  have hl : lv_has ls 4 [(0, .ref qt), (1, .int x1), (2, .int x2)] := hl
  have fl37 : (Cond.fieldLink RX2 37 "SoupWall$Reader" "at" "I").before args s = true := hts _ (List.mem_of_getElem? (l := wsX2_takeNumber) (i := 2) rfl)
  have hiX2 : ∀ w ∈ wsX20, w ∈ wsX2_takeNumber := fun w h => List.mem_cons_of_mem _ (List.mem_append_left _ (List.mem_append_right _ h))
  have fl29 : (Cond.fieldLink RX2 29 "SoupWall$Reader" "text" "LSoupWall$Text;").before args s = true := hts _ (List.mem_of_getElem? (l := wsX2_takeNumber) (i := 4) rfl)
  have fl46 : (Cond.fieldLinkNest "SoupWall$Reader" 46 "SoupWall$Text" "length" "I" "SoupWall").before args s = true := hN.f 1 rfl
  have hiX5 : ∀ w ∈ wsX50, w ∈ wsX2_takeNumber := fun w h => List.mem_cons_of_mem _ (List.mem_append_right _ h)
  have ml155 : (Cond.methodLink RX2 155 Lib.Math.min.name).before args s = true := hts _ (List.mem_of_getElem? (l := wsX2_takeNumber) (i := 5) rfl)
  have msmin : (Cond.static Lib.Math.min.name).before args s = true := hts _ (List.mem_of_getElem? (l := wsX2_takeNumber) (i := 6) rfl)
  have mi : (Cond.initialized "java/lang/Math").before args s = true := hts _ (List.mem_of_getElem? (l := wsX2_takeNumber) (i := 7) rfl)
  have mcmin : (Cond.code Lib.Math.min.name Lib.Math.min.code 2 (some .int)).before args s = true := hts _ (List.mem_of_getElem? (l := wsX2_takeNumber) (i := 8) rfl)
  have fl40 : (Cond.fieldLink RX2 40 "SoupWall$Reader" "fault" "I").before args s = true := hts _ (List.mem_of_getElem? (l := wsX2_takeNumber) (i := 1) rfl)
  have fl84 : (Cond.fieldLink RX2 84 "SoupWall$Reader" "tokenAt" "I").before args s = true := hts _ (List.mem_of_getElem? (l := wsX2_takeNumber) (i := 3) rfl)
  have lp23 : ∀ (k : Nat) (x1 : Int32) (x2 : Int32) (x3 : Int32) (it_at : Int32) (it_tokenAt : Int32) (it_fault : Int32) (it_faultAt : Int32) (H : Heap) (locs : List Loc) (ls : Array Slot) (o : Int32 × Int32), fX2_takeNumber_L23 N k x1 x2 x3 it_at it_text_length ft_text_bytes = some o → va_P D vwCl [(qt, .inr (2, [.ref qt_text, .ref qt_plan, .ref qt_start, .int it_at, .int it_tokenAt, .int it_fault, .int it_faultAt])), (qt_text, .inr (5, [.ref qt_text_bytes, .int it_text_length])), (qt_text_bytes, .inl (cB, 400, .inl ft_text_bytes))] H → va_S A s.heap H locs → lv_has ls 4 [(0, .ref qt), (1, .int x1), (2, .int x2), (3, .int x3)] → (∀ (e3 : Int32) (e_it_at : Int32), (e3, e_it_at) = o → ∀ (H : Heap) (locs : List Loc) (ls : Array Slot), va_P D vwCl [(qt, .inr (2, [.ref qt_text, .ref qt_plan, .ref qt_start, .int e_it_at, .int it_tokenAt, .int it_fault, .int it_faultAt])), (qt_text, .inr (5, [.ref qt_text_bytes, .int it_text_length])), (qt_text_bytes, .inl (cB, 400, .inl ft_text_bytes))] H → va_S A s.heap H locs → lv_has ls 4 [(0, .ref qt), (1, .int x1), (2, .int x2), (3, .int e3)] → W p l e ({ frames := 2, cells := 0, slots := 0, locals := 42 } : Room) s m args below meth c H locs 0 0 Z (F0 m 90 ls [])) → W p l e ({ frames := 2, cells := 0, slots := 0, locals := 42 } : Room) s m args below meth c H locs 0 0 Z (F0 m 23 ls []) := by
    intro k
    induction k with
    | zero =>
      intro x1 x2 x3 it_at it_tokenAt it_fault it_faultAt H locs ls o h
      exact nomatch (show (none : Option (Int32 × Int32)) = some o from h)
    | succ k ih =>
      intro x1 x2 x3 it_at it_tokenAt it_fault it_faultAt H locs ls o h hP hS hl K
      rw [fX2_takeNumber_L23_s] at h
      refine lv_aload_n hx hb dX2_takeNumber_23 rfl (lv_at hl 0 rfl) ?_
      refine va_get (ci := 2) (v := .int it_at) (C := RX2) (T := TX2) (N := 7) hx hb hts hiX2 hown hK hP 0 rfl rfl 3 (by decide) fl37 (fun _ h9 => h9) rfl dX2_takeNumber_24 ?_
      refine lv_aload_n hx hb dX2_takeNumber_27 rfl (lv_at hl 0 rfl) ?_
      refine va_get (ci := 2) (v := .ref qt_text) (C := RX2) (T := TX2) (N := 7) hx hb hts hiX2 hown hK hP 0 rfl rfl 0 (by decide) fl29 (fun _ h9 => h9) rfl dX2_takeNumber_28 ?_
      refine va_getN (ci := 5) (v := .int it_text_length) (C := RX5) (T := TX5) (N := 2) hx hb hts hiX5 hown hK hP 1 rfl rfl 1 (by decide) fl46 (fun _ h9 => h9) rfl dX2_takeNumber_31 ?_
      refine lv_icmp_ge (tgt := 90) hx hb dX2_takeNumber_34 (by decide) (fun c1 => ?_) (fun c1 => ?_)
      · replace h := if_t c1 h
        exact K x3 it_at (Option.some.inj h) _ _ _ hP hS (lv_sub hl [0, 1, 2, 3] rfl)
      · replace h := if_f c1 h
        refine lv_aload_n hx hb dX2_takeNumber_37 rfl (lv_at hl 0 rfl) ?_
        refine va_get (ci := 2) (v := .ref qt_text) (C := RX2) (T := TX2) (N := 7) hx hb hts hiX2 hown hK hP 0 rfl rfl 0 (by decide) fl29 (fun _ h9 => h9) rfl dX2_takeNumber_38 ?_
        refine lv_aload_n hx hb dX2_takeNumber_41 rfl (lv_at hl 0 rfl) ?_
        refine va_get (ci := 2) (v := .int it_at) (C := RX2) (T := TX2) (N := 7) hx hb hts hiX2 hown hK hP 0 rfl rfl 3 (by decide) fl37 (fun _ h9 => h9) rfl dX2_takeNumber_42 ?_
        replace h := bd_el h
        obtain ⟨r2, hc3, h⟩ := h
        refine callVI (rest := []) ⟨hx, hb, hml, hown, hts⟩ (ctX5_isFigure l D cI cZ cB cS kK kV _ qt_text qt_text_bytes it_text_length ft_text_bytes it_at N r2 hc3) (cwV 1 hts gX2_takeNumber_X5_isFigure rfl rfl rfl hdX5_isFigure ⟨Nat.le_of_ble_eq_true rfl, Nat.le_of_ble_eq_true rfl⟩) hK hN hX hP (dF hD rfl) hS hA [1, 2] (mcC rfl (mcC rfl mcN)) (by decide +kernel) [(qt, .inr (2, [.ref qt_text, .ref qt_plan, .ref qt_start, .int it_at, .int it_tokenAt, .int it_fault, .int it_faultAt])), (qt_text, .inr (5, [.ref qt_text_bytes, .int it_text_length])), (qt_text_bytes, .inl (cB, 400, .inl ft_text_bytes))] [0] (mcC rfl (mcC rfl mcN)) ((mcC rfl mcN).trans (mcC rfl mcN).symm) 3 rfl (by decide +kernel) (va_recv hK hP (ci := 5) (q0 := 1) rfl rfl) rfl hl.1 rfl (Nat.le_of_ble_eq_true rfl) ⟨Nat.zero_le _, Nat.zero_le _⟩ dX2_takeNumber_45 (fun H locs hP hS => ?_)
        refine lv_if_eq (tgt := 90) hx hb dX2_takeNumber_48 (by decide) (fun c4 => ?_) (fun c4 => ?_)
        · replace h := if_t c4 h
          exact K x3 it_at (Option.some.inj h) _ _ _ hP hS (lv_sub hl [0, 1, 2, 3] rfl)
        · replace h := if_f c4 h
          refine lv_sipush (v := 1000) hx hb dX2_takeNumber_51 (by decide) ?_
          refine lv_bipush (v := 10) hx hb dX2_takeNumber_54 (by decide) ?_
          refine lv_iload_n hx hb dX2_takeNumber_56 rfl (lv_at hl 3 rfl) ?_
          refine lv_imul hx hb dX2_takeNumber_57 ?_
          refine lv_aload_n hx hb dX2_takeNumber_58 rfl (lv_at hl 0 rfl) ?_
          refine va_get (ci := 2) (v := .ref qt_text) (C := RX2) (T := TX2) (N := 7) hx hb hts hiX2 hown hK hP 0 rfl rfl 0 (by decide) fl29 (fun _ h9 => h9) rfl dX2_takeNumber_59 ?_
          refine lv_aload_n hx hb dX2_takeNumber_62 rfl (lv_at hl 0 rfl) ?_
          refine va_get (ci := 2) (v := .int it_at) (C := RX2) (T := TX2) (N := 7) hx hb hts hiX2 hown hK hP 0 rfl rfl 3 (by decide) fl37 (fun _ h9 => h9) rfl dX2_takeNumber_63 ?_
          replace h := bd_el h
          obtain ⟨r5, hc6, h⟩ := h
          refine callVI (rest := [.int (10 * x3), .int 1000]) ⟨hx, hb, hml, hown, hts⟩ (ctX5_byteAt l D cI cZ cB cS kK kV _ qt_text qt_text_bytes it_text_length ft_text_bytes it_at N r5 hc6) (cwV 1 hts gX2_takeNumber_X5_byteAt rfl rfl rfl hdX5_byteAt ⟨Nat.le_of_ble_eq_true rfl, Nat.le_of_ble_eq_true rfl⟩) hK hN hX hP (dF hD rfl) hS hA [1, 2] (mcC rfl (mcC rfl mcN)) (by decide +kernel) [(qt, .inr (2, [.ref qt_text, .ref qt_plan, .ref qt_start, .int it_at, .int it_tokenAt, .int it_fault, .int it_faultAt])), (qt_text, .inr (5, [.ref qt_text_bytes, .int it_text_length])), (qt_text_bytes, .inl (cB, 400, .inl ft_text_bytes))] [0] (mcC rfl (mcC rfl mcN)) ((mcC rfl mcN).trans (mcC rfl mcN).symm) 3 rfl (by decide +kernel) (va_recv hK hP (ci := 5) (q0 := 1) rfl rfl) rfl hl.1 rfl (Nat.le_of_ble_eq_true rfl) ⟨Nat.zero_le _, Nat.zero_le _⟩ dX2_takeNumber_66 (fun H locs hP hS => ?_)
          refine lv_iadd hx hb dX2_takeNumber_69 ?_
          refine lv_bipush (v := 48) hx hb dX2_takeNumber_70 (by decide) ?_
          refine lv_isub hx hb dX2_takeNumber_72 ?_
          refine va_mmin hx hb (hml.trans hl.1.symm) hown ml155 msmin mi mcmin (Nat.le_of_ble_eq_true rfl) (Nat.le_of_ble_eq_true rfl) (Nat.zero_le _) (Nat.zero_le _) dX2_takeNumber_73 ?_
          refine lv_topi (fun n7 en7 => ?_)
          replace h := lt_at en7 h
          refine lv_istore_n (lv' := [(3, .int n7), (0, .ref qt), (1, .int x1), (2, .int x2)]) hx hb dX2_takeNumber_76 rfl hl (by decide) rfl (fun ls hl => ?_)
          refine lv_aload_n hx hb dX2_takeNumber_77 rfl (lv_at hl 1 rfl) ?_
          refine lv_dup hx hb dX2_takeNumber_78 rfl ?_
          refine va_get (ci := 2) (v := .int it_at) (C := RX2) (T := TX2) (N := 7) hx hb hts hiX2 hown hK hP 0 rfl rfl 3 (by decide) fl37 (fun _ h9 => h9) rfl dX2_takeNumber_79 ?_
          refine lv_iconst (v := 1) hx hb dX2_takeNumber_82 (by decide) ?_
          refine lv_iadd hx hb dX2_takeNumber_83 ?_
          refine lv_topi (fun n8 en8 => ?_)
          replace h := lt_at en8 h
          refine va_put (ci := 2) (v := .int n8) (ty := .int) (C := RX2) (T := TX2) (N := 7) hx hb hts hiX2 tyX2 tyX2_ok nmX2 hown hK hP (dF hD rfl) hS 0 rfl rfl 3 (by decide) fl37 (fun _ h9 => h9) rfl (by decide +kernel) rfl rfl (Nat.le_of_ble_eq_true rfl) dX2_takeNumber_84 (fun H locs hP _ hS => ?_)
          replace hP : va_P D vwCl [(qt, .inr (2, [.ref qt_text, .ref qt_plan, .ref qt_start, .int n8, .int it_tokenAt, .int it_fault, .int it_faultAt])), (qt_text, .inr (5, [.ref qt_text_bytes, .int it_text_length])), (qt_text_bytes, .inl (cB, 400, .inl ft_text_bytes))] H := hP
          refine lv_goto (tgt := 23) hx hb dX2_takeNumber_87 (by decide) ?_
          exact ih x1 x2 n7 n8 it_tokenAt it_fault it_faultAt _ _ _ o h hP hS (lv_sub hl [1, 2, 3, 0] rfl) K
  unfold fX2_takeNumber at h
  refine lv_aload_n hx hb dX2_takeNumber_0 rfl (lv_at hl 0 rfl) ?_
  refine va_get (ci := 2) (v := .int it_fault) (C := RX2) (T := TX2) (N := 7) hx hb hts hiX2 hown hK hP 0 rfl rfl 5 (by decide) fl40 (fun _ h9 => h9) rfl dX2_takeNumber_1 ?_
  refine lv_if_eq (tgt := 9) hx hb dX2_takeNumber_4 (by decide) (fun c9 => ?_) (fun c9 => ?_)
  · replace h := if_t c9 h
    refine lv_aload_n hx hb dX2_takeNumber_9 rfl (lv_at hl 0 rfl) ?_
    replace h := bd_el h
    obtain ⟨g10, hc11, h⟩ := h
    refine callVV (rest := []) ⟨hx, hb, hml, hown, hts⟩ (ctX2_skipBlanks l D cI cZ cB cS kK kV _ qt qt_text qt_plan qt_start qt_text_bytes it_at it_tokenAt it_fault it_faultAt it_text_length ft_text_bytes N g10 hc11) (cwV 0 hts gX2_takeNumber_X2_skipBlanks rfl rfl rfl hdX2_skipBlanks ⟨Nat.le_of_ble_eq_true rfl, Nat.le_of_ble_eq_true rfl⟩) hK hN hX hP (dF hD rfl) hS hA [0, 1, 2] (mcC rfl (mcC rfl (mcC rfl mcN))) (by decide +kernel) [(qt, .inr (2, [.ref qt_text, .ref qt_plan, .ref qt_start, .int g10, .int it_tokenAt, .int it_fault, .int it_faultAt])), (qt_text, .inr (5, [.ref qt_text_bytes, .int it_text_length])), (qt_text_bytes, .inl (cB, 400, .inl ft_text_bytes))] [] (mcC rfl (mcC rfl (mcC rfl mcN))) (mcN.trans mcN.symm) 3 rfl (by decide +kernel) (va_recv hK hP (ci := 2) (q0 := 0) rfl rfl) rfl hl.1 rfl (Nat.le_of_ble_eq_true rfl) ⟨Nat.zero_le _, Nat.zero_le _⟩ dX2_takeNumber_10 (fun H locs hP hS => ?_)
    refine lv_aload_n hx hb dX2_takeNumber_13 rfl (lv_at hl 0 rfl) ?_
    refine lv_aload_n hx hb dX2_takeNumber_14 rfl (lv_at hl 0 rfl) ?_
    refine va_get (ci := 2) (v := .int g10) (C := RX2) (T := TX2) (N := 7) hx hb hts hiX2 hown hK hP 0 rfl rfl 3 (by decide) fl37 (fun _ h9 => h9) rfl dX2_takeNumber_15 ?_
    refine va_put (ci := 2) (v := .int g10) (ty := .int) (C := RX2) (T := TX2) (N := 7) hx hb hts hiX2 tyX2 tyX2_ok nmX2 hown hK hP (dF hD rfl) hS 0 rfl rfl 4 (by decide) fl84 (fun _ h9 => h9) rfl (by decide +kernel) rfl rfl (Nat.le_of_ble_eq_true rfl) dX2_takeNumber_18 (fun H locs hP _ hS => ?_)
    replace hP : va_P D vwCl [(qt, .inr (2, [.ref qt_text, .ref qt_plan, .ref qt_start, .int g10, .int g10, .int it_fault, .int it_faultAt])), (qt_text, .inr (5, [.ref qt_text_bytes, .int it_text_length])), (qt_text_bytes, .inl (cB, 400, .inl ft_text_bytes))] H := hP
    refine lv_iconst (v := 0) hx hb dX2_takeNumber_21 (by decide) ?_
    refine lv_istore_n (lv' := [(3, .int 0), (0, .ref qt), (1, .int x1), (2, .int x2)]) hx hb dX2_takeNumber_22 rfl hl (by decide) rfl (fun ls hl => ?_)
    replace h := bd_el h
    obtain ⟨o12, ho12, h⟩ := h
    refine lp23 N x1 x2 0 g10 g10 it_fault it_faultAt _ _ _ o12 ho12 hP hS (lv_sub hl [1, 2, 3, 0] rfl) (fun n13 g14 eo H locs ls hP hS hl => ?_)
    subst eo
    refine lv_aload_n hx hb dX2_takeNumber_90 rfl (lv_at hl 0 rfl) ?_
    refine va_get (ci := 2) (v := .int g14) (C := RX2) (T := TX2) (N := 7) hx hb hts hiX2 hown hK hP 0 rfl rfl 3 (by decide) fl37 (fun _ h9 => h9) rfl dX2_takeNumber_91 ?_
    refine lv_aload_n hx hb dX2_takeNumber_94 rfl (lv_at hl 0 rfl) ?_
    refine va_get (ci := 2) (v := .int g10) (C := RX2) (T := TX2) (N := 7) hx hb hts hiX2 hown hK hP 0 rfl rfl 4 (by decide) fl84 (fun _ h9 => h9) rfl dX2_takeNumber_95 ?_
    refine lv_icmp_ne (tgt := 113) hx hb dX2_takeNumber_98 (by decide) (fun c15 => ?_) (fun c15 => ?_)
    · replace h := if_f c15 h
      refine lv_aload_n hx hb dX2_takeNumber_113 rfl (lv_at hl 0 rfl) ?_
      refine va_get (ci := 2) (v := .int g14) (C := RX2) (T := TX2) (N := 7) hx hb hts hiX2 hown hK hP 0 rfl rfl 3 (by decide) fl37 (fun _ h9 => h9) rfl dX2_takeNumber_114 ?_
      refine lv_aload_n hx hb dX2_takeNumber_117 rfl (lv_at hl 0 rfl) ?_
      refine va_get (ci := 2) (v := .int g10) (C := RX2) (T := TX2) (N := 7) hx hb hts hiX2 hown hK hP 0 rfl rfl 4 (by decide) fl84 (fun _ h9 => h9) rfl dX2_takeNumber_118 ?_
      refine lv_isub hx hb dX2_takeNumber_121 ?_
      refine lv_iconst (v := 3) hx hb dX2_takeNumber_122 (by decide) ?_
      refine lv_icmp_gt (tgt := 136) hx hb dX2_takeNumber_123 (by decide) (fun c16 => ?_) (fun c16 => ?_)
      · replace h := if_t c16 h
        refine lv_aload_n hx hb dX2_takeNumber_136 rfl (lv_at hl 0 rfl) ?_
        refine lv_iconst (v := 2) hx hb dX2_takeNumber_137 (by decide) ?_
        refine lv_aload_n hx hb dX2_takeNumber_138 rfl (lv_at hl 0 rfl) ?_
        refine va_get (ci := 2) (v := .int g10) (C := RX2) (T := TX2) (N := 7) hx hb hts hiX2 hown hK hP 0 rfl rfl 4 (by decide) fl84 (fun _ h9 => h9) rfl dX2_takeNumber_139 ?_
        replace h := bd_el h
        obtain ⟨⟨g17, g18⟩, hc19, h⟩ := h
        refine callVV (rest := []) ⟨hx, hb, hml, hown, hts⟩ (ctX2_fail l D cI cZ cB cS kK kV _ qt qt_text qt_plan qt_start g14 g10 it_fault it_faultAt 2 g10 N g17 g18 hc19) (cwV 2 hts gX2_takeNumber_X2_fail rfl rfl rfl hdX2_fail ⟨Nat.le_of_ble_eq_true rfl, Nat.le_of_ble_eq_true rfl⟩) hK hN hX hP (dF hD rfl) hS hA [0] (mcC rfl mcN) (by decide +kernel) [(qt, .inr (2, [.ref qt_text, .ref qt_plan, .ref qt_start, .int g14, .int g10, .int g17, .int g18])), (qt_text, .inr (5, [.ref qt_text_bytes, .int it_text_length])), (qt_text_bytes, .inl (cB, 400, .inl ft_text_bytes))] [1, 2] (mcC rfl mcN) ((mcC rfl (mcC rfl mcN)).trans (mcC rfl (mcC rfl mcN)).symm) 3 rfl (by decide +kernel) (va_recv hK hP (ci := 2) (q0 := 0) rfl rfl) rfl hl.1 rfl (Nat.le_of_ble_eq_true rfl) ⟨Nat.zero_le _, Nat.zero_le _⟩ dX2_takeNumber_142 (fun H locs hP hS => ?_)
        refine lv_iload_n hx hb dX2_takeNumber_145 rfl (lv_at hl 3 rfl) ?_
        simp only [Option.some.injEq, Prod.mk.injEq] at h
        obtain ⟨rfl, rfl, rfl, rfl, rfl⟩ := h
        exact hret _ _ _ _ hP hS rfl dX2_takeNumber_146
      · replace h := if_f c16 h
        refine lv_iload_n hx hb dX2_takeNumber_126 rfl (lv_at hl 3 rfl) ?_
        refine lv_iload_n hx hb dX2_takeNumber_127 rfl (lv_at hl 1 rfl) ?_
        refine lv_icmp_lt (tgt := 136) hx hb dX2_takeNumber_128 (by decide) (fun c20 => ?_) (fun c20 => ?_)
        · replace h := if_t c20 h
          refine lv_aload_n hx hb dX2_takeNumber_136 rfl (lv_at hl 0 rfl) ?_
          refine lv_iconst (v := 2) hx hb dX2_takeNumber_137 (by decide) ?_
          refine lv_aload_n hx hb dX2_takeNumber_138 rfl (lv_at hl 0 rfl) ?_
          refine va_get (ci := 2) (v := .int g10) (C := RX2) (T := TX2) (N := 7) hx hb hts hiX2 hown hK hP 0 rfl rfl 4 (by decide) fl84 (fun _ h9 => h9) rfl dX2_takeNumber_139 ?_
          replace h := bd_el h
          obtain ⟨⟨g21, g22⟩, hc23, h⟩ := h
          refine callVV (rest := []) ⟨hx, hb, hml, hown, hts⟩ (ctX2_fail l D cI cZ cB cS kK kV _ qt qt_text qt_plan qt_start g14 g10 it_fault it_faultAt 2 g10 N g21 g22 hc23) (cwV 2 hts gX2_takeNumber_X2_fail rfl rfl rfl hdX2_fail ⟨Nat.le_of_ble_eq_true rfl, Nat.le_of_ble_eq_true rfl⟩) hK hN hX hP (dF hD rfl) hS hA [0] (mcC rfl mcN) (by decide +kernel) [(qt, .inr (2, [.ref qt_text, .ref qt_plan, .ref qt_start, .int g14, .int g10, .int g21, .int g22])), (qt_text, .inr (5, [.ref qt_text_bytes, .int it_text_length])), (qt_text_bytes, .inl (cB, 400, .inl ft_text_bytes))] [1, 2] (mcC rfl mcN) ((mcC rfl (mcC rfl mcN)).trans (mcC rfl (mcC rfl mcN)).symm) 3 rfl (by decide +kernel) (va_recv hK hP (ci := 2) (q0 := 0) rfl rfl) rfl hl.1 rfl (Nat.le_of_ble_eq_true rfl) ⟨Nat.zero_le _, Nat.zero_le _⟩ dX2_takeNumber_142 (fun H locs hP hS => ?_)
          refine lv_iload_n hx hb dX2_takeNumber_145 rfl (lv_at hl 3 rfl) ?_
          simp only [Option.some.injEq, Prod.mk.injEq] at h
          obtain ⟨rfl, rfl, rfl, rfl, rfl⟩ := h
          exact hret _ _ _ _ hP hS rfl dX2_takeNumber_146
        · replace h := if_f c20 h
          refine lv_iload_n hx hb dX2_takeNumber_131 rfl (lv_at hl 3 rfl) ?_
          refine lv_iload_n hx hb dX2_takeNumber_132 rfl (lv_at hl 2 rfl) ?_
          refine lv_icmp_le (tgt := 145) hx hb dX2_takeNumber_133 (by decide) (fun c24 => ?_) (fun c24 => ?_)
          · replace h := if_t c24 h
            refine lv_iload_n hx hb dX2_takeNumber_145 rfl (lv_at hl 3 rfl) ?_
            simp only [Option.some.injEq, Prod.mk.injEq] at h
            obtain ⟨rfl, rfl, rfl, rfl, rfl⟩ := h
            exact hret _ _ _ _ hP hS rfl dX2_takeNumber_146
          · replace h := if_f c24 h
            refine lv_aload_n hx hb dX2_takeNumber_136 rfl (lv_at hl 0 rfl) ?_
            refine lv_iconst (v := 2) hx hb dX2_takeNumber_137 (by decide) ?_
            refine lv_aload_n hx hb dX2_takeNumber_138 rfl (lv_at hl 0 rfl) ?_
            refine va_get (ci := 2) (v := .int g10) (C := RX2) (T := TX2) (N := 7) hx hb hts hiX2 hown hK hP 0 rfl rfl 4 (by decide) fl84 (fun _ h9 => h9) rfl dX2_takeNumber_139 ?_
            replace h := bd_el h
            obtain ⟨⟨g25, g26⟩, hc27, h⟩ := h
            refine callVV (rest := []) ⟨hx, hb, hml, hown, hts⟩ (ctX2_fail l D cI cZ cB cS kK kV _ qt qt_text qt_plan qt_start g14 g10 it_fault it_faultAt 2 g10 N g25 g26 hc27) (cwV 2 hts gX2_takeNumber_X2_fail rfl rfl rfl hdX2_fail ⟨Nat.le_of_ble_eq_true rfl, Nat.le_of_ble_eq_true rfl⟩) hK hN hX hP (dF hD rfl) hS hA [0] (mcC rfl mcN) (by decide +kernel) [(qt, .inr (2, [.ref qt_text, .ref qt_plan, .ref qt_start, .int g14, .int g10, .int g25, .int g26])), (qt_text, .inr (5, [.ref qt_text_bytes, .int it_text_length])), (qt_text_bytes, .inl (cB, 400, .inl ft_text_bytes))] [1, 2] (mcC rfl mcN) ((mcC rfl (mcC rfl mcN)).trans (mcC rfl (mcC rfl mcN)).symm) 3 rfl (by decide +kernel) (va_recv hK hP (ci := 2) (q0 := 0) rfl rfl) rfl hl.1 rfl (Nat.le_of_ble_eq_true rfl) ⟨Nat.zero_le _, Nat.zero_le _⟩ dX2_takeNumber_142 (fun H locs hP hS => ?_)
            refine lv_iload_n hx hb dX2_takeNumber_145 rfl (lv_at hl 3 rfl) ?_
            simp only [Option.some.injEq, Prod.mk.injEq] at h
            obtain ⟨rfl, rfl, rfl, rfl, rfl⟩ := h
            exact hret _ _ _ _ hP hS rfl dX2_takeNumber_146
    · replace h := if_t c15 h
      refine lv_aload_n hx hb dX2_takeNumber_101 rfl (lv_at hl 0 rfl) ?_
      refine lv_iconst (v := 1) hx hb dX2_takeNumber_102 (by decide) ?_
      refine lv_aload_n hx hb dX2_takeNumber_103 rfl (lv_at hl 0 rfl) ?_
      refine va_get (ci := 2) (v := .int g10) (C := RX2) (T := TX2) (N := 7) hx hb hts hiX2 hown hK hP 0 rfl rfl 4 (by decide) fl84 (fun _ h9 => h9) rfl dX2_takeNumber_104 ?_
      replace h := bd_el h
      obtain ⟨⟨g28, g29⟩, hc30, h⟩ := h
      refine callVV (rest := []) ⟨hx, hb, hml, hown, hts⟩ (ctX2_fail l D cI cZ cB cS kK kV _ qt qt_text qt_plan qt_start g14 g10 it_fault it_faultAt 1 g10 N g28 g29 hc30) (cwV 2 hts gX2_takeNumber_X2_fail rfl rfl rfl hdX2_fail ⟨Nat.le_of_ble_eq_true rfl, Nat.le_of_ble_eq_true rfl⟩) hK hN hX hP (dF hD rfl) hS hA [0] (mcC rfl mcN) (by decide +kernel) [(qt, .inr (2, [.ref qt_text, .ref qt_plan, .ref qt_start, .int g14, .int g10, .int g28, .int g29])), (qt_text, .inr (5, [.ref qt_text_bytes, .int it_text_length])), (qt_text_bytes, .inl (cB, 400, .inl ft_text_bytes))] [1, 2] (mcC rfl mcN) ((mcC rfl (mcC rfl mcN)).trans (mcC rfl (mcC rfl mcN)).symm) 3 rfl (by decide +kernel) (va_recv hK hP (ci := 2) (q0 := 0) rfl rfl) rfl hl.1 rfl (Nat.le_of_ble_eq_true rfl) ⟨Nat.zero_le _, Nat.zero_le _⟩ dX2_takeNumber_107 (fun H locs hP hS => ?_)
      refine lv_goto (tgt := 145) hx hb dX2_takeNumber_110 (by decide) ?_
      refine lv_iload_n hx hb dX2_takeNumber_145 rfl (lv_at hl 3 rfl) ?_
      simp only [Option.some.injEq, Prod.mk.injEq] at h
      obtain ⟨rfl, rfl, rfl, rfl, rfl⟩ := h
      exact hret _ _ _ _ hP hS rfl dX2_takeNumber_146
  · replace h := if_f c9 h
    refine lv_iconst (v := 0) hx hb dX2_takeNumber_7 (by decide) ?_
    simp only [Option.some.injEq, Prod.mk.injEq] at h
    obtain ⟨rfl, rfl, rfl, rfl, rfl⟩ := h
    exact hret _ _ _ _ hP hS rfl dX2_takeNumber_8
theorem hdX2_takeNumber : yX2_takeNumber.cls = RX2 ∧ yX2_takeNumber.cls ≠ "java/lang/invoke/MethodHandle" ∧ yX2_takeNumber.cls ≠ "java/lang/invoke/VarHandle" ∧ (parseMethodDescriptor yX2_takeNumber.desc).map (fun d => d.parameters.length) = some 2 := by decide +kernel

noncomputable def fX2_takeEnd (N : Nat) (it_at : Int32) (it_fault : Int32) (it_faultAt : Int32) (it_text_length : Int32) (ft_text_bytes : Nat → Int32) : Option (Int32 × Int32 × Int32) := (if it_fault = 0 then bd (fX2_skipBlanks N it_at it_text_length ft_text_bytes) fun g2 => bd (fX5_byteAt N it_text_length ft_text_bytes g2) fun r4 => (if r4 = 59 then lt (g2 + 1) fun n7 => some (n7, it_fault, it_faultAt) else bd (fX2_fail N it_fault it_faultAt 1 g2) fun (g8, g9) => lt (g2 + 1) fun n11 => some (n11, g8, g9)) else some (it_at, it_fault, it_faultAt))
set_option maxHeartbeats 4000000 in
set_option maxRecDepth 100000 in
theorem ctX2_takeEnd (l : Launch) (D : va_G) (cI cZ cB cS : ClassId) (kK kV : Nat → Nat) (sz : Nat) (qt qt_text qt_plan qt_start qt_text_bytes : Nat) (it_at : Int32) (it_tokenAt : Int32) (it_fault : Int32) (it_faultAt : Int32) (it_text_length : Int32) (ft_text_bytes : Nat → Int32)  (N : Nat) (w_it_at : Int32) (w_it_fault : Int32) (w_it_faultAt : Int32) (h : fX2_takeEnd N it_at it_fault it_faultAt it_text_length ft_text_bytes = some (w_it_at, w_it_fault, w_it_faultAt)) : CtV l yX2_takeEnd wsX2_takeEnd { frames := 2, cells := 0, slots := 0, locals := 41 } D (TY cI cZ cB cS) kK kV [.ref qt] [(qt, .inr (2, [.ref qt_text, .ref qt_plan, .ref qt_start, .int it_at, .int it_tokenAt, .int it_fault, .int it_faultAt])), (qt_text, .inr (5, [.ref qt_text_bytes, .int it_text_length])), (qt_text_bytes, .inl (cB, 400, .inl ft_text_bytes))] [(qt, .inr (2, [.ref qt_text, .ref qt_plan, .ref qt_start, .int w_it_at, .int it_tokenAt, .int w_it_fault, .int w_it_faultAt])), (qt_text, .inr (5, [.ref qt_text_bytes, .int it_text_length])), (qt_text_bytes, .inl (cB, 400, .inl ft_text_bytes))] sz := by
  refine mkV (cc := cX2_takeEnd) (maxL := 1) (own := RX2) (by decide) rfl rfl (Nat.le_of_ble_eq_true rfl) ?_
  intro p e s m args below meth c A Z ls hx hb hml hown hts hK hN hX hP hD hA hS hret hl
  have hl : lv_has ls 1 [(0, .ref qt)] := hl
  have fl40 : (Cond.fieldLink RX2 40 "SoupWall$Reader" "fault" "I").before args s = true := hts _ (List.mem_of_getElem? (l := wsX2_takeEnd) (i := 1) rfl)
  have hiX2 : ∀ w ∈ wsX20, w ∈ wsX2_takeEnd := fun w h => List.mem_cons_of_mem _ (List.mem_append_left _ (List.mem_append_right _ h))
  have fl29 : (Cond.fieldLink RX2 29 "SoupWall$Reader" "text" "LSoupWall$Text;").before args s = true := hts _ (List.mem_of_getElem? (l := wsX2_takeEnd) (i := 2) rfl)
  have fl37 : (Cond.fieldLink RX2 37 "SoupWall$Reader" "at" "I").before args s = true := hts _ (List.mem_of_getElem? (l := wsX2_takeEnd) (i := 3) rfl)
  unfold fX2_takeEnd at h
  refine lv_aload_n hx hb dX2_takeEnd_0 rfl (lv_at hl 0 rfl) ?_
  refine va_get (ci := 2) (v := .int it_fault) (C := RX2) (T := TX2) (N := 7) hx hb hts hiX2 hown hK hP 0 rfl rfl 5 (by decide) fl40 (fun _ h9 => h9) rfl dX2_takeEnd_1 ?_
  refine lv_if_eq (tgt := 8) hx hb dX2_takeEnd_4 (by decide) (fun c1 => ?_) (fun c1 => ?_)
  · replace h := if_t c1 h
    refine lv_aload_n hx hb dX2_takeEnd_8 rfl (lv_at hl 0 rfl) ?_
    replace h := bd_el h
    obtain ⟨g2, hc3, h⟩ := h
    refine callVV (rest := []) ⟨hx, hb, hml, hown, hts⟩ (ctX2_skipBlanks l D cI cZ cB cS kK kV _ qt qt_text qt_plan qt_start qt_text_bytes it_at it_tokenAt it_fault it_faultAt it_text_length ft_text_bytes N g2 hc3) (cwV 0 hts gX2_takeEnd_X2_skipBlanks rfl rfl rfl hdX2_skipBlanks ⟨Nat.le_of_ble_eq_true rfl, Nat.le_of_ble_eq_true rfl⟩) hK hN hX hP (dF hD rfl) hS hA [0, 1, 2] (mcC rfl (mcC rfl (mcC rfl mcN))) (by decide +kernel) [(qt, .inr (2, [.ref qt_text, .ref qt_plan, .ref qt_start, .int g2, .int it_tokenAt, .int it_fault, .int it_faultAt])), (qt_text, .inr (5, [.ref qt_text_bytes, .int it_text_length])), (qt_text_bytes, .inl (cB, 400, .inl ft_text_bytes))] [] (mcC rfl (mcC rfl (mcC rfl mcN))) (mcN.trans mcN.symm) 3 rfl (by decide +kernel) (va_recv hK hP (ci := 2) (q0 := 0) rfl rfl) rfl hl.1 rfl (Nat.le_of_ble_eq_true rfl) ⟨Nat.zero_le _, Nat.zero_le _⟩ dX2_takeEnd_9 (fun H locs hP hS => ?_)
    refine lv_aload_n hx hb dX2_takeEnd_12 rfl (lv_at hl 0 rfl) ?_
    refine va_get (ci := 2) (v := .ref qt_text) (C := RX2) (T := TX2) (N := 7) hx hb hts hiX2 hown hK hP 0 rfl rfl 0 (by decide) fl29 (fun _ h9 => h9) rfl dX2_takeEnd_13 ?_
    refine lv_aload_n hx hb dX2_takeEnd_16 rfl (lv_at hl 0 rfl) ?_
    refine va_get (ci := 2) (v := .int g2) (C := RX2) (T := TX2) (N := 7) hx hb hts hiX2 hown hK hP 0 rfl rfl 3 (by decide) fl37 (fun _ h9 => h9) rfl dX2_takeEnd_17 ?_
    replace h := bd_el h
    obtain ⟨r4, hc5, h⟩ := h
    refine callVI (rest := []) ⟨hx, hb, hml, hown, hts⟩ (ctX5_byteAt l D cI cZ cB cS kK kV _ qt_text qt_text_bytes it_text_length ft_text_bytes g2 N r4 hc5) (cwV 1 hts gX2_takeEnd_X5_byteAt rfl rfl rfl hdX5_byteAt ⟨Nat.le_of_ble_eq_true rfl, Nat.le_of_ble_eq_true rfl⟩) hK hN hX hP (dF hD rfl) hS hA [1, 2] (mcC rfl (mcC rfl mcN)) (by decide +kernel) [(qt, .inr (2, [.ref qt_text, .ref qt_plan, .ref qt_start, .int g2, .int it_tokenAt, .int it_fault, .int it_faultAt])), (qt_text, .inr (5, [.ref qt_text_bytes, .int it_text_length])), (qt_text_bytes, .inl (cB, 400, .inl ft_text_bytes))] [0] (mcC rfl (mcC rfl mcN)) ((mcC rfl mcN).trans (mcC rfl mcN).symm) 3 rfl (by decide +kernel) (va_recv hK hP (ci := 5) (q0 := 1) rfl rfl) rfl hl.1 rfl (Nat.le_of_ble_eq_true rfl) ⟨Nat.zero_le _, Nat.zero_le _⟩ dX2_takeEnd_20 (fun H locs hP hS => ?_)
    refine lv_bipush (v := 59) hx hb dX2_takeEnd_23 (by decide) ?_
    refine lv_icmp_eq (tgt := 37) hx hb dX2_takeEnd_25 (by decide) (fun c6 => ?_) (fun c6 => ?_)
    · replace h := if_t c6 h
      refine lv_aload_n hx hb dX2_takeEnd_37 rfl (lv_at hl 0 rfl) ?_
      refine lv_dup hx hb dX2_takeEnd_38 rfl ?_
      refine va_get (ci := 2) (v := .int g2) (C := RX2) (T := TX2) (N := 7) hx hb hts hiX2 hown hK hP 0 rfl rfl 3 (by decide) fl37 (fun _ h9 => h9) rfl dX2_takeEnd_39 ?_
      refine lv_iconst (v := 1) hx hb dX2_takeEnd_42 (by decide) ?_
      refine lv_iadd hx hb dX2_takeEnd_43 ?_
      refine lv_topi (fun n7 en7 => ?_)
      replace h := lt_at en7 h
      refine va_put (ci := 2) (v := .int n7) (ty := .int) (C := RX2) (T := TX2) (N := 7) hx hb hts hiX2 tyX2 tyX2_ok nmX2 hown hK hP (dF hD rfl) hS 0 rfl rfl 3 (by decide) fl37 (fun _ h9 => h9) rfl (by decide +kernel) rfl rfl (Nat.le_of_ble_eq_true rfl) dX2_takeEnd_44 (fun H locs hP _ hS => ?_)
      replace hP : va_P D vwCl [(qt, .inr (2, [.ref qt_text, .ref qt_plan, .ref qt_start, .int n7, .int it_tokenAt, .int it_fault, .int it_faultAt])), (qt_text, .inr (5, [.ref qt_text_bytes, .int it_text_length])), (qt_text_bytes, .inl (cB, 400, .inl ft_text_bytes))] H := hP
      simp only [Option.some.injEq, Prod.mk.injEq] at h
      obtain ⟨rfl, rfl, rfl⟩ := h
      exact hret _ _ _ _ hP hS dX2_takeEnd_47
    · replace h := if_f c6 h
      refine lv_aload_n hx hb dX2_takeEnd_28 rfl (lv_at hl 0 rfl) ?_
      refine lv_iconst (v := 1) hx hb dX2_takeEnd_29 (by decide) ?_
      refine lv_aload_n hx hb dX2_takeEnd_30 rfl (lv_at hl 0 rfl) ?_
      refine va_get (ci := 2) (v := .int g2) (C := RX2) (T := TX2) (N := 7) hx hb hts hiX2 hown hK hP 0 rfl rfl 3 (by decide) fl37 (fun _ h9 => h9) rfl dX2_takeEnd_31 ?_
      replace h := bd_el h
      obtain ⟨⟨g8, g9⟩, hc10, h⟩ := h
      refine callVV (rest := []) ⟨hx, hb, hml, hown, hts⟩ (ctX2_fail l D cI cZ cB cS kK kV _ qt qt_text qt_plan qt_start g2 it_tokenAt it_fault it_faultAt 1 g2 N g8 g9 hc10) (cwV 2 hts gX2_takeEnd_X2_fail rfl rfl rfl hdX2_fail ⟨Nat.le_of_ble_eq_true rfl, Nat.le_of_ble_eq_true rfl⟩) hK hN hX hP (dF hD rfl) hS hA [0] (mcC rfl mcN) (by decide +kernel) [(qt, .inr (2, [.ref qt_text, .ref qt_plan, .ref qt_start, .int g2, .int it_tokenAt, .int g8, .int g9])), (qt_text, .inr (5, [.ref qt_text_bytes, .int it_text_length])), (qt_text_bytes, .inl (cB, 400, .inl ft_text_bytes))] [1, 2] (mcC rfl mcN) ((mcC rfl (mcC rfl mcN)).trans (mcC rfl (mcC rfl mcN)).symm) 3 rfl (by decide +kernel) (va_recv hK hP (ci := 2) (q0 := 0) rfl rfl) rfl hl.1 rfl (Nat.le_of_ble_eq_true rfl) ⟨Nat.zero_le _, Nat.zero_le _⟩ dX2_takeEnd_34 (fun H locs hP hS => ?_)
      refine lv_aload_n hx hb dX2_takeEnd_37 rfl (lv_at hl 0 rfl) ?_
      refine lv_dup hx hb dX2_takeEnd_38 rfl ?_
      refine va_get (ci := 2) (v := .int g2) (C := RX2) (T := TX2) (N := 7) hx hb hts hiX2 hown hK hP 0 rfl rfl 3 (by decide) fl37 (fun _ h9 => h9) rfl dX2_takeEnd_39 ?_
      refine lv_iconst (v := 1) hx hb dX2_takeEnd_42 (by decide) ?_
      refine lv_iadd hx hb dX2_takeEnd_43 ?_
      refine lv_topi (fun n11 en11 => ?_)
      replace h := lt_at en11 h
      refine va_put (ci := 2) (v := .int n11) (ty := .int) (C := RX2) (T := TX2) (N := 7) hx hb hts hiX2 tyX2 tyX2_ok nmX2 hown hK hP (dF hD rfl) hS 0 rfl rfl 3 (by decide) fl37 (fun _ h9 => h9) rfl (by decide +kernel) rfl rfl (Nat.le_of_ble_eq_true rfl) dX2_takeEnd_44 (fun H locs hP _ hS => ?_)
      replace hP : va_P D vwCl [(qt, .inr (2, [.ref qt_text, .ref qt_plan, .ref qt_start, .int n11, .int it_tokenAt, .int g8, .int g9])), (qt_text, .inr (5, [.ref qt_text_bytes, .int it_text_length])), (qt_text_bytes, .inl (cB, 400, .inl ft_text_bytes))] H := hP
      simp only [Option.some.injEq, Prod.mk.injEq] at h
      obtain ⟨rfl, rfl, rfl⟩ := h
      exact hret _ _ _ _ hP hS dX2_takeEnd_47
  · replace h := if_f c1 h
    simp only [Option.some.injEq, Prod.mk.injEq] at h
    obtain ⟨rfl, rfl, rfl⟩ := h
    exact hret _ _ _ _ hP hS dX2_takeEnd_7
theorem hdX2_takeEnd : yX2_takeEnd.cls = RX2 ∧ yX2_takeEnd.cls ≠ "java/lang/invoke/MethodHandle" ∧ yX2_takeEnd.cls ≠ "java/lang/invoke/VarHandle" ∧ (parseMethodDescriptor yX2_takeEnd.desc).map (fun d => d.parameters.length) = some 0 := by decide +kernel

noncomputable def fX2_readCoin (N : Nat) (it_at : Int32) (it_tokenAt : Int32) (it_fault : Int32) (it_faultAt : Int32) (it_plan_kinds : Int32) (it_text_length : Int32) (ft_text_bytes : Nat → Int32) (ft_start_tube : Nat → Int32) (ft_plan_value : Nat → Int32) (ft_plan_paidBy : Nat → Int32) (ft_plan_weight : Nat → Int32) : Option (Int32 × Int32 × Int32 × Int32 × Int32 × (Nat → Int32) × (Nat → Int32) × (Nat → Int32) × (Nat → Int32)) := bd (fX2_refuseSixth N it_tokenAt it_fault it_faultAt it_plan_kinds 5) fun (g1, g2) => bd (fX2_takeNumber N it_at it_tokenAt g1 g2 it_text_length ft_text_bytes 1 99) fun (r4, g5, g6, g7, g8) => bd (fX2_takeNumber N g5 g6 g7 g8 it_text_length ft_text_bytes 10 99) fun (r10, g11, g12, g13, g14) => bd (fX2_takeNumber N g11 g12 g13 g14 it_text_length ft_text_bytes 0 60) fun (r16, g17, g18, g19, g20) => bd (fX2_takeEnd N g17 g19 g20 it_text_length ft_text_bytes) fun (g22, g23, g24) => (if g23 = 0 then (if 5 ≤ it_plan_kinds then some (g22, g18, g23, g24, it_plan_kinds, ft_start_tube, ft_plan_value, ft_plan_paidBy, ft_plan_weight) else ck it_plan_kinds 5 (bd (fX1_addKind N it_plan_kinds ft_plan_value ft_plan_paidBy ft_plan_weight r4 r10) fun (g29, g30, g31, g32) => some (g22, g18, g23, g24, g29, upd ft_start_tube (Int32.toNatClampNeg it_plan_kinds) r16, g30, g31, g32))) else some (g22, g18, g23, g24, it_plan_kinds, ft_start_tube, ft_plan_value, ft_plan_paidBy, ft_plan_weight))
set_option maxHeartbeats 4000000 in
set_option maxRecDepth 100000 in
theorem ctX2_readCoin (l : Launch) (D : va_G) (cI cZ cB cS : ClassId) (kK kV : Nat → Nat) (sz : Nat) (qt qt_text qt_plan qt_start qt_plan_value qt_plan_weight qt_plan_slugWeight qt_plan_rhythm qt_plan_rhythmLength qt_plan_paidBy qt_text_bytes qt_start_tube qt_start_goods qt_start_stick qt_start_kicks qt_start_kickCount qt_start_low qt_start_high qt_start_price qt_start_wired : Nat) (it_at : Int32) (it_tokenAt : Int32) (it_fault : Int32) (it_faultAt : Int32) (it_plan_kinds : Int32) (it_plan_columns : Int32) (it_plan_slugs : Int32) (it_text_length : Int32) (ft_text_bytes : Nat → Int32) (it_start_lost : Int32) (it_start_stamps : Int32) (it_start_sales : Int32) (it_start_damp : Int32) (it_start_worn : Int32) (it_start_seed : Int32) (ft_start_tube : Nat → Int32) (ft_plan_value : Nat → Int32) (ft_plan_paidBy : Nat → Int32) (ft_plan_weight : Nat → Int32)  (N : Nat) (w_it_at : Int32) (w_it_tokenAt : Int32) (w_it_fault : Int32) (w_it_faultAt : Int32) (w_it_plan_kinds : Int32) (w_ft_start_tube : Nat → Int32) (w_ft_plan_value : Nat → Int32) (w_ft_plan_paidBy : Nat → Int32) (w_ft_plan_weight : Nat → Int32) (h : fX2_readCoin N it_at it_tokenAt it_fault it_faultAt it_plan_kinds it_text_length ft_text_bytes ft_start_tube ft_plan_value ft_plan_paidBy ft_plan_weight = some (w_it_at, w_it_tokenAt, w_it_fault, w_it_faultAt, w_it_plan_kinds, w_ft_start_tube, w_ft_plan_value, w_ft_plan_paidBy, w_ft_plan_weight)) : CtV l yX2_readCoin wsX2_readCoin { frames := 3, cells := 0, slots := 0, locals := 65 } D (TY cI cZ cB cS) kK kV [.ref qt] [(qt, .inr (2, [.ref qt_text, .ref qt_plan, .ref qt_start, .int it_at, .int it_tokenAt, .int it_fault, .int it_faultAt])), (qt_plan, .inr (1, [.ref qt_plan_value, .ref qt_plan_weight, .ref qt_plan_slugWeight, .ref qt_plan_rhythm, .ref qt_plan_rhythmLength, .ref qt_plan_paidBy, .int it_plan_kinds, .int it_plan_columns, .int it_plan_slugs])), (qt_text, .inr (5, [.ref qt_text_bytes, .int it_text_length])), (qt_text_bytes, .inl (cB, 400, .inl ft_text_bytes)), (qt_start, .inr (4, [.ref qt_start_tube, .ref qt_start_goods, .ref qt_start_stick, .ref qt_start_kicks, .ref qt_start_kickCount, .ref qt_start_low, .ref qt_start_high, .ref qt_start_price, .ref qt_start_wired, .int it_start_lost, .int it_start_stamps, .int it_start_sales, .int it_start_damp, .int it_start_worn, .int it_start_seed])), (qt_start_tube, .inl (cI, 5, .inl ft_start_tube)), (qt_plan_value, .inl (cI, 5, .inl ft_plan_value)), (qt_plan_paidBy, .inl (cI, 5, .inl ft_plan_paidBy)), (qt_plan_weight, .inl (cI, 5, .inl ft_plan_weight))] [(qt, .inr (2, [.ref qt_text, .ref qt_plan, .ref qt_start, .int w_it_at, .int w_it_tokenAt, .int w_it_fault, .int w_it_faultAt])), (qt_plan, .inr (1, [.ref qt_plan_value, .ref qt_plan_weight, .ref qt_plan_slugWeight, .ref qt_plan_rhythm, .ref qt_plan_rhythmLength, .ref qt_plan_paidBy, .int w_it_plan_kinds, .int it_plan_columns, .int it_plan_slugs])), (qt_text, .inr (5, [.ref qt_text_bytes, .int it_text_length])), (qt_text_bytes, .inl (cB, 400, .inl ft_text_bytes)), (qt_start, .inr (4, [.ref qt_start_tube, .ref qt_start_goods, .ref qt_start_stick, .ref qt_start_kicks, .ref qt_start_kickCount, .ref qt_start_low, .ref qt_start_high, .ref qt_start_price, .ref qt_start_wired, .int it_start_lost, .int it_start_stamps, .int it_start_sales, .int it_start_damp, .int it_start_worn, .int it_start_seed])), (qt_start_tube, .inl (cI, 5, .inl w_ft_start_tube)), (qt_plan_value, .inl (cI, 5, .inl w_ft_plan_value)), (qt_plan_paidBy, .inl (cI, 5, .inl w_ft_plan_paidBy)), (qt_plan_weight, .inl (cI, 5, .inl w_ft_plan_weight))] sz := by
  refine mkV (cc := cX2_readCoin) (maxL := 4) (own := RX2) (by decide) rfl rfl (Nat.le_of_ble_eq_true rfl) ?_
  intro p e s m args below meth c A Z ls hx hb hml hown hts hK hN hX hP hD hA hS hret hl
  have hl : lv_has ls 4 [(0, .ref qt)] := hl
  have fl12 : (Cond.fieldLink RX2 12 "SoupWall$Reader" "plan" "LSoupWall$Plan;").before args s = true := hts _ (List.mem_of_getElem? (l := wsX2_readCoin) (i := 1) rfl)
  have hiX2 : ∀ w ∈ wsX20, w ∈ wsX2_readCoin := fun w h => List.mem_cons_of_mem _ (List.mem_append_left _ (List.mem_append_left _ (List.mem_append_left _ (List.mem_append_right _ h))))
  have fl91 : (Cond.fieldLinkNest "SoupWall$Reader" 91 "SoupWall$Plan" "kinds" "I" "SoupWall").before args s = true := hN.f 4 rfl
  have hiX1 : ∀ w ∈ wsX10, w ∈ wsX2_readCoin := fun w h => List.mem_cons_of_mem _ (List.mem_append_left _ (List.mem_append_left _ (List.mem_append_right _ h)))
  have fl40 : (Cond.fieldLink RX2 40 "SoupWall$Reader" "fault" "I").before args s = true := hts _ (List.mem_of_getElem? (l := wsX2_readCoin) (i := 2) rfl)
  have fl21 : (Cond.fieldLink RX2 21 "SoupWall$Reader" "start" "LSoupWall$State;").before args s = true := hts _ (List.mem_of_getElem? (l := wsX2_readCoin) (i := 3) rfl)
  have fl104 : (Cond.fieldLinkNest "SoupWall$Reader" 104 "SoupWall$State" "tube" "[I" "SoupWall").before args s = true := hN.f 10 rfl
  have hiX4 : ∀ w ∈ wsX40, w ∈ wsX2_readCoin := fun w h => List.mem_cons_of_mem _ (List.mem_append_left _ (List.mem_append_right _ h))
  unfold fX2_readCoin at h
  refine lv_aload_n hx hb dX2_readCoin_0 rfl (lv_at hl 0 rfl) ?_
  refine lv_aload_n hx hb dX2_readCoin_1 rfl (lv_at hl 0 rfl) ?_
  refine va_get (ci := 2) (v := .ref qt_plan) (C := RX2) (T := TX2) (N := 7) hx hb hts hiX2 hown hK hP 0 rfl rfl 1 (by decide) fl12 (fun _ h9 => h9) rfl dX2_readCoin_2 ?_
  refine va_getN (ci := 1) (v := .int it_plan_kinds) (C := RX1) (T := TX1) (N := 9) hx hb hts hiX1 hown hK hP 1 rfl rfl 6 (by decide) fl91 (fun _ h9 => h9) rfl dX2_readCoin_5 ?_
  refine lv_iconst (v := 5) hx hb dX2_readCoin_8 (by decide) ?_
  replace h := bd_el h
  obtain ⟨⟨g1, g2⟩, hc3, h⟩ := h
  refine callVV (rest := []) ⟨hx, hb, hml, hown, hts⟩ (ctX2_refuseSixth l D cI cZ cB cS kK kV _ qt qt_text qt_plan qt_start it_at it_tokenAt it_fault it_faultAt it_plan_kinds 5 N g1 g2 hc3) (cwV 2 hts gX2_readCoin_X2_refuseSixth rfl rfl rfl hdX2_refuseSixth ⟨Nat.le_of_ble_eq_true rfl, Nat.le_of_ble_eq_true rfl⟩) hK hN hX hP (dF hD rfl) hS hA [0] (mcC rfl mcN) (by decide +kernel) [(qt, .inr (2, [.ref qt_text, .ref qt_plan, .ref qt_start, .int it_at, .int it_tokenAt, .int g1, .int g2])), (qt_plan, .inr (1, [.ref qt_plan_value, .ref qt_plan_weight, .ref qt_plan_slugWeight, .ref qt_plan_rhythm, .ref qt_plan_rhythmLength, .ref qt_plan_paidBy, .int it_plan_kinds, .int it_plan_columns, .int it_plan_slugs])), (qt_text, .inr (5, [.ref qt_text_bytes, .int it_text_length])), (qt_text_bytes, .inl (cB, 400, .inl ft_text_bytes)), (qt_start, .inr (4, [.ref qt_start_tube, .ref qt_start_goods, .ref qt_start_stick, .ref qt_start_kicks, .ref qt_start_kickCount, .ref qt_start_low, .ref qt_start_high, .ref qt_start_price, .ref qt_start_wired, .int it_start_lost, .int it_start_stamps, .int it_start_sales, .int it_start_damp, .int it_start_worn, .int it_start_seed])), (qt_start_tube, .inl (cI, 5, .inl ft_start_tube)), (qt_plan_value, .inl (cI, 5, .inl ft_plan_value)), (qt_plan_paidBy, .inl (cI, 5, .inl ft_plan_paidBy)), (qt_plan_weight, .inl (cI, 5, .inl ft_plan_weight))] [1, 2, 3, 4, 5, 6, 7, 8] (mcC rfl mcN) ((mcC rfl (mcC rfl (mcC rfl (mcC rfl (mcC rfl (mcC rfl (mcC rfl (mcC rfl mcN)))))))).trans (mcC rfl (mcC rfl (mcC rfl (mcC rfl (mcC rfl (mcC rfl (mcC rfl (mcC rfl mcN)))))))).symm) 9 rfl (by decide +kernel) (va_recv hK hP (ci := 2) (q0 := 0) rfl rfl) rfl hl.1 rfl (Nat.le_of_ble_eq_true rfl) ⟨Nat.zero_le _, Nat.zero_le _⟩ dX2_readCoin_9 (fun H locs hP hS => ?_)
  refine lv_aload_n hx hb dX2_readCoin_12 rfl (lv_at hl 0 rfl) ?_
  refine lv_iconst (v := 1) hx hb dX2_readCoin_13 (by decide) ?_
  refine lv_bipush (v := 99) hx hb dX2_readCoin_14 (by decide) ?_
  replace h := bd_el h
  obtain ⟨⟨r4, g5, g6, g7, g8⟩, hc9, h⟩ := h
  refine callVI (rest := []) ⟨hx, hb, hml, hown, hts⟩ (ctX2_takeNumber l D cI cZ cB cS kK kV _ qt qt_text qt_plan qt_start qt_text_bytes it_at it_tokenAt g1 g2 it_text_length ft_text_bytes 1 99 N r4 g5 g6 g7 g8 hc9) (cwV 2 hts gX2_readCoin_X2_takeNumber rfl rfl rfl hdX2_takeNumber ⟨Nat.le_of_ble_eq_true rfl, Nat.le_of_ble_eq_true rfl⟩) hK hN hX hP (dF hD rfl) hS hA [0, 2, 3] (mcC rfl (mcC rfl (mcC rfl mcN))) (by decide +kernel) [(qt, .inr (2, [.ref qt_text, .ref qt_plan, .ref qt_start, .int g5, .int g6, .int g7, .int g8])), (qt_plan, .inr (1, [.ref qt_plan_value, .ref qt_plan_weight, .ref qt_plan_slugWeight, .ref qt_plan_rhythm, .ref qt_plan_rhythmLength, .ref qt_plan_paidBy, .int it_plan_kinds, .int it_plan_columns, .int it_plan_slugs])), (qt_text, .inr (5, [.ref qt_text_bytes, .int it_text_length])), (qt_text_bytes, .inl (cB, 400, .inl ft_text_bytes)), (qt_start, .inr (4, [.ref qt_start_tube, .ref qt_start_goods, .ref qt_start_stick, .ref qt_start_kicks, .ref qt_start_kickCount, .ref qt_start_low, .ref qt_start_high, .ref qt_start_price, .ref qt_start_wired, .int it_start_lost, .int it_start_stamps, .int it_start_sales, .int it_start_damp, .int it_start_worn, .int it_start_seed])), (qt_start_tube, .inl (cI, 5, .inl ft_start_tube)), (qt_plan_value, .inl (cI, 5, .inl ft_plan_value)), (qt_plan_paidBy, .inl (cI, 5, .inl ft_plan_paidBy)), (qt_plan_weight, .inl (cI, 5, .inl ft_plan_weight))] [1, 4, 5, 6, 7, 8] (mcC rfl (mcC rfl (mcC rfl mcN))) ((mcC rfl (mcC rfl (mcC rfl (mcC rfl (mcC rfl (mcC rfl mcN)))))).trans (mcC rfl (mcC rfl (mcC rfl (mcC rfl (mcC rfl (mcC rfl mcN)))))).symm) 9 rfl (by decide +kernel) (va_recv hK hP (ci := 2) (q0 := 0) rfl rfl) rfl hl.1 rfl (Nat.le_of_ble_eq_true rfl) ⟨Nat.zero_le _, Nat.zero_le _⟩ dX2_readCoin_16 (fun H locs hP hS => ?_)
  refine lv_istore_n (lv' := [(1, .int r4), (0, .ref qt)]) hx hb dX2_readCoin_19 rfl hl (by decide) rfl (fun ls hl => ?_)
  refine lv_aload_n hx hb dX2_readCoin_20 rfl (lv_at hl 1 rfl) ?_
  refine lv_bipush (v := 10) hx hb dX2_readCoin_21 (by decide) ?_
  refine lv_bipush (v := 99) hx hb dX2_readCoin_23 (by decide) ?_
  replace h := bd_el h
  obtain ⟨⟨r10, g11, g12, g13, g14⟩, hc15, h⟩ := h
  refine callVI (rest := []) ⟨hx, hb, hml, hown, hts⟩ (ctX2_takeNumber l D cI cZ cB cS kK kV _ qt qt_text qt_plan qt_start qt_text_bytes g5 g6 g7 g8 it_text_length ft_text_bytes 10 99 N r10 g11 g12 g13 g14 hc15) (cwV 2 hts gX2_readCoin_X2_takeNumber rfl rfl rfl hdX2_takeNumber ⟨Nat.le_of_ble_eq_true rfl, Nat.le_of_ble_eq_true rfl⟩) hK hN hX hP (dF hD rfl) hS hA [0, 2, 3] (mcC rfl (mcC rfl (mcC rfl mcN))) (by decide +kernel) [(qt, .inr (2, [.ref qt_text, .ref qt_plan, .ref qt_start, .int g11, .int g12, .int g13, .int g14])), (qt_plan, .inr (1, [.ref qt_plan_value, .ref qt_plan_weight, .ref qt_plan_slugWeight, .ref qt_plan_rhythm, .ref qt_plan_rhythmLength, .ref qt_plan_paidBy, .int it_plan_kinds, .int it_plan_columns, .int it_plan_slugs])), (qt_text, .inr (5, [.ref qt_text_bytes, .int it_text_length])), (qt_text_bytes, .inl (cB, 400, .inl ft_text_bytes)), (qt_start, .inr (4, [.ref qt_start_tube, .ref qt_start_goods, .ref qt_start_stick, .ref qt_start_kicks, .ref qt_start_kickCount, .ref qt_start_low, .ref qt_start_high, .ref qt_start_price, .ref qt_start_wired, .int it_start_lost, .int it_start_stamps, .int it_start_sales, .int it_start_damp, .int it_start_worn, .int it_start_seed])), (qt_start_tube, .inl (cI, 5, .inl ft_start_tube)), (qt_plan_value, .inl (cI, 5, .inl ft_plan_value)), (qt_plan_paidBy, .inl (cI, 5, .inl ft_plan_paidBy)), (qt_plan_weight, .inl (cI, 5, .inl ft_plan_weight))] [1, 4, 5, 6, 7, 8] (mcC rfl (mcC rfl (mcC rfl mcN))) ((mcC rfl (mcC rfl (mcC rfl (mcC rfl (mcC rfl (mcC rfl mcN)))))).trans (mcC rfl (mcC rfl (mcC rfl (mcC rfl (mcC rfl (mcC rfl mcN)))))).symm) 9 rfl (by decide +kernel) (va_recv hK hP (ci := 2) (q0 := 0) rfl rfl) rfl hl.1 rfl (Nat.le_of_ble_eq_true rfl) ⟨Nat.zero_le _, Nat.zero_le _⟩ dX2_readCoin_25 (fun H locs hP hS => ?_)
  refine lv_istore_n (lv' := [(2, .int r10), (1, .int r4), (0, .ref qt)]) hx hb dX2_readCoin_28 rfl hl (by decide) rfl (fun ls hl => ?_)
  refine lv_aload_n hx hb dX2_readCoin_29 rfl (lv_at hl 2 rfl) ?_
  refine lv_iconst (v := 0) hx hb dX2_readCoin_30 (by decide) ?_
  refine lv_bipush (v := 60) hx hb dX2_readCoin_31 (by decide) ?_
  replace h := bd_el h
  obtain ⟨⟨r16, g17, g18, g19, g20⟩, hc21, h⟩ := h
  refine callVI (rest := []) ⟨hx, hb, hml, hown, hts⟩ (ctX2_takeNumber l D cI cZ cB cS kK kV _ qt qt_text qt_plan qt_start qt_text_bytes g11 g12 g13 g14 it_text_length ft_text_bytes 0 60 N r16 g17 g18 g19 g20 hc21) (cwV 2 hts gX2_readCoin_X2_takeNumber rfl rfl rfl hdX2_takeNumber ⟨Nat.le_of_ble_eq_true rfl, Nat.le_of_ble_eq_true rfl⟩) hK hN hX hP (dF hD rfl) hS hA [0, 2, 3] (mcC rfl (mcC rfl (mcC rfl mcN))) (by decide +kernel) [(qt, .inr (2, [.ref qt_text, .ref qt_plan, .ref qt_start, .int g17, .int g18, .int g19, .int g20])), (qt_plan, .inr (1, [.ref qt_plan_value, .ref qt_plan_weight, .ref qt_plan_slugWeight, .ref qt_plan_rhythm, .ref qt_plan_rhythmLength, .ref qt_plan_paidBy, .int it_plan_kinds, .int it_plan_columns, .int it_plan_slugs])), (qt_text, .inr (5, [.ref qt_text_bytes, .int it_text_length])), (qt_text_bytes, .inl (cB, 400, .inl ft_text_bytes)), (qt_start, .inr (4, [.ref qt_start_tube, .ref qt_start_goods, .ref qt_start_stick, .ref qt_start_kicks, .ref qt_start_kickCount, .ref qt_start_low, .ref qt_start_high, .ref qt_start_price, .ref qt_start_wired, .int it_start_lost, .int it_start_stamps, .int it_start_sales, .int it_start_damp, .int it_start_worn, .int it_start_seed])), (qt_start_tube, .inl (cI, 5, .inl ft_start_tube)), (qt_plan_value, .inl (cI, 5, .inl ft_plan_value)), (qt_plan_paidBy, .inl (cI, 5, .inl ft_plan_paidBy)), (qt_plan_weight, .inl (cI, 5, .inl ft_plan_weight))] [1, 4, 5, 6, 7, 8] (mcC rfl (mcC rfl (mcC rfl mcN))) ((mcC rfl (mcC rfl (mcC rfl (mcC rfl (mcC rfl (mcC rfl mcN)))))).trans (mcC rfl (mcC rfl (mcC rfl (mcC rfl (mcC rfl (mcC rfl mcN)))))).symm) 9 rfl (by decide +kernel) (va_recv hK hP (ci := 2) (q0 := 0) rfl rfl) rfl hl.1 rfl (Nat.le_of_ble_eq_true rfl) ⟨Nat.zero_le _, Nat.zero_le _⟩ dX2_readCoin_33 (fun H locs hP hS => ?_)
  refine lv_istore_n (lv' := [(3, .int r16), (2, .int r10), (1, .int r4), (0, .ref qt)]) hx hb dX2_readCoin_36 rfl hl (by decide) rfl (fun ls hl => ?_)
  refine lv_aload_n hx hb dX2_readCoin_37 rfl (lv_at hl 3 rfl) ?_
  replace h := bd_el h
  obtain ⟨⟨g22, g23, g24⟩, hc25, h⟩ := h
  refine callVV (rest := []) ⟨hx, hb, hml, hown, hts⟩ (ctX2_takeEnd l D cI cZ cB cS kK kV _ qt qt_text qt_plan qt_start qt_text_bytes g17 g18 g19 g20 it_text_length ft_text_bytes N g22 g23 g24 hc25) (cwV 0 hts gX2_readCoin_X2_takeEnd rfl rfl rfl hdX2_takeEnd ⟨Nat.le_of_ble_eq_true rfl, Nat.le_of_ble_eq_true rfl⟩) hK hN hX hP (dF hD rfl) hS hA [0, 2, 3] (mcC rfl (mcC rfl (mcC rfl mcN))) (by decide +kernel) [(qt, .inr (2, [.ref qt_text, .ref qt_plan, .ref qt_start, .int g22, .int g18, .int g23, .int g24])), (qt_plan, .inr (1, [.ref qt_plan_value, .ref qt_plan_weight, .ref qt_plan_slugWeight, .ref qt_plan_rhythm, .ref qt_plan_rhythmLength, .ref qt_plan_paidBy, .int it_plan_kinds, .int it_plan_columns, .int it_plan_slugs])), (qt_text, .inr (5, [.ref qt_text_bytes, .int it_text_length])), (qt_text_bytes, .inl (cB, 400, .inl ft_text_bytes)), (qt_start, .inr (4, [.ref qt_start_tube, .ref qt_start_goods, .ref qt_start_stick, .ref qt_start_kicks, .ref qt_start_kickCount, .ref qt_start_low, .ref qt_start_high, .ref qt_start_price, .ref qt_start_wired, .int it_start_lost, .int it_start_stamps, .int it_start_sales, .int it_start_damp, .int it_start_worn, .int it_start_seed])), (qt_start_tube, .inl (cI, 5, .inl ft_start_tube)), (qt_plan_value, .inl (cI, 5, .inl ft_plan_value)), (qt_plan_paidBy, .inl (cI, 5, .inl ft_plan_paidBy)), (qt_plan_weight, .inl (cI, 5, .inl ft_plan_weight))] [1, 4, 5, 6, 7, 8] (mcC rfl (mcC rfl (mcC rfl mcN))) ((mcC rfl (mcC rfl (mcC rfl (mcC rfl (mcC rfl (mcC rfl mcN)))))).trans (mcC rfl (mcC rfl (mcC rfl (mcC rfl (mcC rfl (mcC rfl mcN)))))).symm) 9 rfl (by decide +kernel) (va_recv hK hP (ci := 2) (q0 := 0) rfl rfl) rfl hl.1 rfl (Nat.le_of_ble_eq_true rfl) ⟨Nat.zero_le _, Nat.zero_le _⟩ dX2_readCoin_38 (fun H locs hP hS => ?_)
  refine lv_aload_n hx hb dX2_readCoin_41 rfl (lv_at hl 3 rfl) ?_
  refine va_get (ci := 2) (v := .int g23) (C := RX2) (T := TX2) (N := 7) hx hb hts hiX2 hown hK hP 0 rfl rfl 5 (by decide) fl40 (fun _ h9 => h9) rfl dX2_readCoin_42 ?_
  refine lv_if_ne (tgt := 84) hx hb dX2_readCoin_45 (by decide) (fun c26 => ?_) (fun c26 => ?_)
  · replace h := if_f c26 h
    simp only [Option.some.injEq, Prod.mk.injEq] at h
    obtain ⟨rfl, rfl, rfl, rfl, rfl, rfl, rfl, rfl, rfl⟩ := h
    exact hret _ _ _ _ hP hS dX2_readCoin_84
  · replace h := if_t c26 h
    refine lv_aload_n hx hb dX2_readCoin_48 rfl (lv_at hl 3 rfl) ?_
    refine va_get (ci := 2) (v := .ref qt_plan) (C := RX2) (T := TX2) (N := 7) hx hb hts hiX2 hown hK hP 0 rfl rfl 1 (by decide) fl12 (fun _ h9 => h9) rfl dX2_readCoin_49 ?_
    refine va_getN (ci := 1) (v := .int it_plan_kinds) (C := RX1) (T := TX1) (N := 9) hx hb hts hiX1 hown hK hP 1 rfl rfl 6 (by decide) fl91 (fun _ h9 => h9) rfl dX2_readCoin_52 ?_
    refine lv_iconst (v := 5) hx hb dX2_readCoin_55 (by decide) ?_
    refine lv_icmp_ge (tgt := 84) hx hb dX2_readCoin_56 (by decide) (fun c27 => ?_) (fun c27 => ?_)
    · replace h := if_t c27 h
      simp only [Option.some.injEq, Prod.mk.injEq] at h
      obtain ⟨rfl, rfl, rfl, rfl, rfl, rfl, rfl, rfl, rfl⟩ := h
      exact hret _ _ _ _ hP hS dX2_readCoin_84
    · replace h := if_f c27 h
      refine lv_aload_n hx hb dX2_readCoin_59 rfl (lv_at hl 3 rfl) ?_
      refine va_get (ci := 2) (v := .ref qt_start) (C := RX2) (T := TX2) (N := 7) hx hb hts hiX2 hown hK hP 0 rfl rfl 2 (by decide) fl21 (fun _ h9 => h9) rfl dX2_readCoin_60 ?_
      refine va_getN (ci := 4) (v := .ref qt_start_tube) (C := RX4) (T := TX4) (N := 15) hx hb hts hiX4 hown hK hP 4 rfl rfl 0 (by decide) fl104 (fun _ h9 => h9) rfl dX2_readCoin_63 ?_
      refine lv_aload_n hx hb dX2_readCoin_66 rfl (lv_at hl 3 rfl) ?_
      refine va_get (ci := 2) (v := .ref qt_plan) (C := RX2) (T := TX2) (N := 7) hx hb hts hiX2 hown hK hP 0 rfl rfl 1 (by decide) fl12 (fun _ h9 => h9) rfl dX2_readCoin_67 ?_
      refine va_getN (ci := 1) (v := .int it_plan_kinds) (C := RX1) (T := TX1) (N := 9) hx hb hts hiX1 hown hK hP 1 rfl rfl 6 (by decide) fl91 (fun _ h9 => h9) rfl dX2_readCoin_70 ?_
      refine lv_iload_n hx hb dX2_readCoin_73 rfl (lv_at hl 0 rfl) ?_
      replace h := ck_el h
      obtain ⟨hi28, h⟩ := h
      refine va_iast hx hb hK hP (dF hD rfl) hS 5 0 rfl rfl hi28 dX2_readCoin_74 (fun H locs hP _ hS => ?_)
      replace hP : va_P D vwCl [(qt, .inr (2, [.ref qt_text, .ref qt_plan, .ref qt_start, .int g22, .int g18, .int g23, .int g24])), (qt_plan, .inr (1, [.ref qt_plan_value, .ref qt_plan_weight, .ref qt_plan_slugWeight, .ref qt_plan_rhythm, .ref qt_plan_rhythmLength, .ref qt_plan_paidBy, .int it_plan_kinds, .int it_plan_columns, .int it_plan_slugs])), (qt_text, .inr (5, [.ref qt_text_bytes, .int it_text_length])), (qt_text_bytes, .inl (cB, 400, .inl ft_text_bytes)), (qt_start, .inr (4, [.ref qt_start_tube, .ref qt_start_goods, .ref qt_start_stick, .ref qt_start_kicks, .ref qt_start_kickCount, .ref qt_start_low, .ref qt_start_high, .ref qt_start_price, .ref qt_start_wired, .int it_start_lost, .int it_start_stamps, .int it_start_sales, .int it_start_damp, .int it_start_worn, .int it_start_seed])), (qt_start_tube, .inl (cI, 5, .inl (upd ft_start_tube (Int32.toNatClampNeg it_plan_kinds) r16))), (qt_plan_value, .inl (cI, 5, .inl ft_plan_value)), (qt_plan_paidBy, .inl (cI, 5, .inl ft_plan_paidBy)), (qt_plan_weight, .inl (cI, 5, .inl ft_plan_weight))] H := hP
      refine lv_aload_n hx hb dX2_readCoin_75 rfl (lv_at hl 3 rfl) ?_
      refine va_get (ci := 2) (v := .ref qt_plan) (C := RX2) (T := TX2) (N := 7) hx hb hts hiX2 hown hK hP 0 rfl rfl 1 (by decide) fl12 (fun _ h9 => h9) rfl dX2_readCoin_76 ?_
      refine lv_iload_n hx hb dX2_readCoin_79 rfl (lv_at hl 2 rfl) ?_
      refine lv_iload_n hx hb dX2_readCoin_80 rfl (lv_at hl 1 rfl) ?_
      replace h := bd_el h
      obtain ⟨⟨g29, g30, g31, g32⟩, hc33, h⟩ := h
      refine callVV (rest := []) ⟨hx, hb, hml, hown, hts⟩ (ctX1_addKind l D cI cZ cB cS kK kV _ qt_plan qt_plan_value qt_plan_weight qt_plan_slugWeight qt_plan_rhythm qt_plan_rhythmLength qt_plan_paidBy it_plan_kinds it_plan_columns it_plan_slugs ft_plan_value ft_plan_paidBy ft_plan_weight r4 r10 N g29 g30 g31 g32 hc33) (cwV 2 hts gX2_readCoin_X1_addKind rfl rfl rfl hdX1_addKind ⟨Nat.le_of_ble_eq_true rfl, Nat.le_of_ble_eq_true rfl⟩) hK hN hX hP (dF hD rfl) hS hA [1, 6, 7, 8] (mcC rfl (mcC rfl (mcC rfl (mcC rfl mcN)))) (by decide +kernel) [(qt, .inr (2, [.ref qt_text, .ref qt_plan, .ref qt_start, .int g22, .int g18, .int g23, .int g24])), (qt_plan, .inr (1, [.ref qt_plan_value, .ref qt_plan_weight, .ref qt_plan_slugWeight, .ref qt_plan_rhythm, .ref qt_plan_rhythmLength, .ref qt_plan_paidBy, .int g29, .int it_plan_columns, .int it_plan_slugs])), (qt_text, .inr (5, [.ref qt_text_bytes, .int it_text_length])), (qt_text_bytes, .inl (cB, 400, .inl ft_text_bytes)), (qt_start, .inr (4, [.ref qt_start_tube, .ref qt_start_goods, .ref qt_start_stick, .ref qt_start_kicks, .ref qt_start_kickCount, .ref qt_start_low, .ref qt_start_high, .ref qt_start_price, .ref qt_start_wired, .int it_start_lost, .int it_start_stamps, .int it_start_sales, .int it_start_damp, .int it_start_worn, .int it_start_seed])), (qt_start_tube, .inl (cI, 5, .inl (upd ft_start_tube (Int32.toNatClampNeg it_plan_kinds) r16))), (qt_plan_value, .inl (cI, 5, .inl g30)), (qt_plan_paidBy, .inl (cI, 5, .inl g31)), (qt_plan_weight, .inl (cI, 5, .inl g32))] [0, 2, 3, 4, 5] (mcC rfl (mcC rfl (mcC rfl (mcC rfl mcN)))) ((mcC rfl (mcC rfl (mcC rfl (mcC rfl (mcC rfl mcN))))).trans (mcC rfl (mcC rfl (mcC rfl (mcC rfl (mcC rfl mcN))))).symm) 9 rfl (by decide +kernel) (va_recv hK hP (ci := 1) (q0 := 1) rfl rfl) rfl hl.1 rfl (Nat.le_of_ble_eq_true rfl) ⟨Nat.zero_le _, Nat.zero_le _⟩ dX2_readCoin_81 (fun H locs hP hS => ?_)
      simp only [Option.some.injEq, Prod.mk.injEq] at h
      obtain ⟨rfl, rfl, rfl, rfl, rfl, rfl, rfl, rfl, rfl⟩ := h
      exact hret _ _ _ _ hP hS dX2_readCoin_84
theorem hdX2_readCoin : yX2_readCoin.cls = RX2 ∧ yX2_readCoin.cls ≠ "java/lang/invoke/MethodHandle" ∧ yX2_readCoin.cls ≠ "java/lang/invoke/VarHandle" ∧ (parseMethodDescriptor yX2_readCoin.desc).map (fun d => d.parameters.length) = some 0 := by decide +kernel

noncomputable def fX2_readColumn (N : Nat) (it_at : Int32) (it_tokenAt : Int32) (it_fault : Int32) (it_faultAt : Int32) (it_plan_columns : Int32) (it_text_length : Int32) (ft_text_bytes : Nat → Int32) (ft_start_price : Nat → Int32) (ft_start_low : Nat → Int32) (ft_start_high : Nat → Int32) (ft_start_goods : Nat → Int32) (ft_start_wired : Nat → Int32) (ft_start_stick : Nat → Int32) (ft_start_kicks : Nat → Int32) (ft_start_kickCount : Nat → Int32) : Option (Int32 × Int32 × Int32 × Int32 × Int32 × (Nat → Int32) × (Nat → Int32) × (Nat → Int32) × (Nat → Int32) × (Nat → Int32) × (Nat → Int32) × (Nat → Int32) × (Nat → Int32)) := bd (fX2_refuseSixth N it_tokenAt it_fault it_faultAt it_plan_columns 5) fun (g1, g2) => bd (fX2_takeNumber N it_at it_tokenAt g1 g2 it_text_length ft_text_bytes 1 99) fun (r4, g5, g6, g7, g8) => bd (fX2_takeNumber N g5 g6 g7 g8 it_text_length ft_text_bytes 1 99) fun (r10, g11, g12, g13, g14) => bd (fX2_takeNumber N g11 g12 g13 g14 it_text_length ft_text_bytes 1 99) fun (r16, g17, g18, g19, g20) => (if r10 ≤ r16 then bd (fX2_takeNumber N g17 g18 g19 g20 it_text_length ft_text_bytes 0 60) fun (r23, g24, g25, g26, g27) => bd (fX2_takeEnd N g24 g26 g27 it_text_length ft_text_bytes) fun (g29, g30, g31) => (if g30 = 0 then (if 5 ≤ it_plan_columns then some (g29, g25, g30, g31, it_plan_columns, ft_start_price, ft_start_low, ft_start_high, ft_start_goods, ft_start_wired, ft_start_stick, ft_start_kicks, ft_start_kickCount) else bd (fX4_setColumn N ft_start_price ft_start_low ft_start_high ft_start_goods ft_start_wired ft_start_stick ft_start_kicks ft_start_kickCount it_plan_columns r4 r10 r16 r23) fun (g35, g36, g37, g38, g39, g40, g41, g42) => lt (it_plan_columns + 1) fun n44 => some (g29, g25, g30, g31, n44, g35, g36, g37, g38, g39, g40, g41, g42)) else some (g29, g25, g30, g31, it_plan_columns, ft_start_price, ft_start_low, ft_start_high, ft_start_goods, ft_start_wired, ft_start_stick, ft_start_kicks, ft_start_kickCount)) else bd (fX2_fail N g19 g20 4 g18) fun (g45, g46) => bd (fX2_takeNumber N g17 g18 g45 g46 it_text_length ft_text_bytes 0 60) fun (r48, g49, g50, g51, g52) => bd (fX2_takeEnd N g49 g51 g52 it_text_length ft_text_bytes) fun (g54, g55, g56) => (if g55 = 0 then (if 5 ≤ it_plan_columns then some (g54, g50, g55, g56, it_plan_columns, ft_start_price, ft_start_low, ft_start_high, ft_start_goods, ft_start_wired, ft_start_stick, ft_start_kicks, ft_start_kickCount) else bd (fX4_setColumn N ft_start_price ft_start_low ft_start_high ft_start_goods ft_start_wired ft_start_stick ft_start_kicks ft_start_kickCount it_plan_columns r4 r10 r16 r48) fun (g60, g61, g62, g63, g64, g65, g66, g67) => lt (it_plan_columns + 1) fun n69 => some (g54, g50, g55, g56, n69, g60, g61, g62, g63, g64, g65, g66, g67)) else some (g54, g50, g55, g56, it_plan_columns, ft_start_price, ft_start_low, ft_start_high, ft_start_goods, ft_start_wired, ft_start_stick, ft_start_kicks, ft_start_kickCount)))
set_option maxHeartbeats 4000000 in
set_option maxRecDepth 100000 in
theorem ctX2_readColumn (l : Launch) (D : va_G) (cI cZ cB cS : ClassId) (kK kV : Nat → Nat) (sz : Nat) (qt qt_text qt_plan qt_start qt_plan_value qt_plan_weight qt_plan_slugWeight qt_plan_rhythm qt_plan_rhythmLength qt_plan_paidBy qt_text_bytes qt_start_tube qt_start_goods qt_start_stick qt_start_kicks qt_start_kickCount qt_start_low qt_start_high qt_start_price qt_start_wired : Nat) (it_at : Int32) (it_tokenAt : Int32) (it_fault : Int32) (it_faultAt : Int32) (it_plan_kinds : Int32) (it_plan_columns : Int32) (it_plan_slugs : Int32) (it_text_length : Int32) (ft_text_bytes : Nat → Int32) (it_start_lost : Int32) (it_start_stamps : Int32) (it_start_sales : Int32) (it_start_damp : Int32) (it_start_worn : Int32) (it_start_seed : Int32) (ft_start_price : Nat → Int32) (ft_start_low : Nat → Int32) (ft_start_high : Nat → Int32) (ft_start_goods : Nat → Int32) (ft_start_wired : Nat → Int32) (ft_start_stick : Nat → Int32) (ft_start_kicks : Nat → Int32) (ft_start_kickCount : Nat → Int32)  (N : Nat) (w_it_at : Int32) (w_it_tokenAt : Int32) (w_it_fault : Int32) (w_it_faultAt : Int32) (w_it_plan_columns : Int32) (w_ft_start_price : Nat → Int32) (w_ft_start_low : Nat → Int32) (w_ft_start_high : Nat → Int32) (w_ft_start_goods : Nat → Int32) (w_ft_start_wired : Nat → Int32) (w_ft_start_stick : Nat → Int32) (w_ft_start_kicks : Nat → Int32) (w_ft_start_kickCount : Nat → Int32) (h : fX2_readColumn N it_at it_tokenAt it_fault it_faultAt it_plan_columns it_text_length ft_text_bytes ft_start_price ft_start_low ft_start_high ft_start_goods ft_start_wired ft_start_stick ft_start_kicks ft_start_kickCount = some (w_it_at, w_it_tokenAt, w_it_fault, w_it_faultAt, w_it_plan_columns, w_ft_start_price, w_ft_start_low, w_ft_start_high, w_ft_start_goods, w_ft_start_wired, w_ft_start_stick, w_ft_start_kicks, w_ft_start_kickCount)) : CtV l yX2_readColumn wsX2_readColumn { frames := 3, cells := 0, slots := 0, locals := 65 } D (TY cI cZ cB cS) kK kV [.ref qt] [(qt, .inr (2, [.ref qt_text, .ref qt_plan, .ref qt_start, .int it_at, .int it_tokenAt, .int it_fault, .int it_faultAt])), (qt_plan, .inr (1, [.ref qt_plan_value, .ref qt_plan_weight, .ref qt_plan_slugWeight, .ref qt_plan_rhythm, .ref qt_plan_rhythmLength, .ref qt_plan_paidBy, .int it_plan_kinds, .int it_plan_columns, .int it_plan_slugs])), (qt_text, .inr (5, [.ref qt_text_bytes, .int it_text_length])), (qt_text_bytes, .inl (cB, 400, .inl ft_text_bytes)), (qt_start, .inr (4, [.ref qt_start_tube, .ref qt_start_goods, .ref qt_start_stick, .ref qt_start_kicks, .ref qt_start_kickCount, .ref qt_start_low, .ref qt_start_high, .ref qt_start_price, .ref qt_start_wired, .int it_start_lost, .int it_start_stamps, .int it_start_sales, .int it_start_damp, .int it_start_worn, .int it_start_seed])), (qt_start_price, .inl (cI, 5, .inl ft_start_price)), (qt_start_low, .inl (cI, 5, .inl ft_start_low)), (qt_start_high, .inl (cI, 5, .inl ft_start_high)), (qt_start_goods, .inl (cI, 5, .inl ft_start_goods)), (qt_start_wired, .inl (cI, 5, .inl ft_start_wired)), (qt_start_stick, .inl (cI, 5, .inl ft_start_stick)), (qt_start_kicks, .inl (cI, 5, .inl ft_start_kicks)), (qt_start_kickCount, .inl (cI, 5, .inl ft_start_kickCount))] [(qt, .inr (2, [.ref qt_text, .ref qt_plan, .ref qt_start, .int w_it_at, .int w_it_tokenAt, .int w_it_fault, .int w_it_faultAt])), (qt_plan, .inr (1, [.ref qt_plan_value, .ref qt_plan_weight, .ref qt_plan_slugWeight, .ref qt_plan_rhythm, .ref qt_plan_rhythmLength, .ref qt_plan_paidBy, .int it_plan_kinds, .int w_it_plan_columns, .int it_plan_slugs])), (qt_text, .inr (5, [.ref qt_text_bytes, .int it_text_length])), (qt_text_bytes, .inl (cB, 400, .inl ft_text_bytes)), (qt_start, .inr (4, [.ref qt_start_tube, .ref qt_start_goods, .ref qt_start_stick, .ref qt_start_kicks, .ref qt_start_kickCount, .ref qt_start_low, .ref qt_start_high, .ref qt_start_price, .ref qt_start_wired, .int it_start_lost, .int it_start_stamps, .int it_start_sales, .int it_start_damp, .int it_start_worn, .int it_start_seed])), (qt_start_price, .inl (cI, 5, .inl w_ft_start_price)), (qt_start_low, .inl (cI, 5, .inl w_ft_start_low)), (qt_start_high, .inl (cI, 5, .inl w_ft_start_high)), (qt_start_goods, .inl (cI, 5, .inl w_ft_start_goods)), (qt_start_wired, .inl (cI, 5, .inl w_ft_start_wired)), (qt_start_stick, .inl (cI, 5, .inl w_ft_start_stick)), (qt_start_kicks, .inl (cI, 5, .inl w_ft_start_kicks)), (qt_start_kickCount, .inl (cI, 5, .inl w_ft_start_kickCount))] sz := by
  refine mkV (cc := cX2_readColumn) (maxL := 5) (own := RX2) (by decide) rfl rfl (Nat.le_of_ble_eq_true rfl) ?_
  intro p e s m args below meth c A Z ls hx hb hml hown hts hK hN hX hP hD hA hS hret hl
  have hl : lv_has ls 5 [(0, .ref qt)] := hl
  have fl12 : (Cond.fieldLink RX2 12 "SoupWall$Reader" "plan" "LSoupWall$Plan;").before args s = true := hts _ (List.mem_of_getElem? (l := wsX2_readColumn) (i := 1) rfl)
  have hiX2 : ∀ w ∈ wsX20, w ∈ wsX2_readColumn := fun w h => List.mem_cons_of_mem _ (List.mem_append_left _ (List.mem_append_left _ (List.mem_append_left _ (List.mem_append_right _ h))))
  have fl111 : (Cond.fieldLinkNest "SoupWall$Reader" 111 "SoupWall$Plan" "columns" "I" "SoupWall").before args s = true := hN.f 7 rfl
  have hiX1 : ∀ w ∈ wsX10, w ∈ wsX2_readColumn := fun w h => List.mem_cons_of_mem _ (List.mem_append_left _ (List.mem_append_left _ (List.mem_append_right _ h)))
  have fl40 : (Cond.fieldLink RX2 40 "SoupWall$Reader" "fault" "I").before args s = true := hts _ (List.mem_of_getElem? (l := wsX2_readColumn) (i := 3) rfl)
  have fl21 : (Cond.fieldLink RX2 21 "SoupWall$Reader" "start" "LSoupWall$State;").before args s = true := hts _ (List.mem_of_getElem? (l := wsX2_readColumn) (i := 4) rfl)
  have fl84 : (Cond.fieldLink RX2 84 "SoupWall$Reader" "tokenAt" "I").before args s = true := hts _ (List.mem_of_getElem? (l := wsX2_readColumn) (i := 2) rfl)
  unfold fX2_readColumn at h
  refine lv_aload_n hx hb dX2_readColumn_0 rfl (lv_at hl 0 rfl) ?_
  refine lv_aload_n hx hb dX2_readColumn_1 rfl (lv_at hl 0 rfl) ?_
  refine va_get (ci := 2) (v := .ref qt_plan) (C := RX2) (T := TX2) (N := 7) hx hb hts hiX2 hown hK hP 0 rfl rfl 1 (by decide) fl12 (fun _ h9 => h9) rfl dX2_readColumn_2 ?_
  refine va_getN (ci := 1) (v := .int it_plan_columns) (C := RX1) (T := TX1) (N := 9) hx hb hts hiX1 hown hK hP 1 rfl rfl 7 (by decide) fl111 (fun _ h9 => h9) rfl dX2_readColumn_5 ?_
  refine lv_iconst (v := 5) hx hb dX2_readColumn_8 (by decide) ?_
  replace h := bd_el h
  obtain ⟨⟨g1, g2⟩, hc3, h⟩ := h
  refine callVV (rest := []) ⟨hx, hb, hml, hown, hts⟩ (ctX2_refuseSixth l D cI cZ cB cS kK kV _ qt qt_text qt_plan qt_start it_at it_tokenAt it_fault it_faultAt it_plan_columns 5 N g1 g2 hc3) (cwV 2 hts gX2_readColumn_X2_refuseSixth rfl rfl rfl hdX2_refuseSixth ⟨Nat.le_of_ble_eq_true rfl, Nat.le_of_ble_eq_true rfl⟩) hK hN hX hP (dF hD rfl) hS hA [0] (mcC rfl mcN) (by decide +kernel) [(qt, .inr (2, [.ref qt_text, .ref qt_plan, .ref qt_start, .int it_at, .int it_tokenAt, .int g1, .int g2])), (qt_plan, .inr (1, [.ref qt_plan_value, .ref qt_plan_weight, .ref qt_plan_slugWeight, .ref qt_plan_rhythm, .ref qt_plan_rhythmLength, .ref qt_plan_paidBy, .int it_plan_kinds, .int it_plan_columns, .int it_plan_slugs])), (qt_text, .inr (5, [.ref qt_text_bytes, .int it_text_length])), (qt_text_bytes, .inl (cB, 400, .inl ft_text_bytes)), (qt_start, .inr (4, [.ref qt_start_tube, .ref qt_start_goods, .ref qt_start_stick, .ref qt_start_kicks, .ref qt_start_kickCount, .ref qt_start_low, .ref qt_start_high, .ref qt_start_price, .ref qt_start_wired, .int it_start_lost, .int it_start_stamps, .int it_start_sales, .int it_start_damp, .int it_start_worn, .int it_start_seed])), (qt_start_price, .inl (cI, 5, .inl ft_start_price)), (qt_start_low, .inl (cI, 5, .inl ft_start_low)), (qt_start_high, .inl (cI, 5, .inl ft_start_high)), (qt_start_goods, .inl (cI, 5, .inl ft_start_goods)), (qt_start_wired, .inl (cI, 5, .inl ft_start_wired)), (qt_start_stick, .inl (cI, 5, .inl ft_start_stick)), (qt_start_kicks, .inl (cI, 5, .inl ft_start_kicks)), (qt_start_kickCount, .inl (cI, 5, .inl ft_start_kickCount))] [1, 2, 3, 4, 5, 6, 7, 8, 9, 10, 11, 12] (mcC rfl mcN) ((mcC rfl (mcC rfl (mcC rfl (mcC rfl (mcC rfl (mcC rfl (mcC rfl (mcC rfl (mcC rfl (mcC rfl (mcC rfl (mcC rfl mcN)))))))))))).trans (mcC rfl (mcC rfl (mcC rfl (mcC rfl (mcC rfl (mcC rfl (mcC rfl (mcC rfl (mcC rfl (mcC rfl (mcC rfl (mcC rfl mcN)))))))))))).symm) 13 rfl (by decide +kernel) (va_recv hK hP (ci := 2) (q0 := 0) rfl rfl) rfl hl.1 rfl (Nat.le_of_ble_eq_true rfl) ⟨Nat.zero_le _, Nat.zero_le _⟩ dX2_readColumn_9 (fun H locs hP hS => ?_)
  refine lv_aload_n hx hb dX2_readColumn_12 rfl (lv_at hl 0 rfl) ?_
  refine lv_iconst (v := 1) hx hb dX2_readColumn_13 (by decide) ?_
  refine lv_bipush (v := 99) hx hb dX2_readColumn_14 (by decide) ?_
  replace h := bd_el h
  obtain ⟨⟨r4, g5, g6, g7, g8⟩, hc9, h⟩ := h
  refine callVI (rest := []) ⟨hx, hb, hml, hown, hts⟩ (ctX2_takeNumber l D cI cZ cB cS kK kV _ qt qt_text qt_plan qt_start qt_text_bytes it_at it_tokenAt g1 g2 it_text_length ft_text_bytes 1 99 N r4 g5 g6 g7 g8 hc9) (cwV 2 hts gX2_readColumn_X2_takeNumber rfl rfl rfl hdX2_takeNumber ⟨Nat.le_of_ble_eq_true rfl, Nat.le_of_ble_eq_true rfl⟩) hK hN hX hP (dF hD rfl) hS hA [0, 2, 3] (mcC rfl (mcC rfl (mcC rfl mcN))) (by decide +kernel) [(qt, .inr (2, [.ref qt_text, .ref qt_plan, .ref qt_start, .int g5, .int g6, .int g7, .int g8])), (qt_plan, .inr (1, [.ref qt_plan_value, .ref qt_plan_weight, .ref qt_plan_slugWeight, .ref qt_plan_rhythm, .ref qt_plan_rhythmLength, .ref qt_plan_paidBy, .int it_plan_kinds, .int it_plan_columns, .int it_plan_slugs])), (qt_text, .inr (5, [.ref qt_text_bytes, .int it_text_length])), (qt_text_bytes, .inl (cB, 400, .inl ft_text_bytes)), (qt_start, .inr (4, [.ref qt_start_tube, .ref qt_start_goods, .ref qt_start_stick, .ref qt_start_kicks, .ref qt_start_kickCount, .ref qt_start_low, .ref qt_start_high, .ref qt_start_price, .ref qt_start_wired, .int it_start_lost, .int it_start_stamps, .int it_start_sales, .int it_start_damp, .int it_start_worn, .int it_start_seed])), (qt_start_price, .inl (cI, 5, .inl ft_start_price)), (qt_start_low, .inl (cI, 5, .inl ft_start_low)), (qt_start_high, .inl (cI, 5, .inl ft_start_high)), (qt_start_goods, .inl (cI, 5, .inl ft_start_goods)), (qt_start_wired, .inl (cI, 5, .inl ft_start_wired)), (qt_start_stick, .inl (cI, 5, .inl ft_start_stick)), (qt_start_kicks, .inl (cI, 5, .inl ft_start_kicks)), (qt_start_kickCount, .inl (cI, 5, .inl ft_start_kickCount))] [1, 4, 5, 6, 7, 8, 9, 10, 11, 12] (mcC rfl (mcC rfl (mcC rfl mcN))) ((mcC rfl (mcC rfl (mcC rfl (mcC rfl (mcC rfl (mcC rfl (mcC rfl (mcC rfl (mcC rfl (mcC rfl mcN)))))))))).trans (mcC rfl (mcC rfl (mcC rfl (mcC rfl (mcC rfl (mcC rfl (mcC rfl (mcC rfl (mcC rfl (mcC rfl mcN)))))))))).symm) 13 rfl (by decide +kernel) (va_recv hK hP (ci := 2) (q0 := 0) rfl rfl) rfl hl.1 rfl (Nat.le_of_ble_eq_true rfl) ⟨Nat.zero_le _, Nat.zero_le _⟩ dX2_readColumn_16 (fun H locs hP hS => ?_)
  refine lv_istore_n (lv' := [(1, .int r4), (0, .ref qt)]) hx hb dX2_readColumn_19 rfl hl (by decide) rfl (fun ls hl => ?_)
  refine lv_aload_n hx hb dX2_readColumn_20 rfl (lv_at hl 1 rfl) ?_
  refine lv_iconst (v := 1) hx hb dX2_readColumn_21 (by decide) ?_
  refine lv_bipush (v := 99) hx hb dX2_readColumn_22 (by decide) ?_
  replace h := bd_el h
  obtain ⟨⟨r10, g11, g12, g13, g14⟩, hc15, h⟩ := h
  refine callVI (rest := []) ⟨hx, hb, hml, hown, hts⟩ (ctX2_takeNumber l D cI cZ cB cS kK kV _ qt qt_text qt_plan qt_start qt_text_bytes g5 g6 g7 g8 it_text_length ft_text_bytes 1 99 N r10 g11 g12 g13 g14 hc15) (cwV 2 hts gX2_readColumn_X2_takeNumber rfl rfl rfl hdX2_takeNumber ⟨Nat.le_of_ble_eq_true rfl, Nat.le_of_ble_eq_true rfl⟩) hK hN hX hP (dF hD rfl) hS hA [0, 2, 3] (mcC rfl (mcC rfl (mcC rfl mcN))) (by decide +kernel) [(qt, .inr (2, [.ref qt_text, .ref qt_plan, .ref qt_start, .int g11, .int g12, .int g13, .int g14])), (qt_plan, .inr (1, [.ref qt_plan_value, .ref qt_plan_weight, .ref qt_plan_slugWeight, .ref qt_plan_rhythm, .ref qt_plan_rhythmLength, .ref qt_plan_paidBy, .int it_plan_kinds, .int it_plan_columns, .int it_plan_slugs])), (qt_text, .inr (5, [.ref qt_text_bytes, .int it_text_length])), (qt_text_bytes, .inl (cB, 400, .inl ft_text_bytes)), (qt_start, .inr (4, [.ref qt_start_tube, .ref qt_start_goods, .ref qt_start_stick, .ref qt_start_kicks, .ref qt_start_kickCount, .ref qt_start_low, .ref qt_start_high, .ref qt_start_price, .ref qt_start_wired, .int it_start_lost, .int it_start_stamps, .int it_start_sales, .int it_start_damp, .int it_start_worn, .int it_start_seed])), (qt_start_price, .inl (cI, 5, .inl ft_start_price)), (qt_start_low, .inl (cI, 5, .inl ft_start_low)), (qt_start_high, .inl (cI, 5, .inl ft_start_high)), (qt_start_goods, .inl (cI, 5, .inl ft_start_goods)), (qt_start_wired, .inl (cI, 5, .inl ft_start_wired)), (qt_start_stick, .inl (cI, 5, .inl ft_start_stick)), (qt_start_kicks, .inl (cI, 5, .inl ft_start_kicks)), (qt_start_kickCount, .inl (cI, 5, .inl ft_start_kickCount))] [1, 4, 5, 6, 7, 8, 9, 10, 11, 12] (mcC rfl (mcC rfl (mcC rfl mcN))) ((mcC rfl (mcC rfl (mcC rfl (mcC rfl (mcC rfl (mcC rfl (mcC rfl (mcC rfl (mcC rfl (mcC rfl mcN)))))))))).trans (mcC rfl (mcC rfl (mcC rfl (mcC rfl (mcC rfl (mcC rfl (mcC rfl (mcC rfl (mcC rfl (mcC rfl mcN)))))))))).symm) 13 rfl (by decide +kernel) (va_recv hK hP (ci := 2) (q0 := 0) rfl rfl) rfl hl.1 rfl (Nat.le_of_ble_eq_true rfl) ⟨Nat.zero_le _, Nat.zero_le _⟩ dX2_readColumn_24 (fun H locs hP hS => ?_)
  refine lv_istore_n (lv' := [(2, .int r10), (1, .int r4), (0, .ref qt)]) hx hb dX2_readColumn_27 rfl hl (by decide) rfl (fun ls hl => ?_)
  refine lv_aload_n hx hb dX2_readColumn_28 rfl (lv_at hl 2 rfl) ?_
  refine lv_iconst (v := 1) hx hb dX2_readColumn_29 (by decide) ?_
  refine lv_bipush (v := 99) hx hb dX2_readColumn_30 (by decide) ?_
  replace h := bd_el h
  obtain ⟨⟨r16, g17, g18, g19, g20⟩, hc21, h⟩ := h
  refine callVI (rest := []) ⟨hx, hb, hml, hown, hts⟩ (ctX2_takeNumber l D cI cZ cB cS kK kV _ qt qt_text qt_plan qt_start qt_text_bytes g11 g12 g13 g14 it_text_length ft_text_bytes 1 99 N r16 g17 g18 g19 g20 hc21) (cwV 2 hts gX2_readColumn_X2_takeNumber rfl rfl rfl hdX2_takeNumber ⟨Nat.le_of_ble_eq_true rfl, Nat.le_of_ble_eq_true rfl⟩) hK hN hX hP (dF hD rfl) hS hA [0, 2, 3] (mcC rfl (mcC rfl (mcC rfl mcN))) (by decide +kernel) [(qt, .inr (2, [.ref qt_text, .ref qt_plan, .ref qt_start, .int g17, .int g18, .int g19, .int g20])), (qt_plan, .inr (1, [.ref qt_plan_value, .ref qt_plan_weight, .ref qt_plan_slugWeight, .ref qt_plan_rhythm, .ref qt_plan_rhythmLength, .ref qt_plan_paidBy, .int it_plan_kinds, .int it_plan_columns, .int it_plan_slugs])), (qt_text, .inr (5, [.ref qt_text_bytes, .int it_text_length])), (qt_text_bytes, .inl (cB, 400, .inl ft_text_bytes)), (qt_start, .inr (4, [.ref qt_start_tube, .ref qt_start_goods, .ref qt_start_stick, .ref qt_start_kicks, .ref qt_start_kickCount, .ref qt_start_low, .ref qt_start_high, .ref qt_start_price, .ref qt_start_wired, .int it_start_lost, .int it_start_stamps, .int it_start_sales, .int it_start_damp, .int it_start_worn, .int it_start_seed])), (qt_start_price, .inl (cI, 5, .inl ft_start_price)), (qt_start_low, .inl (cI, 5, .inl ft_start_low)), (qt_start_high, .inl (cI, 5, .inl ft_start_high)), (qt_start_goods, .inl (cI, 5, .inl ft_start_goods)), (qt_start_wired, .inl (cI, 5, .inl ft_start_wired)), (qt_start_stick, .inl (cI, 5, .inl ft_start_stick)), (qt_start_kicks, .inl (cI, 5, .inl ft_start_kicks)), (qt_start_kickCount, .inl (cI, 5, .inl ft_start_kickCount))] [1, 4, 5, 6, 7, 8, 9, 10, 11, 12] (mcC rfl (mcC rfl (mcC rfl mcN))) ((mcC rfl (mcC rfl (mcC rfl (mcC rfl (mcC rfl (mcC rfl (mcC rfl (mcC rfl (mcC rfl (mcC rfl mcN)))))))))).trans (mcC rfl (mcC rfl (mcC rfl (mcC rfl (mcC rfl (mcC rfl (mcC rfl (mcC rfl (mcC rfl (mcC rfl mcN)))))))))).symm) 13 rfl (by decide +kernel) (va_recv hK hP (ci := 2) (q0 := 0) rfl rfl) rfl hl.1 rfl (Nat.le_of_ble_eq_true rfl) ⟨Nat.zero_le _, Nat.zero_le _⟩ dX2_readColumn_32 (fun H locs hP hS => ?_)
  refine lv_istore_n (lv' := [(3, .int r16), (2, .int r10), (1, .int r4), (0, .ref qt)]) hx hb dX2_readColumn_35 rfl hl (by decide) rfl (fun ls hl => ?_)
  refine lv_iload_n hx hb dX2_readColumn_36 rfl (lv_at hl 0 rfl) ?_
  refine lv_iload_n hx hb dX2_readColumn_37 rfl (lv_at hl 1 rfl) ?_
  refine lv_icmp_ge (tgt := 50) hx hb dX2_readColumn_38 (by decide) (fun c22 => ?_) (fun c22 => ?_)
  · replace h := if_t c22 h
    refine lv_aload_n hx hb dX2_readColumn_50 rfl (lv_at hl 3 rfl) ?_
    refine lv_iconst (v := 0) hx hb dX2_readColumn_51 (by decide) ?_
    refine lv_bipush (v := 60) hx hb dX2_readColumn_52 (by decide) ?_
    replace h := bd_el h
    obtain ⟨⟨r23, g24, g25, g26, g27⟩, hc28, h⟩ := h
    refine callVI (rest := []) ⟨hx, hb, hml, hown, hts⟩ (ctX2_takeNumber l D cI cZ cB cS kK kV _ qt qt_text qt_plan qt_start qt_text_bytes g17 g18 g19 g20 it_text_length ft_text_bytes 0 60 N r23 g24 g25 g26 g27 hc28) (cwV 2 hts gX2_readColumn_X2_takeNumber rfl rfl rfl hdX2_takeNumber ⟨Nat.le_of_ble_eq_true rfl, Nat.le_of_ble_eq_true rfl⟩) hK hN hX hP (dF hD rfl) hS hA [0, 2, 3] (mcC rfl (mcC rfl (mcC rfl mcN))) (by decide +kernel) [(qt, .inr (2, [.ref qt_text, .ref qt_plan, .ref qt_start, .int g24, .int g25, .int g26, .int g27])), (qt_plan, .inr (1, [.ref qt_plan_value, .ref qt_plan_weight, .ref qt_plan_slugWeight, .ref qt_plan_rhythm, .ref qt_plan_rhythmLength, .ref qt_plan_paidBy, .int it_plan_kinds, .int it_plan_columns, .int it_plan_slugs])), (qt_text, .inr (5, [.ref qt_text_bytes, .int it_text_length])), (qt_text_bytes, .inl (cB, 400, .inl ft_text_bytes)), (qt_start, .inr (4, [.ref qt_start_tube, .ref qt_start_goods, .ref qt_start_stick, .ref qt_start_kicks, .ref qt_start_kickCount, .ref qt_start_low, .ref qt_start_high, .ref qt_start_price, .ref qt_start_wired, .int it_start_lost, .int it_start_stamps, .int it_start_sales, .int it_start_damp, .int it_start_worn, .int it_start_seed])), (qt_start_price, .inl (cI, 5, .inl ft_start_price)), (qt_start_low, .inl (cI, 5, .inl ft_start_low)), (qt_start_high, .inl (cI, 5, .inl ft_start_high)), (qt_start_goods, .inl (cI, 5, .inl ft_start_goods)), (qt_start_wired, .inl (cI, 5, .inl ft_start_wired)), (qt_start_stick, .inl (cI, 5, .inl ft_start_stick)), (qt_start_kicks, .inl (cI, 5, .inl ft_start_kicks)), (qt_start_kickCount, .inl (cI, 5, .inl ft_start_kickCount))] [1, 4, 5, 6, 7, 8, 9, 10, 11, 12] (mcC rfl (mcC rfl (mcC rfl mcN))) ((mcC rfl (mcC rfl (mcC rfl (mcC rfl (mcC rfl (mcC rfl (mcC rfl (mcC rfl (mcC rfl (mcC rfl mcN)))))))))).trans (mcC rfl (mcC rfl (mcC rfl (mcC rfl (mcC rfl (mcC rfl (mcC rfl (mcC rfl (mcC rfl (mcC rfl mcN)))))))))).symm) 13 rfl (by decide +kernel) (va_recv hK hP (ci := 2) (q0 := 0) rfl rfl) rfl hl.1 rfl (Nat.le_of_ble_eq_true rfl) ⟨Nat.zero_le _, Nat.zero_le _⟩ dX2_readColumn_54 (fun H locs hP hS => ?_)
    refine lv_istore (lv' := [(4, .int r23), (3, .int r16), (2, .int r10), (1, .int r4), (0, .ref qt)]) hx hb dX2_readColumn_57 hl (by decide) rfl (fun ls hl => ?_)
    refine lv_aload_n hx hb dX2_readColumn_59 rfl (lv_at hl 4 rfl) ?_
    replace h := bd_el h
    obtain ⟨⟨g29, g30, g31⟩, hc32, h⟩ := h
    refine callVV (rest := []) ⟨hx, hb, hml, hown, hts⟩ (ctX2_takeEnd l D cI cZ cB cS kK kV _ qt qt_text qt_plan qt_start qt_text_bytes g24 g25 g26 g27 it_text_length ft_text_bytes N g29 g30 g31 hc32) (cwV 0 hts gX2_readColumn_X2_takeEnd rfl rfl rfl hdX2_takeEnd ⟨Nat.le_of_ble_eq_true rfl, Nat.le_of_ble_eq_true rfl⟩) hK hN hX hP (dF hD rfl) hS hA [0, 2, 3] (mcC rfl (mcC rfl (mcC rfl mcN))) (by decide +kernel) [(qt, .inr (2, [.ref qt_text, .ref qt_plan, .ref qt_start, .int g29, .int g25, .int g30, .int g31])), (qt_plan, .inr (1, [.ref qt_plan_value, .ref qt_plan_weight, .ref qt_plan_slugWeight, .ref qt_plan_rhythm, .ref qt_plan_rhythmLength, .ref qt_plan_paidBy, .int it_plan_kinds, .int it_plan_columns, .int it_plan_slugs])), (qt_text, .inr (5, [.ref qt_text_bytes, .int it_text_length])), (qt_text_bytes, .inl (cB, 400, .inl ft_text_bytes)), (qt_start, .inr (4, [.ref qt_start_tube, .ref qt_start_goods, .ref qt_start_stick, .ref qt_start_kicks, .ref qt_start_kickCount, .ref qt_start_low, .ref qt_start_high, .ref qt_start_price, .ref qt_start_wired, .int it_start_lost, .int it_start_stamps, .int it_start_sales, .int it_start_damp, .int it_start_worn, .int it_start_seed])), (qt_start_price, .inl (cI, 5, .inl ft_start_price)), (qt_start_low, .inl (cI, 5, .inl ft_start_low)), (qt_start_high, .inl (cI, 5, .inl ft_start_high)), (qt_start_goods, .inl (cI, 5, .inl ft_start_goods)), (qt_start_wired, .inl (cI, 5, .inl ft_start_wired)), (qt_start_stick, .inl (cI, 5, .inl ft_start_stick)), (qt_start_kicks, .inl (cI, 5, .inl ft_start_kicks)), (qt_start_kickCount, .inl (cI, 5, .inl ft_start_kickCount))] [1, 4, 5, 6, 7, 8, 9, 10, 11, 12] (mcC rfl (mcC rfl (mcC rfl mcN))) ((mcC rfl (mcC rfl (mcC rfl (mcC rfl (mcC rfl (mcC rfl (mcC rfl (mcC rfl (mcC rfl (mcC rfl mcN)))))))))).trans (mcC rfl (mcC rfl (mcC rfl (mcC rfl (mcC rfl (mcC rfl (mcC rfl (mcC rfl (mcC rfl (mcC rfl mcN)))))))))).symm) 13 rfl (by decide +kernel) (va_recv hK hP (ci := 2) (q0 := 0) rfl rfl) rfl hl.1 rfl (Nat.le_of_ble_eq_true rfl) ⟨Nat.zero_le _, Nat.zero_le _⟩ dX2_readColumn_60 (fun H locs hP hS => ?_)
    refine lv_aload_n hx hb dX2_readColumn_63 rfl (lv_at hl 4 rfl) ?_
    refine va_get (ci := 2) (v := .int g30) (C := RX2) (T := TX2) (N := 7) hx hb hts hiX2 hown hK hP 0 rfl rfl 5 (by decide) fl40 (fun _ h9 => h9) rfl dX2_readColumn_64 ?_
    refine lv_if_ne (tgt := 113) hx hb dX2_readColumn_67 (by decide) (fun c33 => ?_) (fun c33 => ?_)
    · replace h := if_f c33 h
      simp only [Option.some.injEq, Prod.mk.injEq] at h
      obtain ⟨rfl, rfl, rfl, rfl, rfl, rfl, rfl, rfl, rfl, rfl, rfl, rfl, rfl⟩ := h
      exact hret _ _ _ _ hP hS dX2_readColumn_113
    · replace h := if_t c33 h
      refine lv_aload_n hx hb dX2_readColumn_70 rfl (lv_at hl 4 rfl) ?_
      refine va_get (ci := 2) (v := .ref qt_plan) (C := RX2) (T := TX2) (N := 7) hx hb hts hiX2 hown hK hP 0 rfl rfl 1 (by decide) fl12 (fun _ h9 => h9) rfl dX2_readColumn_71 ?_
      refine va_getN (ci := 1) (v := .int it_plan_columns) (C := RX1) (T := TX1) (N := 9) hx hb hts hiX1 hown hK hP 1 rfl rfl 7 (by decide) fl111 (fun _ h9 => h9) rfl dX2_readColumn_74 ?_
      refine lv_iconst (v := 5) hx hb dX2_readColumn_77 (by decide) ?_
      refine lv_icmp_ge (tgt := 113) hx hb dX2_readColumn_78 (by decide) (fun c34 => ?_) (fun c34 => ?_)
      · replace h := if_t c34 h
        simp only [Option.some.injEq, Prod.mk.injEq] at h
        obtain ⟨rfl, rfl, rfl, rfl, rfl, rfl, rfl, rfl, rfl, rfl, rfl, rfl, rfl⟩ := h
        exact hret _ _ _ _ hP hS dX2_readColumn_113
      · replace h := if_f c34 h
        refine lv_aload_n hx hb dX2_readColumn_81 rfl (lv_at hl 4 rfl) ?_
        refine va_get (ci := 2) (v := .ref qt_start) (C := RX2) (T := TX2) (N := 7) hx hb hts hiX2 hown hK hP 0 rfl rfl 2 (by decide) fl21 (fun _ h9 => h9) rfl dX2_readColumn_82 ?_
        refine lv_aload_n hx hb dX2_readColumn_85 rfl (lv_at hl 4 rfl) ?_
        refine va_get (ci := 2) (v := .ref qt_plan) (C := RX2) (T := TX2) (N := 7) hx hb hts hiX2 hown hK hP 0 rfl rfl 1 (by decide) fl12 (fun _ h9 => h9) rfl dX2_readColumn_86 ?_
        refine va_getN (ci := 1) (v := .int it_plan_columns) (C := RX1) (T := TX1) (N := 9) hx hb hts hiX1 hown hK hP 1 rfl rfl 7 (by decide) fl111 (fun _ h9 => h9) rfl dX2_readColumn_89 ?_
        refine lv_iload_n hx hb dX2_readColumn_92 rfl (lv_at hl 3 rfl) ?_
        refine lv_iload_n hx hb dX2_readColumn_93 rfl (lv_at hl 2 rfl) ?_
        refine lv_iload_n hx hb dX2_readColumn_94 rfl (lv_at hl 1 rfl) ?_
        refine lv_iload hx hb dX2_readColumn_95 (lv_at hl 0 rfl) ?_
        replace h := bd_el h
        obtain ⟨⟨g35, g36, g37, g38, g39, g40, g41, g42⟩, hc43, h⟩ := h
        refine callVV (rest := []) ⟨hx, hb, hml, hown, hts⟩ (ctX4_setColumn l D cI cZ cB cS kK kV _ qt_start qt_start_tube qt_start_goods qt_start_stick qt_start_kicks qt_start_kickCount qt_start_low qt_start_high qt_start_price qt_start_wired it_start_lost it_start_stamps it_start_sales it_start_damp it_start_worn it_start_seed ft_start_price ft_start_low ft_start_high ft_start_goods ft_start_wired ft_start_stick ft_start_kicks ft_start_kickCount it_plan_columns r4 r10 r16 r23 N g35 g36 g37 g38 g39 g40 g41 g42 hc43) (cwV 5 hts gX2_readColumn_X4_setColumn rfl rfl rfl hdX4_setColumn ⟨Nat.le_of_ble_eq_true rfl, Nat.le_of_ble_eq_true rfl⟩) hK hN hX hP (dF hD rfl) hS hA [4, 5, 6, 7, 8, 9, 10, 11, 12] (mcC rfl (mcC rfl (mcC rfl (mcC rfl (mcC rfl (mcC rfl (mcC rfl (mcC rfl (mcC rfl mcN))))))))) (by decide +kernel) [(qt, .inr (2, [.ref qt_text, .ref qt_plan, .ref qt_start, .int g29, .int g25, .int g30, .int g31])), (qt_plan, .inr (1, [.ref qt_plan_value, .ref qt_plan_weight, .ref qt_plan_slugWeight, .ref qt_plan_rhythm, .ref qt_plan_rhythmLength, .ref qt_plan_paidBy, .int it_plan_kinds, .int it_plan_columns, .int it_plan_slugs])), (qt_text, .inr (5, [.ref qt_text_bytes, .int it_text_length])), (qt_text_bytes, .inl (cB, 400, .inl ft_text_bytes)), (qt_start, .inr (4, [.ref qt_start_tube, .ref qt_start_goods, .ref qt_start_stick, .ref qt_start_kicks, .ref qt_start_kickCount, .ref qt_start_low, .ref qt_start_high, .ref qt_start_price, .ref qt_start_wired, .int it_start_lost, .int it_start_stamps, .int it_start_sales, .int it_start_damp, .int it_start_worn, .int it_start_seed])), (qt_start_price, .inl (cI, 5, .inl g35)), (qt_start_low, .inl (cI, 5, .inl g36)), (qt_start_high, .inl (cI, 5, .inl g37)), (qt_start_goods, .inl (cI, 5, .inl g38)), (qt_start_wired, .inl (cI, 5, .inl g39)), (qt_start_stick, .inl (cI, 5, .inl g40)), (qt_start_kicks, .inl (cI, 5, .inl g41)), (qt_start_kickCount, .inl (cI, 5, .inl g42))] [0, 1, 2, 3] (mcC rfl (mcC rfl (mcC rfl (mcC rfl (mcC rfl (mcC rfl (mcC rfl (mcC rfl (mcC rfl mcN))))))))) ((mcC rfl (mcC rfl (mcC rfl (mcC rfl mcN)))).trans (mcC rfl (mcC rfl (mcC rfl (mcC rfl mcN)))).symm) 13 rfl (by decide +kernel) (va_recv hK hP (ci := 4) (q0 := 4) rfl rfl) rfl hl.1 rfl (Nat.le_of_ble_eq_true rfl) ⟨Nat.zero_le _, Nat.zero_le _⟩ dX2_readColumn_97 (fun H locs hP hS => ?_)
        refine lv_aload_n hx hb dX2_readColumn_100 rfl (lv_at hl 4 rfl) ?_
        refine va_get (ci := 2) (v := .ref qt_plan) (C := RX2) (T := TX2) (N := 7) hx hb hts hiX2 hown hK hP 0 rfl rfl 1 (by decide) fl12 (fun _ h9 => h9) rfl dX2_readColumn_101 ?_
        refine lv_dup hx hb dX2_readColumn_104 rfl ?_
        refine va_getN (ci := 1) (v := .int it_plan_columns) (C := RX1) (T := TX1) (N := 9) hx hb hts hiX1 hown hK hP 1 rfl rfl 7 (by decide) fl111 (fun _ h9 => h9) rfl dX2_readColumn_105 ?_
        refine lv_iconst (v := 1) hx hb dX2_readColumn_108 (by decide) ?_
        refine lv_iadd hx hb dX2_readColumn_109 ?_
        refine lv_topi (fun n44 en44 => ?_)
        replace h := lt_at en44 h
        refine va_putN (ci := 1) (v := .int n44) (ty := .int) (C := RX1) (T := TX1) (N := 9) hx hb hts hiX1 tyX1 tyX1_ok nmX1 hown hK hP (dF hD rfl) hS 1 rfl rfl 7 (by decide) fl111 (fun _ h9 => h9) rfl (by decide +kernel) rfl rfl (Nat.le_of_ble_eq_true rfl) dX2_readColumn_110 (fun H locs hP _ hS => ?_)
        replace hP : va_P D vwCl [(qt, .inr (2, [.ref qt_text, .ref qt_plan, .ref qt_start, .int g29, .int g25, .int g30, .int g31])), (qt_plan, .inr (1, [.ref qt_plan_value, .ref qt_plan_weight, .ref qt_plan_slugWeight, .ref qt_plan_rhythm, .ref qt_plan_rhythmLength, .ref qt_plan_paidBy, .int it_plan_kinds, .int n44, .int it_plan_slugs])), (qt_text, .inr (5, [.ref qt_text_bytes, .int it_text_length])), (qt_text_bytes, .inl (cB, 400, .inl ft_text_bytes)), (qt_start, .inr (4, [.ref qt_start_tube, .ref qt_start_goods, .ref qt_start_stick, .ref qt_start_kicks, .ref qt_start_kickCount, .ref qt_start_low, .ref qt_start_high, .ref qt_start_price, .ref qt_start_wired, .int it_start_lost, .int it_start_stamps, .int it_start_sales, .int it_start_damp, .int it_start_worn, .int it_start_seed])), (qt_start_price, .inl (cI, 5, .inl g35)), (qt_start_low, .inl (cI, 5, .inl g36)), (qt_start_high, .inl (cI, 5, .inl g37)), (qt_start_goods, .inl (cI, 5, .inl g38)), (qt_start_wired, .inl (cI, 5, .inl g39)), (qt_start_stick, .inl (cI, 5, .inl g40)), (qt_start_kicks, .inl (cI, 5, .inl g41)), (qt_start_kickCount, .inl (cI, 5, .inl g42))] H := hP
        simp only [Option.some.injEq, Prod.mk.injEq] at h
        obtain ⟨rfl, rfl, rfl, rfl, rfl, rfl, rfl, rfl, rfl, rfl, rfl, rfl, rfl⟩ := h
        exact hret _ _ _ _ hP hS dX2_readColumn_113
  · replace h := if_f c22 h
    refine lv_aload_n hx hb dX2_readColumn_41 rfl (lv_at hl 3 rfl) ?_
    refine lv_iconst (v := 4) hx hb dX2_readColumn_42 (by decide) ?_
    refine lv_aload_n hx hb dX2_readColumn_43 rfl (lv_at hl 3 rfl) ?_
    refine va_get (ci := 2) (v := .int g18) (C := RX2) (T := TX2) (N := 7) hx hb hts hiX2 hown hK hP 0 rfl rfl 4 (by decide) fl84 (fun _ h9 => h9) rfl dX2_readColumn_44 ?_
    replace h := bd_el h
    obtain ⟨⟨g45, g46⟩, hc47, h⟩ := h
    refine callVV (rest := []) ⟨hx, hb, hml, hown, hts⟩ (ctX2_fail l D cI cZ cB cS kK kV _ qt qt_text qt_plan qt_start g17 g18 g19 g20 4 g18 N g45 g46 hc47) (cwV 2 hts gX2_readColumn_X2_fail rfl rfl rfl hdX2_fail ⟨Nat.le_of_ble_eq_true rfl, Nat.le_of_ble_eq_true rfl⟩) hK hN hX hP (dF hD rfl) hS hA [0] (mcC rfl mcN) (by decide +kernel) [(qt, .inr (2, [.ref qt_text, .ref qt_plan, .ref qt_start, .int g17, .int g18, .int g45, .int g46])), (qt_plan, .inr (1, [.ref qt_plan_value, .ref qt_plan_weight, .ref qt_plan_slugWeight, .ref qt_plan_rhythm, .ref qt_plan_rhythmLength, .ref qt_plan_paidBy, .int it_plan_kinds, .int it_plan_columns, .int it_plan_slugs])), (qt_text, .inr (5, [.ref qt_text_bytes, .int it_text_length])), (qt_text_bytes, .inl (cB, 400, .inl ft_text_bytes)), (qt_start, .inr (4, [.ref qt_start_tube, .ref qt_start_goods, .ref qt_start_stick, .ref qt_start_kicks, .ref qt_start_kickCount, .ref qt_start_low, .ref qt_start_high, .ref qt_start_price, .ref qt_start_wired, .int it_start_lost, .int it_start_stamps, .int it_start_sales, .int it_start_damp, .int it_start_worn, .int it_start_seed])), (qt_start_price, .inl (cI, 5, .inl ft_start_price)), (qt_start_low, .inl (cI, 5, .inl ft_start_low)), (qt_start_high, .inl (cI, 5, .inl ft_start_high)), (qt_start_goods, .inl (cI, 5, .inl ft_start_goods)), (qt_start_wired, .inl (cI, 5, .inl ft_start_wired)), (qt_start_stick, .inl (cI, 5, .inl ft_start_stick)), (qt_start_kicks, .inl (cI, 5, .inl ft_start_kicks)), (qt_start_kickCount, .inl (cI, 5, .inl ft_start_kickCount))] [1, 2, 3, 4, 5, 6, 7, 8, 9, 10, 11, 12] (mcC rfl mcN) ((mcC rfl (mcC rfl (mcC rfl (mcC rfl (mcC rfl (mcC rfl (mcC rfl (mcC rfl (mcC rfl (mcC rfl (mcC rfl (mcC rfl mcN)))))))))))).trans (mcC rfl (mcC rfl (mcC rfl (mcC rfl (mcC rfl (mcC rfl (mcC rfl (mcC rfl (mcC rfl (mcC rfl (mcC rfl (mcC rfl mcN)))))))))))).symm) 13 rfl (by decide +kernel) (va_recv hK hP (ci := 2) (q0 := 0) rfl rfl) rfl hl.1 rfl (Nat.le_of_ble_eq_true rfl) ⟨Nat.zero_le _, Nat.zero_le _⟩ dX2_readColumn_47 (fun H locs hP hS => ?_)
    refine lv_aload_n hx hb dX2_readColumn_50 rfl (lv_at hl 3 rfl) ?_
    refine lv_iconst (v := 0) hx hb dX2_readColumn_51 (by decide) ?_
    refine lv_bipush (v := 60) hx hb dX2_readColumn_52 (by decide) ?_
    replace h := bd_el h
    obtain ⟨⟨r48, g49, g50, g51, g52⟩, hc53, h⟩ := h
    refine callVI (rest := []) ⟨hx, hb, hml, hown, hts⟩ (ctX2_takeNumber l D cI cZ cB cS kK kV _ qt qt_text qt_plan qt_start qt_text_bytes g17 g18 g45 g46 it_text_length ft_text_bytes 0 60 N r48 g49 g50 g51 g52 hc53) (cwV 2 hts gX2_readColumn_X2_takeNumber rfl rfl rfl hdX2_takeNumber ⟨Nat.le_of_ble_eq_true rfl, Nat.le_of_ble_eq_true rfl⟩) hK hN hX hP (dF hD rfl) hS hA [0, 2, 3] (mcC rfl (mcC rfl (mcC rfl mcN))) (by decide +kernel) [(qt, .inr (2, [.ref qt_text, .ref qt_plan, .ref qt_start, .int g49, .int g50, .int g51, .int g52])), (qt_plan, .inr (1, [.ref qt_plan_value, .ref qt_plan_weight, .ref qt_plan_slugWeight, .ref qt_plan_rhythm, .ref qt_plan_rhythmLength, .ref qt_plan_paidBy, .int it_plan_kinds, .int it_plan_columns, .int it_plan_slugs])), (qt_text, .inr (5, [.ref qt_text_bytes, .int it_text_length])), (qt_text_bytes, .inl (cB, 400, .inl ft_text_bytes)), (qt_start, .inr (4, [.ref qt_start_tube, .ref qt_start_goods, .ref qt_start_stick, .ref qt_start_kicks, .ref qt_start_kickCount, .ref qt_start_low, .ref qt_start_high, .ref qt_start_price, .ref qt_start_wired, .int it_start_lost, .int it_start_stamps, .int it_start_sales, .int it_start_damp, .int it_start_worn, .int it_start_seed])), (qt_start_price, .inl (cI, 5, .inl ft_start_price)), (qt_start_low, .inl (cI, 5, .inl ft_start_low)), (qt_start_high, .inl (cI, 5, .inl ft_start_high)), (qt_start_goods, .inl (cI, 5, .inl ft_start_goods)), (qt_start_wired, .inl (cI, 5, .inl ft_start_wired)), (qt_start_stick, .inl (cI, 5, .inl ft_start_stick)), (qt_start_kicks, .inl (cI, 5, .inl ft_start_kicks)), (qt_start_kickCount, .inl (cI, 5, .inl ft_start_kickCount))] [1, 4, 5, 6, 7, 8, 9, 10, 11, 12] (mcC rfl (mcC rfl (mcC rfl mcN))) ((mcC rfl (mcC rfl (mcC rfl (mcC rfl (mcC rfl (mcC rfl (mcC rfl (mcC rfl (mcC rfl (mcC rfl mcN)))))))))).trans (mcC rfl (mcC rfl (mcC rfl (mcC rfl (mcC rfl (mcC rfl (mcC rfl (mcC rfl (mcC rfl (mcC rfl mcN)))))))))).symm) 13 rfl (by decide +kernel) (va_recv hK hP (ci := 2) (q0 := 0) rfl rfl) rfl hl.1 rfl (Nat.le_of_ble_eq_true rfl) ⟨Nat.zero_le _, Nat.zero_le _⟩ dX2_readColumn_54 (fun H locs hP hS => ?_)
    refine lv_istore (lv' := [(4, .int r48), (3, .int r16), (2, .int r10), (1, .int r4), (0, .ref qt)]) hx hb dX2_readColumn_57 hl (by decide) rfl (fun ls hl => ?_)
    refine lv_aload_n hx hb dX2_readColumn_59 rfl (lv_at hl 4 rfl) ?_
    replace h := bd_el h
    obtain ⟨⟨g54, g55, g56⟩, hc57, h⟩ := h
    refine callVV (rest := []) ⟨hx, hb, hml, hown, hts⟩ (ctX2_takeEnd l D cI cZ cB cS kK kV _ qt qt_text qt_plan qt_start qt_text_bytes g49 g50 g51 g52 it_text_length ft_text_bytes N g54 g55 g56 hc57) (cwV 0 hts gX2_readColumn_X2_takeEnd rfl rfl rfl hdX2_takeEnd ⟨Nat.le_of_ble_eq_true rfl, Nat.le_of_ble_eq_true rfl⟩) hK hN hX hP (dF hD rfl) hS hA [0, 2, 3] (mcC rfl (mcC rfl (mcC rfl mcN))) (by decide +kernel) [(qt, .inr (2, [.ref qt_text, .ref qt_plan, .ref qt_start, .int g54, .int g50, .int g55, .int g56])), (qt_plan, .inr (1, [.ref qt_plan_value, .ref qt_plan_weight, .ref qt_plan_slugWeight, .ref qt_plan_rhythm, .ref qt_plan_rhythmLength, .ref qt_plan_paidBy, .int it_plan_kinds, .int it_plan_columns, .int it_plan_slugs])), (qt_text, .inr (5, [.ref qt_text_bytes, .int it_text_length])), (qt_text_bytes, .inl (cB, 400, .inl ft_text_bytes)), (qt_start, .inr (4, [.ref qt_start_tube, .ref qt_start_goods, .ref qt_start_stick, .ref qt_start_kicks, .ref qt_start_kickCount, .ref qt_start_low, .ref qt_start_high, .ref qt_start_price, .ref qt_start_wired, .int it_start_lost, .int it_start_stamps, .int it_start_sales, .int it_start_damp, .int it_start_worn, .int it_start_seed])), (qt_start_price, .inl (cI, 5, .inl ft_start_price)), (qt_start_low, .inl (cI, 5, .inl ft_start_low)), (qt_start_high, .inl (cI, 5, .inl ft_start_high)), (qt_start_goods, .inl (cI, 5, .inl ft_start_goods)), (qt_start_wired, .inl (cI, 5, .inl ft_start_wired)), (qt_start_stick, .inl (cI, 5, .inl ft_start_stick)), (qt_start_kicks, .inl (cI, 5, .inl ft_start_kicks)), (qt_start_kickCount, .inl (cI, 5, .inl ft_start_kickCount))] [1, 4, 5, 6, 7, 8, 9, 10, 11, 12] (mcC rfl (mcC rfl (mcC rfl mcN))) ((mcC rfl (mcC rfl (mcC rfl (mcC rfl (mcC rfl (mcC rfl (mcC rfl (mcC rfl (mcC rfl (mcC rfl mcN)))))))))).trans (mcC rfl (mcC rfl (mcC rfl (mcC rfl (mcC rfl (mcC rfl (mcC rfl (mcC rfl (mcC rfl (mcC rfl mcN)))))))))).symm) 13 rfl (by decide +kernel) (va_recv hK hP (ci := 2) (q0 := 0) rfl rfl) rfl hl.1 rfl (Nat.le_of_ble_eq_true rfl) ⟨Nat.zero_le _, Nat.zero_le _⟩ dX2_readColumn_60 (fun H locs hP hS => ?_)
    refine lv_aload_n hx hb dX2_readColumn_63 rfl (lv_at hl 4 rfl) ?_
    refine va_get (ci := 2) (v := .int g55) (C := RX2) (T := TX2) (N := 7) hx hb hts hiX2 hown hK hP 0 rfl rfl 5 (by decide) fl40 (fun _ h9 => h9) rfl dX2_readColumn_64 ?_
    refine lv_if_ne (tgt := 113) hx hb dX2_readColumn_67 (by decide) (fun c58 => ?_) (fun c58 => ?_)
    · replace h := if_f c58 h
      simp only [Option.some.injEq, Prod.mk.injEq] at h
      obtain ⟨rfl, rfl, rfl, rfl, rfl, rfl, rfl, rfl, rfl, rfl, rfl, rfl, rfl⟩ := h
      exact hret _ _ _ _ hP hS dX2_readColumn_113
    · replace h := if_t c58 h
      refine lv_aload_n hx hb dX2_readColumn_70 rfl (lv_at hl 4 rfl) ?_
      refine va_get (ci := 2) (v := .ref qt_plan) (C := RX2) (T := TX2) (N := 7) hx hb hts hiX2 hown hK hP 0 rfl rfl 1 (by decide) fl12 (fun _ h9 => h9) rfl dX2_readColumn_71 ?_
      refine va_getN (ci := 1) (v := .int it_plan_columns) (C := RX1) (T := TX1) (N := 9) hx hb hts hiX1 hown hK hP 1 rfl rfl 7 (by decide) fl111 (fun _ h9 => h9) rfl dX2_readColumn_74 ?_
      refine lv_iconst (v := 5) hx hb dX2_readColumn_77 (by decide) ?_
      refine lv_icmp_ge (tgt := 113) hx hb dX2_readColumn_78 (by decide) (fun c59 => ?_) (fun c59 => ?_)
      · replace h := if_t c59 h
        simp only [Option.some.injEq, Prod.mk.injEq] at h
        obtain ⟨rfl, rfl, rfl, rfl, rfl, rfl, rfl, rfl, rfl, rfl, rfl, rfl, rfl⟩ := h
        exact hret _ _ _ _ hP hS dX2_readColumn_113
      · replace h := if_f c59 h
        refine lv_aload_n hx hb dX2_readColumn_81 rfl (lv_at hl 4 rfl) ?_
        refine va_get (ci := 2) (v := .ref qt_start) (C := RX2) (T := TX2) (N := 7) hx hb hts hiX2 hown hK hP 0 rfl rfl 2 (by decide) fl21 (fun _ h9 => h9) rfl dX2_readColumn_82 ?_
        refine lv_aload_n hx hb dX2_readColumn_85 rfl (lv_at hl 4 rfl) ?_
        refine va_get (ci := 2) (v := .ref qt_plan) (C := RX2) (T := TX2) (N := 7) hx hb hts hiX2 hown hK hP 0 rfl rfl 1 (by decide) fl12 (fun _ h9 => h9) rfl dX2_readColumn_86 ?_
        refine va_getN (ci := 1) (v := .int it_plan_columns) (C := RX1) (T := TX1) (N := 9) hx hb hts hiX1 hown hK hP 1 rfl rfl 7 (by decide) fl111 (fun _ h9 => h9) rfl dX2_readColumn_89 ?_
        refine lv_iload_n hx hb dX2_readColumn_92 rfl (lv_at hl 3 rfl) ?_
        refine lv_iload_n hx hb dX2_readColumn_93 rfl (lv_at hl 2 rfl) ?_
        refine lv_iload_n hx hb dX2_readColumn_94 rfl (lv_at hl 1 rfl) ?_
        refine lv_iload hx hb dX2_readColumn_95 (lv_at hl 0 rfl) ?_
        replace h := bd_el h
        obtain ⟨⟨g60, g61, g62, g63, g64, g65, g66, g67⟩, hc68, h⟩ := h
        refine callVV (rest := []) ⟨hx, hb, hml, hown, hts⟩ (ctX4_setColumn l D cI cZ cB cS kK kV _ qt_start qt_start_tube qt_start_goods qt_start_stick qt_start_kicks qt_start_kickCount qt_start_low qt_start_high qt_start_price qt_start_wired it_start_lost it_start_stamps it_start_sales it_start_damp it_start_worn it_start_seed ft_start_price ft_start_low ft_start_high ft_start_goods ft_start_wired ft_start_stick ft_start_kicks ft_start_kickCount it_plan_columns r4 r10 r16 r48 N g60 g61 g62 g63 g64 g65 g66 g67 hc68) (cwV 5 hts gX2_readColumn_X4_setColumn rfl rfl rfl hdX4_setColumn ⟨Nat.le_of_ble_eq_true rfl, Nat.le_of_ble_eq_true rfl⟩) hK hN hX hP (dF hD rfl) hS hA [4, 5, 6, 7, 8, 9, 10, 11, 12] (mcC rfl (mcC rfl (mcC rfl (mcC rfl (mcC rfl (mcC rfl (mcC rfl (mcC rfl (mcC rfl mcN))))))))) (by decide +kernel) [(qt, .inr (2, [.ref qt_text, .ref qt_plan, .ref qt_start, .int g54, .int g50, .int g55, .int g56])), (qt_plan, .inr (1, [.ref qt_plan_value, .ref qt_plan_weight, .ref qt_plan_slugWeight, .ref qt_plan_rhythm, .ref qt_plan_rhythmLength, .ref qt_plan_paidBy, .int it_plan_kinds, .int it_plan_columns, .int it_plan_slugs])), (qt_text, .inr (5, [.ref qt_text_bytes, .int it_text_length])), (qt_text_bytes, .inl (cB, 400, .inl ft_text_bytes)), (qt_start, .inr (4, [.ref qt_start_tube, .ref qt_start_goods, .ref qt_start_stick, .ref qt_start_kicks, .ref qt_start_kickCount, .ref qt_start_low, .ref qt_start_high, .ref qt_start_price, .ref qt_start_wired, .int it_start_lost, .int it_start_stamps, .int it_start_sales, .int it_start_damp, .int it_start_worn, .int it_start_seed])), (qt_start_price, .inl (cI, 5, .inl g60)), (qt_start_low, .inl (cI, 5, .inl g61)), (qt_start_high, .inl (cI, 5, .inl g62)), (qt_start_goods, .inl (cI, 5, .inl g63)), (qt_start_wired, .inl (cI, 5, .inl g64)), (qt_start_stick, .inl (cI, 5, .inl g65)), (qt_start_kicks, .inl (cI, 5, .inl g66)), (qt_start_kickCount, .inl (cI, 5, .inl g67))] [0, 1, 2, 3] (mcC rfl (mcC rfl (mcC rfl (mcC rfl (mcC rfl (mcC rfl (mcC rfl (mcC rfl (mcC rfl mcN))))))))) ((mcC rfl (mcC rfl (mcC rfl (mcC rfl mcN)))).trans (mcC rfl (mcC rfl (mcC rfl (mcC rfl mcN)))).symm) 13 rfl (by decide +kernel) (va_recv hK hP (ci := 4) (q0 := 4) rfl rfl) rfl hl.1 rfl (Nat.le_of_ble_eq_true rfl) ⟨Nat.zero_le _, Nat.zero_le _⟩ dX2_readColumn_97 (fun H locs hP hS => ?_)
        refine lv_aload_n hx hb dX2_readColumn_100 rfl (lv_at hl 4 rfl) ?_
        refine va_get (ci := 2) (v := .ref qt_plan) (C := RX2) (T := TX2) (N := 7) hx hb hts hiX2 hown hK hP 0 rfl rfl 1 (by decide) fl12 (fun _ h9 => h9) rfl dX2_readColumn_101 ?_
        refine lv_dup hx hb dX2_readColumn_104 rfl ?_
        refine va_getN (ci := 1) (v := .int it_plan_columns) (C := RX1) (T := TX1) (N := 9) hx hb hts hiX1 hown hK hP 1 rfl rfl 7 (by decide) fl111 (fun _ h9 => h9) rfl dX2_readColumn_105 ?_
        refine lv_iconst (v := 1) hx hb dX2_readColumn_108 (by decide) ?_
        refine lv_iadd hx hb dX2_readColumn_109 ?_
        refine lv_topi (fun n69 en69 => ?_)
        replace h := lt_at en69 h
        refine va_putN (ci := 1) (v := .int n69) (ty := .int) (C := RX1) (T := TX1) (N := 9) hx hb hts hiX1 tyX1 tyX1_ok nmX1 hown hK hP (dF hD rfl) hS 1 rfl rfl 7 (by decide) fl111 (fun _ h9 => h9) rfl (by decide +kernel) rfl rfl (Nat.le_of_ble_eq_true rfl) dX2_readColumn_110 (fun H locs hP _ hS => ?_)
        replace hP : va_P D vwCl [(qt, .inr (2, [.ref qt_text, .ref qt_plan, .ref qt_start, .int g54, .int g50, .int g55, .int g56])), (qt_plan, .inr (1, [.ref qt_plan_value, .ref qt_plan_weight, .ref qt_plan_slugWeight, .ref qt_plan_rhythm, .ref qt_plan_rhythmLength, .ref qt_plan_paidBy, .int it_plan_kinds, .int n69, .int it_plan_slugs])), (qt_text, .inr (5, [.ref qt_text_bytes, .int it_text_length])), (qt_text_bytes, .inl (cB, 400, .inl ft_text_bytes)), (qt_start, .inr (4, [.ref qt_start_tube, .ref qt_start_goods, .ref qt_start_stick, .ref qt_start_kicks, .ref qt_start_kickCount, .ref qt_start_low, .ref qt_start_high, .ref qt_start_price, .ref qt_start_wired, .int it_start_lost, .int it_start_stamps, .int it_start_sales, .int it_start_damp, .int it_start_worn, .int it_start_seed])), (qt_start_price, .inl (cI, 5, .inl g60)), (qt_start_low, .inl (cI, 5, .inl g61)), (qt_start_high, .inl (cI, 5, .inl g62)), (qt_start_goods, .inl (cI, 5, .inl g63)), (qt_start_wired, .inl (cI, 5, .inl g64)), (qt_start_stick, .inl (cI, 5, .inl g65)), (qt_start_kicks, .inl (cI, 5, .inl g66)), (qt_start_kickCount, .inl (cI, 5, .inl g67))] H := hP
        simp only [Option.some.injEq, Prod.mk.injEq] at h
        obtain ⟨rfl, rfl, rfl, rfl, rfl, rfl, rfl, rfl, rfl, rfl, rfl, rfl, rfl⟩ := h
        exact hret _ _ _ _ hP hS dX2_readColumn_113
theorem hdX2_readColumn : yX2_readColumn.cls = RX2 ∧ yX2_readColumn.cls ≠ "java/lang/invoke/MethodHandle" ∧ yX2_readColumn.cls ≠ "java/lang/invoke/VarHandle" ∧ (parseMethodDescriptor yX2_readColumn.desc).map (fun d => d.parameters.length) = some 0 := by decide +kernel
