noncomputable def fX5_byteAt (N : Nat) (it_length : Int32) (ft_bytes : Nat → Int32) (x1 : Int32) : Option (Int32) := (if x1 < 0 then some (-1) else (if it_length ≤ x1 then some (-1) else (if x1 < 400 then ck x1 400 (lt ((ft_bytes (Int32.toNatClampNeg x1)) &&& 255) fun n5 => some n5) else some (-1))))
set_option maxHeartbeats 4000000 in
set_option maxRecDepth 100000 in
theorem ctX5_byteAt (l : Launch) (D : va_G) (cI cZ cB cS : ClassId) (kK kV : Nat → Nat) (sz : Nat) (qt qt_bytes : Nat) (it_length : Int32) (ft_bytes : Nat → Int32) (x1 : Int32) (N : Nat) (r0 : Int32)  (h : fX5_byteAt N it_length ft_bytes x1 = some r0) : CtI l yX5_byteAt wsX5_byteAt { frames := 0, cells := 0, slots := 0, locals := 0 } D (TY cI cZ cB cS) kK kV [.ref qt, .int x1] [(qt, .inr (5, [.ref qt_bytes, .int it_length])), (qt_bytes, .inl (cB, 400, .inl ft_bytes))] [(qt, .inr (5, [.ref qt_bytes, .int it_length])), (qt_bytes, .inl (cB, 400, .inl ft_bytes))] sz r0 := by
  refine mkI (cc := cX5_byteAt) (maxL := 2) (rt := .int) (own := RX5) (by decide) rfl rfl (Nat.le_of_ble_eq_true rfl) ?_
  intro p e s m args below meth c A Z ls hx hb hml hown hts hK hN hX hP hD hA hS hret hl
  have hl : lv_has ls 2 [(0, .ref qt), (1, .int x1)] := hl
  have fl15 : (Cond.fieldLink RX5 15 "SoupWall$Text" "length" "I").before args s = true := hts _ (List.mem_of_getElem? (l := wsX5_byteAt) (i := 1) rfl)
  have hiX5 : ∀ w ∈ wsX50, w ∈ wsX5_byteAt := fun w h => List.mem_cons_of_mem _ (List.mem_append_right _ h)
  have fl9 : (Cond.fieldLink RX5 9 "SoupWall$Text" "bytes" "[B").before args s = true := hts _ (List.mem_of_getElem? (l := wsX5_byteAt) (i := 2) rfl)
  unfold fX5_byteAt at h
  refine lv_iload_n hx hb dX5_byteAt_0 rfl (lv_at hl 1 rfl) ?_
  refine lv_if_lt (tgt := 19) hx hb dX5_byteAt_1 (by decide) (fun c1 => ?_) (fun c1 => ?_)
  · replace h := if_t c1 h
    refine lv_iconst (v := (-1)) hx hb dX5_byteAt_19 (by decide) ?_
    refine lv_goto (tgt := 33) hx hb dX5_byteAt_20 (by decide) ?_
    simp only [Option.some.injEq] at h
    subst h
    exact hret _ _ _ _ hP hS rfl dX5_byteAt_33
  · replace h := if_f c1 h
    refine lv_iload_n hx hb dX5_byteAt_4 rfl (lv_at hl 1 rfl) ?_
    refine lv_aload_n hx hb dX5_byteAt_5 rfl (lv_at hl 0 rfl) ?_
    refine va_get (ci := 5) (v := .int it_length) (C := RX5) (T := TX5) (N := 2) hx hb hts hiX5 hown hK hP 0 rfl rfl 1 (by decide) fl15 (fun _ h9 => h9) rfl dX5_byteAt_6 ?_
    refine lv_icmp_ge (tgt := 19) hx hb dX5_byteAt_9 (by decide) (fun c2 => ?_) (fun c2 => ?_)
    · replace h := if_t c2 h
      refine lv_iconst (v := (-1)) hx hb dX5_byteAt_19 (by decide) ?_
      refine lv_goto (tgt := 33) hx hb dX5_byteAt_20 (by decide) ?_
      simp only [Option.some.injEq] at h
      subst h
      exact hret _ _ _ _ hP hS rfl dX5_byteAt_33
    · replace h := if_f c2 h
      refine lv_iload_n hx hb dX5_byteAt_12 rfl (lv_at hl 1 rfl) ?_
      refine lv_sipush (v := 400) hx hb dX5_byteAt_13 (by decide) ?_
      refine lv_icmp_lt (tgt := 23) hx hb dX5_byteAt_16 (by decide) (fun c3 => ?_) (fun c3 => ?_)
      · replace h := if_t c3 h
        refine lv_aload_n hx hb dX5_byteAt_23 rfl (lv_at hl 0 rfl) ?_
        refine va_get (ci := 5) (v := .ref qt_bytes) (C := RX5) (T := TX5) (N := 2) hx hb hts hiX5 hown hK hP 0 rfl rfl 0 (by decide) fl9 (fun _ h9 => h9) rfl dX5_byteAt_24 ?_
        refine lv_iload_n hx hb dX5_byteAt_27 rfl (lv_at hl 1 rfl) ?_
        replace h := ck_el h
        obtain ⟨hi4, h⟩ := h
        refine va_bald hx hb hK hP 1 2 rfl rfl hi4 dX5_byteAt_28 ?_
        refine lv_sipush (v := 255) hx hb dX5_byteAt_29 (by decide) ?_
        refine lv_iand hx hb dX5_byteAt_32 ?_
        refine lv_topi (fun n5 en5 => ?_)
        replace h := lt_at en5 h
        simp only [Option.some.injEq] at h
        subst h
        exact hret _ _ _ _ hP hS rfl dX5_byteAt_33
      · replace h := if_f c3 h
        refine lv_iconst (v := (-1)) hx hb dX5_byteAt_19 (by decide) ?_
        refine lv_goto (tgt := 33) hx hb dX5_byteAt_20 (by decide) ?_
        simp only [Option.some.injEq] at h
        subst h
        exact hret _ _ _ _ hP hS rfl dX5_byteAt_33
theorem hdX5_byteAt : yX5_byteAt.cls = RX5 ∧ yX5_byteAt.cls ≠ "java/lang/invoke/MethodHandle" ∧ yX5_byteAt.cls ≠ "java/lang/invoke/VarHandle" ∧ (parseMethodDescriptor yX5_byteAt.desc).map (fun d => d.parameters.length) = some 1 := by decide +kernel

noncomputable def fX5_isLetter (N : Nat) (it_length : Int32) (ft_bytes : Nat → Int32) (x1 : Int32) : Option (Int32) := bd (fX5_byteAt N it_length ft_bytes x1) fun r1 => (if r1 < 97 then some 0 else bd (fX5_byteAt N it_length ft_bytes x1) fun r4 => (if 122 < r4 then some 0 else some 1))
set_option maxHeartbeats 4000000 in
set_option maxRecDepth 100000 in
theorem ctX5_isLetter (l : Launch) (D : va_G) (cI cZ cB cS : ClassId) (kK kV : Nat → Nat) (sz : Nat) (qt qt_bytes : Nat) (it_length : Int32) (ft_bytes : Nat → Int32) (x1 : Int32) (N : Nat) (r0 : Int32)  (h : fX5_isLetter N it_length ft_bytes x1 = some r0) : CtI l yX5_isLetter wsX5_isLetter { frames := 1, cells := 0, slots := 0, locals := 21 } D (TY cI cZ cB cS) kK kV [.ref qt, .int x1] [(qt, .inr (5, [.ref qt_bytes, .int it_length])), (qt_bytes, .inl (cB, 400, .inl ft_bytes))] [(qt, .inr (5, [.ref qt_bytes, .int it_length])), (qt_bytes, .inl (cB, 400, .inl ft_bytes))] sz r0 := by
  refine mkI (cc := cX5_isLetter) (maxL := 2) (rt := .boolean) (own := RX5) (by decide) rfl rfl (Nat.le_of_ble_eq_true rfl) ?_
  intro p e s m args below meth c A Z ls hx hb hml hown hts hK hN hX hP hD hA hS hret hl
  have hl : lv_has ls 2 [(0, .ref qt), (1, .int x1)] := hl
  unfold fX5_isLetter at h
  refine lv_aload_n hx hb dX5_isLetter_0 rfl (lv_at hl 0 rfl) ?_
  refine lv_iload_n hx hb dX5_isLetter_1 rfl (lv_at hl 1 rfl) ?_
  replace h := bd_el h
  obtain ⟨r1, hc2, h⟩ := h
  refine callVI (rest := []) ⟨hx, hb, hml, hown, hts⟩ (ctX5_byteAt l D cI cZ cB cS kK kV _ qt qt_bytes it_length ft_bytes x1 N r1 hc2) (cwV 1 hts gX5_isLetter_X5_byteAt rfl rfl rfl hdX5_byteAt ⟨Nat.le_of_ble_eq_true rfl, Nat.le_of_ble_eq_true rfl⟩) hK hN hX hP (dF hD rfl) hS hA [0, 1] (mcC rfl (mcC rfl mcN)) (by decide +kernel) [(qt, .inr (5, [.ref qt_bytes, .int it_length])), (qt_bytes, .inl (cB, 400, .inl ft_bytes))] [] (mcC rfl (mcC rfl mcN)) (mcN.trans mcN.symm) 2 rfl (by decide +kernel) (va_recv hK hP (ci := 5) (q0 := 0) rfl rfl) rfl hl.1 rfl (Nat.le_of_ble_eq_true rfl) ⟨Nat.zero_le _, Nat.zero_le _⟩ dX5_isLetter_2 (fun H locs hP hS => ?_)
  refine lv_bipush (v := 97) hx hb dX5_isLetter_5 (by decide) ?_
  refine lv_icmp_lt (tgt := 24) hx hb dX5_isLetter_7 (by decide) (fun c3 => ?_) (fun c3 => ?_)
  · replace h := if_t c3 h
    refine lv_iconst (v := 0) hx hb dX5_isLetter_24 (by decide) ?_
    simp only [Option.some.injEq] at h
    subst h
    exact hret _ _ _ _ hP hS rfl dX5_isLetter_25
  · replace h := if_f c3 h
    refine lv_aload_n hx hb dX5_isLetter_10 rfl (lv_at hl 0 rfl) ?_
    refine lv_iload_n hx hb dX5_isLetter_11 rfl (lv_at hl 1 rfl) ?_
    replace h := bd_el h
    obtain ⟨r4, hc5, h⟩ := h
    refine callVI (rest := []) ⟨hx, hb, hml, hown, hts⟩ (ctX5_byteAt l D cI cZ cB cS kK kV _ qt qt_bytes it_length ft_bytes x1 N r4 hc5) (cwV 1 hts gX5_isLetter_X5_byteAt rfl rfl rfl hdX5_byteAt ⟨Nat.le_of_ble_eq_true rfl, Nat.le_of_ble_eq_true rfl⟩) hK hN hX hP (dF hD rfl) hS hA [0, 1] (mcC rfl (mcC rfl mcN)) (by decide +kernel) [(qt, .inr (5, [.ref qt_bytes, .int it_length])), (qt_bytes, .inl (cB, 400, .inl ft_bytes))] [] (mcC rfl (mcC rfl mcN)) (mcN.trans mcN.symm) 2 rfl (by decide +kernel) (va_recv hK hP (ci := 5) (q0 := 0) rfl rfl) rfl hl.1 rfl (Nat.le_of_ble_eq_true rfl) ⟨Nat.zero_le _, Nat.zero_le _⟩ dX5_isLetter_12 (fun H locs hP hS => ?_)
    refine lv_bipush (v := 122) hx hb dX5_isLetter_15 (by decide) ?_
    refine lv_icmp_gt (tgt := 24) hx hb dX5_isLetter_17 (by decide) (fun c6 => ?_) (fun c6 => ?_)
    · replace h := if_t c6 h
      refine lv_iconst (v := 0) hx hb dX5_isLetter_24 (by decide) ?_
      simp only [Option.some.injEq] at h
      subst h
      exact hret _ _ _ _ hP hS rfl dX5_isLetter_25
    · replace h := if_f c6 h
      refine lv_iconst (v := 1) hx hb dX5_isLetter_20 (by decide) ?_
      refine lv_goto (tgt := 25) hx hb dX5_isLetter_21 (by decide) ?_
      simp only [Option.some.injEq] at h
      subst h
      exact hret _ _ _ _ hP hS rfl dX5_isLetter_25
theorem hdX5_isLetter : yX5_isLetter.cls = RX5 ∧ yX5_isLetter.cls ≠ "java/lang/invoke/MethodHandle" ∧ yX5_isLetter.cls ≠ "java/lang/invoke/VarHandle" ∧ (parseMethodDescriptor yX5_isLetter.desc).map (fun d => d.parameters.length) = some 1 := by decide +kernel

noncomputable def fX5_isFigure (N : Nat) (it_length : Int32) (ft_bytes : Nat → Int32) (x1 : Int32) : Option (Int32) := bd (fX5_byteAt N it_length ft_bytes x1) fun r1 => (if r1 < 48 then some 0 else bd (fX5_byteAt N it_length ft_bytes x1) fun r4 => (if 57 < r4 then some 0 else some 1))
set_option maxHeartbeats 4000000 in
set_option maxRecDepth 100000 in
theorem ctX5_isFigure (l : Launch) (D : va_G) (cI cZ cB cS : ClassId) (kK kV : Nat → Nat) (sz : Nat) (qt qt_bytes : Nat) (it_length : Int32) (ft_bytes : Nat → Int32) (x1 : Int32) (N : Nat) (r0 : Int32)  (h : fX5_isFigure N it_length ft_bytes x1 = some r0) : CtI l yX5_isFigure wsX5_isFigure { frames := 1, cells := 0, slots := 0, locals := 21 } D (TY cI cZ cB cS) kK kV [.ref qt, .int x1] [(qt, .inr (5, [.ref qt_bytes, .int it_length])), (qt_bytes, .inl (cB, 400, .inl ft_bytes))] [(qt, .inr (5, [.ref qt_bytes, .int it_length])), (qt_bytes, .inl (cB, 400, .inl ft_bytes))] sz r0 := by
  refine mkI (cc := cX5_isFigure) (maxL := 2) (rt := .boolean) (own := RX5) (by decide) rfl rfl (Nat.le_of_ble_eq_true rfl) ?_
  intro p e s m args below meth c A Z ls hx hb hml hown hts hK hN hX hP hD hA hS hret hl
  have hl : lv_has ls 2 [(0, .ref qt), (1, .int x1)] := hl
  unfold fX5_isFigure at h
  refine lv_aload_n hx hb dX5_isFigure_0 rfl (lv_at hl 0 rfl) ?_
  refine lv_iload_n hx hb dX5_isFigure_1 rfl (lv_at hl 1 rfl) ?_
  replace h := bd_el h
  obtain ⟨r1, hc2, h⟩ := h
  refine callVI (rest := []) ⟨hx, hb, hml, hown, hts⟩ (ctX5_byteAt l D cI cZ cB cS kK kV _ qt qt_bytes it_length ft_bytes x1 N r1 hc2) (cwV 1 hts gX5_isFigure_X5_byteAt rfl rfl rfl hdX5_byteAt ⟨Nat.le_of_ble_eq_true rfl, Nat.le_of_ble_eq_true rfl⟩) hK hN hX hP (dF hD rfl) hS hA [0, 1] (mcC rfl (mcC rfl mcN)) (by decide +kernel) [(qt, .inr (5, [.ref qt_bytes, .int it_length])), (qt_bytes, .inl (cB, 400, .inl ft_bytes))] [] (mcC rfl (mcC rfl mcN)) (mcN.trans mcN.symm) 2 rfl (by decide +kernel) (va_recv hK hP (ci := 5) (q0 := 0) rfl rfl) rfl hl.1 rfl (Nat.le_of_ble_eq_true rfl) ⟨Nat.zero_le _, Nat.zero_le _⟩ dX5_isFigure_2 (fun H locs hP hS => ?_)
  refine lv_bipush (v := 48) hx hb dX5_isFigure_5 (by decide) ?_
  refine lv_icmp_lt (tgt := 24) hx hb dX5_isFigure_7 (by decide) (fun c3 => ?_) (fun c3 => ?_)
  · replace h := if_t c3 h
    refine lv_iconst (v := 0) hx hb dX5_isFigure_24 (by decide) ?_
    simp only [Option.some.injEq] at h
    subst h
    exact hret _ _ _ _ hP hS rfl dX5_isFigure_25
  · replace h := if_f c3 h
    refine lv_aload_n hx hb dX5_isFigure_10 rfl (lv_at hl 0 rfl) ?_
    refine lv_iload_n hx hb dX5_isFigure_11 rfl (lv_at hl 1 rfl) ?_
    replace h := bd_el h
    obtain ⟨r4, hc5, h⟩ := h
    refine callVI (rest := []) ⟨hx, hb, hml, hown, hts⟩ (ctX5_byteAt l D cI cZ cB cS kK kV _ qt qt_bytes it_length ft_bytes x1 N r4 hc5) (cwV 1 hts gX5_isFigure_X5_byteAt rfl rfl rfl hdX5_byteAt ⟨Nat.le_of_ble_eq_true rfl, Nat.le_of_ble_eq_true rfl⟩) hK hN hX hP (dF hD rfl) hS hA [0, 1] (mcC rfl (mcC rfl mcN)) (by decide +kernel) [(qt, .inr (5, [.ref qt_bytes, .int it_length])), (qt_bytes, .inl (cB, 400, .inl ft_bytes))] [] (mcC rfl (mcC rfl mcN)) (mcN.trans mcN.symm) 2 rfl (by decide +kernel) (va_recv hK hP (ci := 5) (q0 := 0) rfl rfl) rfl hl.1 rfl (Nat.le_of_ble_eq_true rfl) ⟨Nat.zero_le _, Nat.zero_le _⟩ dX5_isFigure_12 (fun H locs hP hS => ?_)
    refine lv_bipush (v := 57) hx hb dX5_isFigure_15 (by decide) ?_
    refine lv_icmp_gt (tgt := 24) hx hb dX5_isFigure_17 (by decide) (fun c6 => ?_) (fun c6 => ?_)
    · replace h := if_t c6 h
      refine lv_iconst (v := 0) hx hb dX5_isFigure_24 (by decide) ?_
      simp only [Option.some.injEq] at h
      subst h
      exact hret _ _ _ _ hP hS rfl dX5_isFigure_25
    · replace h := if_f c6 h
      refine lv_iconst (v := 1) hx hb dX5_isFigure_20 (by decide) ?_
      refine lv_goto (tgt := 25) hx hb dX5_isFigure_21 (by decide) ?_
      simp only [Option.some.injEq] at h
      subst h
      exact hret _ _ _ _ hP hS rfl dX5_isFigure_25
theorem hdX5_isFigure : yX5_isFigure.cls = RX5 ∧ yX5_isFigure.cls ≠ "java/lang/invoke/MethodHandle" ∧ yX5_isFigure.cls ≠ "java/lang/invoke/VarHandle" ∧ (parseMethodDescriptor yX5_isFigure.desc).map (fun d => d.parameters.length) = some 1 := by decide +kernel

noncomputable def fX5_append (N : Nat) (it_length : Int32) (ft_bytes : Nat → Int32) (x1 : Int32) : Option (Int32 × (Nat → Int32)) := (if 400 ≤ it_length then some (it_length, ft_bytes) else lt ((Int32.toInt8 x1).toInt32) fun n2 => ck it_length 400 (lt (it_length + 1) fun n4 => some (n4, upd ft_bytes (Int32.toNatClampNeg it_length) ((vp_nar .byte n2)))))
set_option maxHeartbeats 4000000 in
set_option maxRecDepth 100000 in
theorem ctX5_append (l : Launch) (D : va_G) (cI cZ cB cS : ClassId) (kK kV : Nat → Nat) (sz : Nat) (qt qt_bytes : Nat) (it_length : Int32) (ft_bytes : Nat → Int32) (x1 : Int32) (N : Nat) (w_it_length : Int32) (w_ft_bytes : Nat → Int32) (h : fX5_append N it_length ft_bytes x1 = some (w_it_length, w_ft_bytes)) : CtV l yX5_append wsX5_append { frames := 0, cells := 0, slots := 0, locals := 0 } D (TY cI cZ cB cS) kK kV [.ref qt, .int x1] [(qt, .inr (5, [.ref qt_bytes, .int it_length])), (qt_bytes, .inl (cB, 400, .inl ft_bytes))] [(qt, .inr (5, [.ref qt_bytes, .int w_it_length])), (qt_bytes, .inl (cB, 400, .inl w_ft_bytes))] sz := by
  refine mkV (cc := cX5_append) (maxL := 2) (own := RX5) (by decide) rfl rfl (Nat.le_of_ble_eq_true rfl) ?_
  intro p e s m args below meth c A Z ls hx hb hml hown hts hK hN hX hP hD hA hS hret hl
  have hl : lv_has ls 2 [(0, .ref qt), (1, .int x1)] := hl
  have fl15 : (Cond.fieldLink RX5 15 "SoupWall$Text" "length" "I").before args s = true := hts _ (List.mem_of_getElem? (l := wsX5_append) (i := 1) rfl)
  have hiX5 : ∀ w ∈ wsX50, w ∈ wsX5_append := fun w h => List.mem_cons_of_mem _ (List.mem_append_right _ h)
  have fl9 : (Cond.fieldLink RX5 9 "SoupWall$Text" "bytes" "[B").before args s = true := hts _ (List.mem_of_getElem? (l := wsX5_append) (i := 2) rfl)
  unfold fX5_append at h
  refine lv_aload_n hx hb dX5_append_0 rfl (lv_at hl 0 rfl) ?_
  refine va_get (ci := 5) (v := .int it_length) (C := RX5) (T := TX5) (N := 2) hx hb hts hiX5 hown hK hP 0 rfl rfl 1 (by decide) fl15 (fun _ h9 => h9) rfl dX5_append_1 ?_
  refine lv_sipush (v := 400) hx hb dX5_append_4 (by decide) ?_
  refine lv_icmp_ge (tgt := 31) hx hb dX5_append_7 (by decide) (fun c1 => ?_) (fun c1 => ?_)
  · replace h := if_t c1 h
    simp only [Option.some.injEq, Prod.mk.injEq] at h
    obtain ⟨rfl, rfl⟩ := h
    exact hret _ _ _ _ hP hS dX5_append_31
  · replace h := if_f c1 h
    refine lv_aload_n hx hb dX5_append_10 rfl (lv_at hl 0 rfl) ?_
    refine va_get (ci := 5) (v := .ref qt_bytes) (C := RX5) (T := TX5) (N := 2) hx hb hts hiX5 hown hK hP 0 rfl rfl 0 (by decide) fl9 (fun _ h9 => h9) rfl dX5_append_11 ?_
    refine lv_aload_n hx hb dX5_append_14 rfl (lv_at hl 0 rfl) ?_
    refine va_get (ci := 5) (v := .int it_length) (C := RX5) (T := TX5) (N := 2) hx hb hts hiX5 hown hK hP 0 rfl rfl 1 (by decide) fl15 (fun _ h9 => h9) rfl dX5_append_15 ?_
    refine lv_iload_n hx hb dX5_append_18 rfl (lv_at hl 1 rfl) ?_
    refine lv_i2b (v := (Int32.toInt8 x1).toInt32) hx hb dX5_append_19 rfl ?_
    refine lv_topi (fun n2 en2 => ?_)
    replace h := lt_at en2 h
    replace h := ck_el h
    obtain ⟨hi3, h⟩ := h
    refine va_bast hx hb hK hP (dF hD rfl) hS 1 2 rfl rfl hi3 dX5_append_20 (fun H locs hP _ hS => ?_)
    replace hP : va_P D vwCl [(qt, .inr (5, [.ref qt_bytes, .int it_length])), (qt_bytes, .inl (cB, 400, .inl (upd ft_bytes (Int32.toNatClampNeg it_length) ((vp_nar .byte n2)))))] H := hP
    refine lv_aload_n hx hb dX5_append_21 rfl (lv_at hl 0 rfl) ?_
    refine lv_dup hx hb dX5_append_22 rfl ?_
    refine va_get (ci := 5) (v := .int it_length) (C := RX5) (T := TX5) (N := 2) hx hb hts hiX5 hown hK hP 0 rfl rfl 1 (by decide) fl15 (fun _ h9 => h9) rfl dX5_append_23 ?_
    refine lv_iconst (v := 1) hx hb dX5_append_26 (by decide) ?_
    refine lv_iadd hx hb dX5_append_27 ?_
    refine lv_topi (fun n4 en4 => ?_)
    replace h := lt_at en4 h
    refine va_put (ci := 5) (v := .int n4) (ty := .int) (C := RX5) (T := TX5) (N := 2) hx hb hts hiX5 tyX5 tyX5_ok nmX5 hown hK hP (dF hD rfl) hS 0 rfl rfl 1 (by decide) fl15 (fun _ h9 => h9) rfl (by decide +kernel) rfl rfl (Nat.le_of_ble_eq_true rfl) dX5_append_28 (fun H locs hP _ hS => ?_)
    replace hP : va_P D vwCl [(qt, .inr (5, [.ref qt_bytes, .int n4])), (qt_bytes, .inl (cB, 400, .inl (upd ft_bytes (Int32.toNatClampNeg it_length) ((vp_nar .byte n2)))))] H := hP
    simp only [Option.some.injEq, Prod.mk.injEq] at h
    obtain ⟨rfl, rfl⟩ := h
    exact hret _ _ _ _ hP hS dX5_append_31
theorem hdX5_append : yX5_append.cls = RX5 ∧ yX5_append.cls ≠ "java/lang/invoke/MethodHandle" ∧ yX5_append.cls ≠ "java/lang/invoke/VarHandle" ∧ (parseMethodDescriptor yX5_append.desc).map (fun d => d.parameters.length) = some 1 := by decide +kernel
