noncomputable def fJ6_bitCount_0f7a4 (N : Nat) (x0 : Int32) : Option (Int32) := lt (x0 - ((((x0).toUInt32 >>> (Int32.toUInt32 1 &&& Int32.toUInt32 31)).toInt32) &&& 1431655765)) fun n1 => lt ((n1 &&& 858993459) + ((((n1).toUInt32 >>> (Int32.toUInt32 2 &&& Int32.toUInt32 31)).toInt32) &&& 858993459)) fun n2 => lt ((n2 + (((n2).toUInt32 >>> (Int32.toUInt32 4 &&& Int32.toUInt32 31)).toInt32)) &&& 252645135) fun n3 => lt (n3 + (((n3).toUInt32 >>> (Int32.toUInt32 8 &&& Int32.toUInt32 31)).toInt32)) fun n4 => lt (n4 + (((n4).toUInt32 >>> (Int32.toUInt32 16 &&& Int32.toUInt32 31)).toInt32)) fun n5 => lt (n5 &&& 63) fun n6 => some n6
set_option maxHeartbeats 4000000 in
set_option maxRecDepth 100000 in
theorem ctJ6_bitCount_0f7a4 (l : Launch) (D : va_G) (cI cZ cB cS : ClassId) (kK kV : Nat → Nat) (sz : Nat)  (x0 : Int32) (N : Nat) (r0 : Int32)  (h : fJ6_bitCount_0f7a4 N x0 = some r0) : CtI l yJ6_bitCount_0f7a4 wsJ6_bitCount_0f7a4 { frames := 0, cells := 0, slots := 0, locals := 0 } D (TY cI cZ cB cS) kK kV [.int x0] [] [] sz r0 := by
  refine mkI (cc := cJ6_bitCount_0f7a4) (maxL := 1) (rt := .int) (own := RJ6) (by decide) rfl rfl (Nat.le_of_ble_eq_true rfl) ?_
  intro p e s m args below meth c A Z ls hx hb hml hown hts hK hN hX hP hD hA hS hret hl
  have hl : lv_has ls 1 [(0, .int x0)] := hl
  have cn265 : (Cond.constant RJ6 265 (1431655765)).before args s = true := hts _ (List.mem_of_getElem? (l := wsJ6_bitCount_0f7a4) (i := 1) rfl)
  have cn266 : (Cond.constant RJ6 266 (858993459)).before args s = true := hts _ (List.mem_of_getElem? (l := wsJ6_bitCount_0f7a4) (i := 2) rfl)
  have cn267 : (Cond.constant RJ6 267 (252645135)).before args s = true := hts _ (List.mem_of_getElem? (l := wsJ6_bitCount_0f7a4) (i := 3) rfl)
  unfold fJ6_bitCount_0f7a4 at h
  refine lv_iload_n hx hb dJ6_bitCount_0f7a4_0 rfl (lv_at hl 0 rfl) ?_
  refine lv_iload_n hx hb dJ6_bitCount_0f7a4_1 rfl (lv_at hl 0 rfl) ?_
  refine lv_iconst (v := 1) hx hb dJ6_bitCount_0f7a4_2 (by decide) ?_
  refine lv_iushr (v := ((x0).toUInt32 >>> (Int32.toUInt32 1 &&& Int32.toUInt32 31)).toInt32) hx hb dJ6_bitCount_0f7a4_3 rfl ?_
  refine lv_ldcw (v := 1431655765) hx hb hown cn265 dJ6_bitCount_0f7a4_4 ?_
  refine lv_iand hx hb dJ6_bitCount_0f7a4_7 ?_
  refine lv_isub hx hb dJ6_bitCount_0f7a4_8 ?_
  refine lv_topi (fun n1 en1 => ?_)
  replace h := lt_at en1 h
  refine lv_istore_n (lv' := [(0, .int n1)]) hx hb dJ6_bitCount_0f7a4_9 rfl hl (by decide) rfl (fun ls hl => ?_)
  refine lv_iload_n hx hb dJ6_bitCount_0f7a4_10 rfl (lv_at hl 0 rfl) ?_
  refine lv_ldcw (v := 858993459) hx hb hown cn266 dJ6_bitCount_0f7a4_11 ?_
  refine lv_iand hx hb dJ6_bitCount_0f7a4_14 ?_
  refine lv_iload_n hx hb dJ6_bitCount_0f7a4_15 rfl (lv_at hl 0 rfl) ?_
  refine lv_iconst (v := 2) hx hb dJ6_bitCount_0f7a4_16 (by decide) ?_
  refine lv_iushr (v := ((n1).toUInt32 >>> (Int32.toUInt32 2 &&& Int32.toUInt32 31)).toInt32) hx hb dJ6_bitCount_0f7a4_17 rfl ?_
  refine lv_ldcw (v := 858993459) hx hb hown cn266 dJ6_bitCount_0f7a4_18 ?_
  refine lv_iand hx hb dJ6_bitCount_0f7a4_21 ?_
  refine lv_iadd hx hb dJ6_bitCount_0f7a4_22 ?_
  refine lv_topi (fun n2 en2 => ?_)
  replace h := lt_at en2 h
  refine lv_istore_n (lv' := [(0, .int n2)]) hx hb dJ6_bitCount_0f7a4_23 rfl hl (by decide) rfl (fun ls hl => ?_)
  refine lv_iload_n hx hb dJ6_bitCount_0f7a4_24 rfl (lv_at hl 0 rfl) ?_
  refine lv_iload_n hx hb dJ6_bitCount_0f7a4_25 rfl (lv_at hl 0 rfl) ?_
  refine lv_iconst (v := 4) hx hb dJ6_bitCount_0f7a4_26 (by decide) ?_
  refine lv_iushr (v := ((n2).toUInt32 >>> (Int32.toUInt32 4 &&& Int32.toUInt32 31)).toInt32) hx hb dJ6_bitCount_0f7a4_27 rfl ?_
  refine lv_iadd hx hb dJ6_bitCount_0f7a4_28 ?_
  refine lv_ldcw (v := 252645135) hx hb hown cn267 dJ6_bitCount_0f7a4_29 ?_
  refine lv_iand hx hb dJ6_bitCount_0f7a4_32 ?_
  refine lv_topi (fun n3 en3 => ?_)
  replace h := lt_at en3 h
  refine lv_istore_n (lv' := [(0, .int n3)]) hx hb dJ6_bitCount_0f7a4_33 rfl hl (by decide) rfl (fun ls hl => ?_)
  refine lv_iload_n hx hb dJ6_bitCount_0f7a4_34 rfl (lv_at hl 0 rfl) ?_
  refine lv_iload_n hx hb dJ6_bitCount_0f7a4_35 rfl (lv_at hl 0 rfl) ?_
  refine lv_bipush (v := 8) hx hb dJ6_bitCount_0f7a4_36 (by decide) ?_
  refine lv_iushr (v := ((n3).toUInt32 >>> (Int32.toUInt32 8 &&& Int32.toUInt32 31)).toInt32) hx hb dJ6_bitCount_0f7a4_38 rfl ?_
  refine lv_iadd hx hb dJ6_bitCount_0f7a4_39 ?_
  refine lv_topi (fun n4 en4 => ?_)
  replace h := lt_at en4 h
  refine lv_istore_n (lv' := [(0, .int n4)]) hx hb dJ6_bitCount_0f7a4_40 rfl hl (by decide) rfl (fun ls hl => ?_)
  refine lv_iload_n hx hb dJ6_bitCount_0f7a4_41 rfl (lv_at hl 0 rfl) ?_
  refine lv_iload_n hx hb dJ6_bitCount_0f7a4_42 rfl (lv_at hl 0 rfl) ?_
  refine lv_bipush (v := 16) hx hb dJ6_bitCount_0f7a4_43 (by decide) ?_
  refine lv_iushr (v := ((n4).toUInt32 >>> (Int32.toUInt32 16 &&& Int32.toUInt32 31)).toInt32) hx hb dJ6_bitCount_0f7a4_45 rfl ?_
  refine lv_iadd hx hb dJ6_bitCount_0f7a4_46 ?_
  refine lv_topi (fun n5 en5 => ?_)
  replace h := lt_at en5 h
  refine lv_istore_n (lv' := [(0, .int n5)]) hx hb dJ6_bitCount_0f7a4_47 rfl hl (by decide) rfl (fun ls hl => ?_)
  refine lv_iload_n hx hb dJ6_bitCount_0f7a4_48 rfl (lv_at hl 0 rfl) ?_
  refine lv_bipush (v := 63) hx hb dJ6_bitCount_0f7a4_49 (by decide) ?_
  refine lv_iand hx hb dJ6_bitCount_0f7a4_51 ?_
  refine lv_topi (fun n6 en6 => ?_)
  replace h := lt_at en6 h
  simp only [Option.some.injEq] at h
  subst h
  exact hret _ _ _ _ hP hS rfl dJ6_bitCount_0f7a4_52
theorem hdJ6_bitCount_0f7a4 : yJ6_bitCount_0f7a4.cls ≠ "java/lang/invoke/MethodHandle" ∧ yJ6_bitCount_0f7a4.cls ≠ "java/lang/invoke/VarHandle" ∧ (parseMethodDescriptor yJ6_bitCount_0f7a4.desc).map (fun d => d.parameters.length) = some 1 := by decide +kernel
