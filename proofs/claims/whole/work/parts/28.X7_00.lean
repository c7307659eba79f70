noncomputable def fX7_feed_L37 (N : Nat) : Nat → Int64 → Int32 → Int32 → (Nat → Int32) → Option (Int32 × (Nat → Int32))
  | 0, _, _, _, _ => none
  | k + 1, x2, x4, it_text_length, ft_text_bytes => (if x4 < 0 then some (it_text_length, ft_text_bytes) else bd (fX5_append N it_text_length ft_text_bytes ((Int64.toInt32 (x2 >>> (Int32.toInt64 (8 * x4) &&& 63))) &&& 255)) fun (g2, g3) => lt (x4 + (-1)) fun n5 => fX7_feed_L37 N k x2 n5 g2 g3)
theorem fX7_feed_L37_s (N : Nat) (k : Nat) (x2 : Int64) (x4 : Int32) (it_text_length : Int32) (ft_text_bytes : Nat → Int32) : fX7_feed_L37 N (k + 1) x2 x4 it_text_length ft_text_bytes = ((if x4 < 0 then some (it_text_length, ft_text_bytes) else bd (fX5_append N it_text_length ft_text_bytes ((Int64.toInt32 (x2 >>> (Int32.toInt64 (8 * x4) &&& 63))) &&& 255)) fun (g2, g3) => lt (x4 + (-1)) fun n5 => fX7_feed_L37 N k x2 n5 g2 g3)) := rfl
noncomputable def fX7_feed (N : Nat) (it_text_length : Int32) (ft_text_bytes : Nat → Int32) (x1 : Int32) (x2 : Int64) : Option (Int32 × Int32 × (Nat → Int32)) := (if x1 < 1 then some ((-1000000002), it_text_length, ft_text_bytes) else (if x1 ≤ 8 then (if (it_text_length + x1) ≤ 400 then lt (x1 - 1) fun n9 => bd (fX7_feed_L37 N N x2 n9 it_text_length ft_text_bytes) fun (g11, g12) => some (g11, g11, g12) else some ((-1000000004), it_text_length, ft_text_bytes)) else some ((-1000000002), it_text_length, ft_text_bytes)))
set_option maxHeartbeats 4000000 in
set_option maxRecDepth 100000 in
theorem ctX7_feed (l : Launch) (D : va_G) (cI cZ cB cS : ClassId) (kK kV : Nat → Nat) (sz : Nat) (qt qt_text qt_reader qt_images qt_kept qt_buyers qt_tries qt_trial qt_row qt_plan qt_now qt_text_bytes : Nat) (it_faultAt : Int32) (it_text_length : Int32) (ft_text_bytes : Nat → Int32) (x1 : Int32) (x2 : Int64) (N : Nat) (r0 : Int32) (w_it_text_length : Int32) (w_ft_text_bytes : Nat → Int32) (h : fX7_feed N it_text_length ft_text_bytes x1 x2 = some (r0, w_it_text_length, w_ft_text_bytes)) : CtI l yX7_feed wsX7_feed { frames := 1, cells := 0, slots := 0, locals := 21 } D (TY cI cZ cB cS) kK kV [.ref qt, .int x1, .long x2] [(qt, .inr (7, [.ref qt_text, .ref qt_reader, .ref qt_images, .ref qt_kept, .ref qt_buyers, .ref qt_tries, .ref qt_trial, .ref qt_row, .ref qt_plan, .ref qt_now, .int it_faultAt])), (qt_text, .inr (5, [.ref qt_text_bytes, .int it_text_length])), (qt_text_bytes, .inl (cB, 400, .inl ft_text_bytes))] [(qt, .inr (7, [.ref qt_text, .ref qt_reader, .ref qt_images, .ref qt_kept, .ref qt_buyers, .ref qt_tries, .ref qt_trial, .ref qt_row, .ref qt_plan, .ref qt_now, .int it_faultAt])), (qt_text, .inr (5, [.ref qt_text_bytes, .int w_it_text_length])), (qt_text_bytes, .inl (cB, 400, .inl w_ft_text_bytes))] sz r0 := by
  refine mkI (cc := cX7_feed) (maxL := 5) (rt := .int) (own := RX7) (by decide) rfl rfl (Nat.le_of_ble_eq_true rfl) ?_
  intro p e s m args below meth c A Z ls hx hb hml hown hts hK hN hX hP hD hA hS hret hl
  have hl : lv_has ls 5 [(0, .ref qt), (1, .int x1), (2, .long x2)] := hl
  have fl10 : (Cond.fieldLink RX7 10 "SoupWall" "text" "LSoupWall$Text;").before args s = true := hts _ (List.mem_of_getElem? (l := wsX7_feed) (i := 2) rfl)
  have hiX7 : ∀ w ∈ wsX70, w ∈ wsX7_feed := fun w h => List.mem_cons_of_mem _ (List.mem_append_left _ (List.mem_append_right _ h))
  have cn75 : (Cond.constant RX7 75 (-1000000002)).before args s = true := hts _ (List.mem_of_getElem? (l := wsX7_feed) (i := 1) rfl)
  have fl76 : (Cond.fieldLinkNest "SoupWall" 76 "SoupWall$Text" "length" "I" "SoupWall").before args s = true := hN.f 0 rfl
  have hiX5 : ∀ w ∈ wsX50, w ∈ wsX7_feed := fun w h => List.mem_cons_of_mem _ (List.mem_append_right _ h)
  have cn79 : (Cond.constant RX7 79 (-1000000004)).before args s = true := hts _ (List.mem_of_getElem? (l := wsX7_feed) (i := 3) rfl)
  have lp37 : ∀ (k : Nat) (x2 : Int64) (x4 : Int32) (it_text_length : Int32) (ft_text_bytes : Nat → Int32) (H : Heap) (locs : List Loc) (ls : Array Slot) (o : Int32 × (Nat → Int32)), fX7_feed_L37 N k x2 x4 it_text_length ft_text_bytes = some o → va_P D vwCl [(qt, .inr (7, [.ref qt_text, .ref qt_reader, .ref qt_images, .ref qt_kept, .ref qt_buyers, .ref qt_tries, .ref qt_trial, .ref qt_row, .ref qt_plan, .ref qt_now, .int it_faultAt])), (qt_text, .inr (5, [.ref qt_text_bytes, .int it_text_length])), (qt_text_bytes, .inl (cB, 400, .inl ft_text_bytes))] H → va_S A s.heap H locs → lv_has ls 5 [(0, .ref qt), (2, .long x2), (4, .int x4)] → (∀ (e_it_text_length : Int32) (e_ft_text_bytes : Nat → Int32), (e_it_text_length, e_ft_text_bytes) = o → ∀ (H : Heap) (locs : List Loc) (ls : Array Slot), va_P D vwCl [(qt, .inr (7, [.ref qt_text, .ref qt_reader, .ref qt_images, .ref qt_kept, .ref qt_buyers, .ref qt_tries, .ref qt_trial, .ref qt_row, .ref qt_plan, .ref qt_now, .int it_faultAt])), (qt_text, .inr (5, [.ref qt_text_bytes, .int e_it_text_length])), (qt_text_bytes, .inl (cB, 400, .inl e_ft_text_bytes))] H → va_S A s.heap H locs → lv_has ls 5 [(0, .ref qt)] → W p l e ({ frames := 1, cells := 0, slots := 0, locals := 21 } : Room) s m args below meth c H locs 0 0 Z (F0 m 67 ls [])) → W p l e ({ frames := 1, cells := 0, slots := 0, locals := 21 } : Room) s m args below meth c H locs 0 0 Z (F0 m 37 ls []) := by
    intro k
    induction k with
    | zero =>
      intro x2 x4 it_text_length ft_text_bytes H locs ls o h
      exact nomatch (show (none : Option (Int32 × (Nat → Int32))) = some o from h)
    | succ k ih =>
      intro x2 x4 it_text_length ft_text_bytes H locs ls o h hP hS hl K
      rw [fX7_feed_L37_s] at h
      refine lv_iload hx hb dX7_feed_37 (lv_at hl 2 rfl) ?_
      refine lv_if_lt (tgt := 67) hx hb dX7_feed_39 (by decide) (fun c1 => ?_) (fun c1 => ?_)
      · replace h := if_t c1 h
        exact K it_text_length ft_text_bytes (Option.some.inj h) _ _ _ hP hS (lv_sub hl [0] rfl)
      · replace h := if_f c1 h
        refine lv_aload_n hx hb dX7_feed_42 rfl (lv_at hl 0 rfl) ?_
        refine va_get (ci := 7) (v := .ref qt_text) (C := RX7) (T := TX7) (N := 11) hx hb hts hiX7 hown hK hP 0 rfl rfl 0 (by decide) fl10 (fun _ h9 => h9) rfl dX7_feed_43 ?_
        refine lv_lload_n hx hb dX7_feed_46 rfl (lv_at hl 1 rfl) ?_
        refine lv_bipush (v := 8) hx hb dX7_feed_47 (by decide) ?_
        refine lv_iload hx hb dX7_feed_49 (lv_at hl 2 rfl) ?_
        refine lv_imul hx hb dX7_feed_51 ?_
        refine lv_lshr (v := x2 >>> (Int32.toInt64 (8 * x4) &&& 63)) hx hb dX7_feed_52 rfl ?_
        refine lv_l2i (v := Int64.toInt32 (x2 >>> (Int32.toInt64 (8 * x4) &&& 63))) hx hb dX7_feed_53 rfl ?_
        refine lv_sipush (v := 255) hx hb dX7_feed_54 (by decide) ?_
        refine lv_iand hx hb dX7_feed_57 ?_
        replace h := bd_el h
        obtain ⟨⟨g2, g3⟩, hc4, h⟩ := h
        refine callVV (rest := []) ⟨hx, hb, hml, hown, hts⟩ (ctX5_append l D cI cZ cB cS kK kV _ qt_text qt_text_bytes it_text_length ft_text_bytes ((Int64.toInt32 (x2 >>> (Int32.toInt64 (8 * x4) &&& 63))) &&& 255) N g2 g3 hc4) (cwV 1 hts gX7_feed_X5_append rfl rfl rfl hdX5_append ⟨Nat.le_of_ble_eq_true rfl, Nat.le_of_ble_eq_true rfl⟩) hK hN hX hP (dF hD rfl) hS hA [1, 2] (mcC rfl (mcC rfl mcN)) (by decide +kernel) [(qt, .inr (7, [.ref qt_text, .ref qt_reader, .ref qt_images, .ref qt_kept, .ref qt_buyers, .ref qt_tries, .ref qt_trial, .ref qt_row, .ref qt_plan, .ref qt_now, .int it_faultAt])), (qt_text, .inr (5, [.ref qt_text_bytes, .int g2])), (qt_text_bytes, .inl (cB, 400, .inl g3))] [0] (mcC rfl (mcC rfl mcN)) ((mcC rfl mcN).trans (mcC rfl mcN).symm) 3 rfl (by decide +kernel) (va_recv hK hP (ci := 5) (q0 := 1) rfl rfl) rfl hl.1 rfl (Nat.le_of_ble_eq_true rfl) ⟨Nat.zero_le _, Nat.zero_le _⟩ dX7_feed_58 (fun H locs hP hS => ?_)
        obtain ⟨n5, en5⟩ : ∃ z : Int32, z = x4 + (-1) := ⟨_, rfl⟩
        replace h := lt_at en5 h
        refine lv_iinc (v := n5) (lv' := [(4, .int n5), (0, .ref qt), (2, .long x2)]) hx hb dX7_feed_61 hl (k := 2) rfl (by rw [en5]; rfl) (by decide) rfl (fun ls hl => ?_)
        refine lv_goto (tgt := 37) hx hb dX7_feed_64 (by decide) ?_
        exact ih x2 n5 g2 g3 _ _ _ o h hP hS (lv_sub hl [1, 2, 0] rfl) K
  unfold fX7_feed at h
  refine lv_iload_n hx hb dX7_feed_0 rfl (lv_at hl 1 rfl) ?_
  refine lv_iconst (v := 1) hx hb dX7_feed_1 (by decide) ?_
  refine lv_icmp_lt (tgt := 11) hx hb dX7_feed_2 (by decide) (fun c6 => ?_) (fun c6 => ?_)
  · replace h := if_t c6 h
    refine lv_ldc (v := (-1000000002)) hx hb hown cn75 dX7_feed_11 ?_
    simp only [Option.some.injEq, Prod.mk.injEq] at h
    obtain ⟨rfl, rfl, rfl⟩ := h
    exact hret _ _ _ _ hP hS rfl dX7_feed_13
  · replace h := if_f c6 h
    refine lv_iload_n hx hb dX7_feed_5 rfl (lv_at hl 1 rfl) ?_
    refine lv_bipush (v := 8) hx hb dX7_feed_6 (by decide) ?_
    refine lv_icmp_le (tgt := 14) hx hb dX7_feed_8 (by decide) (fun c7 => ?_) (fun c7 => ?_)
    · replace h := if_t c7 h
      refine lv_aload_n hx hb dX7_feed_14 rfl (lv_at hl 0 rfl) ?_
      refine va_get (ci := 7) (v := .ref qt_text) (C := RX7) (T := TX7) (N := 11) hx hb hts hiX7 hown hK hP 0 rfl rfl 0 (by decide) fl10 (fun _ h9 => h9) rfl dX7_feed_15 ?_
      refine va_getN (ci := 5) (v := .int it_text_length) (C := RX5) (T := TX5) (N := 2) hx hb hts hiX5 hown hK hP 1 rfl rfl 1 (by decide) fl76 (fun _ h9 => h9) rfl dX7_feed_18 ?_
      refine lv_iload_n hx hb dX7_feed_21 rfl (lv_at hl 1 rfl) ?_
      refine lv_iadd hx hb dX7_feed_22 ?_
      refine lv_sipush (v := 400) hx hb dX7_feed_23 (by decide) ?_
      refine lv_icmp_le (tgt := 32) hx hb dX7_feed_26 (by decide) (fun c8 => ?_) (fun c8 => ?_)
      · replace h := if_t c8 h
        refine lv_iload_n hx hb dX7_feed_32 rfl (lv_at hl 1 rfl) ?_
        refine lv_iconst (v := 1) hx hb dX7_feed_33 (by decide) ?_
        refine lv_isub hx hb dX7_feed_34 ?_
        refine lv_topi (fun n9 en9 => ?_)
        replace h := lt_at en9 h
        refine lv_istore (lv' := [(4, .int n9), (0, .ref qt), (1, .int x1), (2, .long x2)]) hx hb dX7_feed_35 hl (by decide) rfl (fun ls hl => ?_)
        replace h := bd_el h
        obtain ⟨o10, ho10, h⟩ := h
        refine lp37 N x2 n9 it_text_length ft_text_bytes _ _ _ o10 ho10 hP hS (lv_sub hl [1, 3, 0] rfl) (fun g11 g12 eo H locs ls hP hS hl => ?_)
        subst eo
        refine lv_aload_n hx hb dX7_feed_67 rfl (lv_at hl 0 rfl) ?_
        refine va_get (ci := 7) (v := .ref qt_text) (C := RX7) (T := TX7) (N := 11) hx hb hts hiX7 hown hK hP 0 rfl rfl 0 (by decide) fl10 (fun _ h9 => h9) rfl dX7_feed_68 ?_
        refine va_getN (ci := 5) (v := .int g11) (C := RX5) (T := TX5) (N := 2) hx hb hts hiX5 hown hK hP 1 rfl rfl 1 (by decide) fl76 (fun _ h9 => h9) rfl dX7_feed_71 ?_
        simp only [Option.some.injEq, Prod.mk.injEq] at h
        obtain ⟨rfl, rfl, rfl⟩ := h
        exact hret _ _ _ _ hP hS rfl dX7_feed_74
      · replace h := if_f c8 h
        refine lv_ldc (v := (-1000000004)) hx hb hown cn79 dX7_feed_29 ?_
        simp only [Option.some.injEq, Prod.mk.injEq] at h
        obtain ⟨rfl, rfl, rfl⟩ := h
        exact hret _ _ _ _ hP hS rfl dX7_feed_31
    · replace h := if_f c7 h
      refine lv_ldc (v := (-1000000002)) hx hb hown cn75 dX7_feed_11 ?_
      simp only [Option.some.injEq, Prod.mk.injEq] at h
      obtain ⟨rfl, rfl, rfl⟩ := h
      exact hret _ _ _ _ hP hS rfl dX7_feed_13
theorem hdX7_feed : yX7_feed.cls = RX7 ∧ yX7_feed.cls ≠ "java/lang/invoke/MethodHandle" ∧ yX7_feed.cls ≠ "java/lang/invoke/VarHandle" ∧ (parseMethodDescriptor yX7_feed.desc).map (fun d => d.parameters.length) = some 2 := by decide +kernel

noncomputable def fX7_takeOverWhatWasRead (N : Nat)  : Option (Unit) := some ()
set_option maxHeartbeats 4000000 in
set_option maxRecDepth 100000 in
theorem ctX7_takeOverWhatWasRead (l : Launch) (D : va_G) (cI cZ cB cS : ClassId) (kK kV : Nat → Nat) (sz : Nat) (qt qt_text qt_reader qt_images qt_kept qt_buyers qt_tries qt_trial qt_row qt_plan qt_now qt_reader_plan qt_reader_start : Nat) (it_faultAt : Int32) (it_reader_at : Int32) (it_reader_tokenAt : Int32) (it_reader_fault : Int32) (it_reader_faultAt : Int32)  (N : Nat)  (h : fX7_takeOverWhatWasRead N  = some ()) : CtV l yX7_takeOverWhatWasRead wsX7_takeOverWhatWasRead { frames := 0, cells := 0, slots := 0, locals := 0 } D (TY cI cZ cB cS) kK kV [.ref qt] [(qt, .inr (7, [.ref qt_text, .ref qt_reader, .ref qt_images, .ref qt_kept, .ref qt_buyers, .ref qt_tries, .ref qt_trial, .ref qt_row, .ref qt_plan, .ref qt_now, .int it_faultAt])), (qt_reader, .inr (2, [.ref qt_text, .ref qt_reader_plan, .ref qt_reader_start, .int it_reader_at, .int it_reader_tokenAt, .int it_reader_fault, .int it_reader_faultAt]))] [(qt, .inr (7, [.ref qt_text, .ref qt_reader, .ref qt_images, .ref qt_kept, .ref qt_buyers, .ref qt_tries, .ref qt_trial, .ref qt_row, .ref qt_reader_plan, .ref qt_reader_start, .int it_faultAt])), (qt_reader, .inr (2, [.ref qt_text, .ref qt_plan, .ref qt_now, .int it_reader_at, .int it_reader_tokenAt, .int it_reader_fault, .int it_reader_faultAt]))] sz := by
  refine mkV (cc := cX7_takeOverWhatWasRead) (maxL := 3) (own := RX7) (by decide) rfl rfl (Nat.le_of_ble_eq_true rfl) ?_
  intro p e s m args below meth c A Z ls hx hb hml hown hts hK hN hX hP hD hA hS hret hl
  have hl : lv_has ls 3 [(0, .ref qt)] := hl
  have fl64 : (Cond.fieldLink RX7 64 "SoupWall" "plan" "LSoupWall$Plan;").before args s = true := hts _ (List.mem_of_getElem? (l := wsX7_takeOverWhatWasRead) (i := 1) rfl)
  have hiX7 : ∀ w ∈ wsX70, w ∈ wsX7_takeOverWhatWasRead := fun w h => List.mem_cons_of_mem _ (List.mem_append_left _ (List.mem_append_right _ h))
  have fl68 : (Cond.fieldLink RX7 68 "SoupWall" "now" "LSoupWall$State;").before args s = true := hts _ (List.mem_of_getElem? (l := wsX7_takeOverWhatWasRead) (i := 2) rfl)
  have fl21 : (Cond.fieldLink RX7 21 "SoupWall" "reader" "LSoupWall$Reader;").before args s = true := hts _ (List.mem_of_getElem? (l := wsX7_takeOverWhatWasRead) (i := 3) rfl)
  have fl107 : (Cond.fieldLinkNest "SoupWall" 107 "SoupWall$Reader" "plan" "LSoupWall$Plan;" "SoupWall").before args s = true := hN.f 37 rfl
  have hiX2 : ∀ w ∈ wsX20, w ∈ wsX7_takeOverWhatWasRead := fun w h => List.mem_cons_of_mem _ (List.mem_append_right _ h)
  have fl91 : (Cond.fieldLinkNest "SoupWall" 91 "SoupWall$Reader" "start" "LSoupWall$State;" "SoupWall").before args s = true := hN.f 38 rfl
  unfold fX7_takeOverWhatWasRead at h
  refine lv_aload_n hx hb dX7_takeOverWhatWasRead_0 rfl (lv_at hl 0 rfl) ?_
  refine va_get (ci := 7) (v := .ref qt_plan) (C := RX7) (T := TX7) (N := 11) hx hb hts hiX7 hown hK hP 0 rfl rfl 8 (by decide) fl64 (fun _ h9 => h9) rfl dX7_takeOverWhatWasRead_1 ?_
  refine lv_astore_n (lv' := [(1, .ref qt_plan), (0, .ref qt)]) hx hb dX7_takeOverWhatWasRead_4 rfl hl (by decide) rfl (fun ls hl => ?_)
  refine lv_aload_n hx hb dX7_takeOverWhatWasRead_5 rfl (lv_at hl 1 rfl) ?_
  refine va_get (ci := 7) (v := .ref qt_now) (C := RX7) (T := TX7) (N := 11) hx hb hts hiX7 hown hK hP 0 rfl rfl 9 (by decide) fl68 (fun _ h9 => h9) rfl dX7_takeOverWhatWasRead_6 ?_
  refine lv_astore_n (lv' := [(2, .ref qt_now), (1, .ref qt_plan), (0, .ref qt)]) hx hb dX7_takeOverWhatWasRead_9 rfl hl (by decide) rfl (fun ls hl => ?_)
  refine lv_aload_n hx hb dX7_takeOverWhatWasRead_10 rfl (lv_at hl 2 rfl) ?_
  refine lv_aload_n hx hb dX7_takeOverWhatWasRead_11 rfl (lv_at hl 2 rfl) ?_
  refine va_get (ci := 7) (v := .ref qt_reader) (C := RX7) (T := TX7) (N := 11) hx hb hts hiX7 hown hK hP 0 rfl rfl 1 (by decide) fl21 (fun _ h9 => h9) rfl dX7_takeOverWhatWasRead_12 ?_
  refine va_getN (ci := 2) (v := .ref qt_reader_plan) (C := RX2) (T := TX2) (N := 7) hx hb hts hiX2 hown hK hP 1 rfl rfl 1 (by decide) fl107 (fun _ h9 => h9) rfl dX7_takeOverWhatWasRead_15 ?_
  refine va_put (ci := 7) (v := .ref qt_reader_plan) (ty := (.object "SoupWall$Plan")) (C := RX7) (T := TX7) (N := 11) hx hb hts hiX7 tyX7 tyX7_ok nmX7 hown hK hP (dF hD rfl) hS 0 rfl rfl 8 (by decide) fl64 (fun _ h9 => h9) rfl (by decide +kernel) rfl rfl (Nat.le_of_ble_eq_true rfl) dX7_takeOverWhatWasRead_18 (fun H locs hP _ hS => ?_)
  replace hP : va_P D vwCl [(qt, .inr (7, [.ref qt_text, .ref qt_reader, .ref qt_images, .ref qt_kept, .ref qt_buyers, .ref qt_tries, .ref qt_trial, .ref qt_row, .ref qt_reader_plan, .ref qt_now, .int it_faultAt])), (qt_reader, .inr (2, [.ref qt_text, .ref qt_reader_plan, .ref qt_reader_start, .int it_reader_at, .int it_reader_tokenAt, .int it_reader_fault, .int it_reader_faultAt]))] H := hP
  refine lv_aload_n hx hb dX7_takeOverWhatWasRead_21 rfl (lv_at hl 2 rfl) ?_
  refine lv_aload_n hx hb dX7_takeOverWhatWasRead_22 rfl (lv_at hl 2 rfl) ?_
  refine va_get (ci := 7) (v := .ref qt_reader) (C := RX7) (T := TX7) (N := 11) hx hb hts hiX7 hown hK hP 0 rfl rfl 1 (by decide) fl21 (fun _ h9 => h9) rfl dX7_takeOverWhatWasRead_23 ?_
  refine va_getN (ci := 2) (v := .ref qt_reader_start) (C := RX2) (T := TX2) (N := 7) hx hb hts hiX2 hown hK hP 1 rfl rfl 2 (by decide) fl91 (fun _ h9 => h9) rfl dX7_takeOverWhatWasRead_26 ?_
  refine va_put (ci := 7) (v := .ref qt_reader_start) (ty := (.object "SoupWall$State")) (C := RX7) (T := TX7) (N := 11) hx hb hts hiX7 tyX7 tyX7_ok nmX7 hown hK hP (dF hD rfl) hS 0 rfl rfl 9 (by decide) fl68 (fun _ h9 => h9) rfl (by decide +kernel) rfl rfl (Nat.le_of_ble_eq_true rfl) dX7_takeOverWhatWasRead_29 (fun H locs hP _ hS => ?_)
  replace hP : va_P D vwCl [(qt, .inr (7, [.ref qt_text, .ref qt_reader, .ref qt_images, .ref qt_kept, .ref qt_buyers, .ref qt_tries, .ref qt_trial, .ref qt_row, .ref qt_reader_plan, .ref qt_reader_start, .int it_faultAt])), (qt_reader, .inr (2, [.ref qt_text, .ref qt_reader_plan, .ref qt_reader_start, .int it_reader_at, .int it_reader_tokenAt, .int it_reader_fault, .int it_reader_faultAt]))] H := hP
  refine lv_aload_n hx hb dX7_takeOverWhatWasRead_32 rfl (lv_at hl 2 rfl) ?_
  refine va_get (ci := 7) (v := .ref qt_reader) (C := RX7) (T := TX7) (N := 11) hx hb hts hiX7 hown hK hP 0 rfl rfl 1 (by decide) fl21 (fun _ h9 => h9) rfl dX7_takeOverWhatWasRead_33 ?_
  refine lv_aload_n hx hb dX7_takeOverWhatWasRead_36 rfl (lv_at hl 1 rfl) ?_
  refine va_putN (ci := 2) (v := .ref qt_plan) (ty := (.object "SoupWall$Plan")) (C := RX2) (T := TX2) (N := 7) hx hb hts hiX2 tyX2 tyX2_ok nmX2 hown hK hP (dF hD rfl) hS 1 rfl rfl 1 (by decide) fl107 (fun _ h9 => h9) rfl (by decide +kernel) rfl rfl (Nat.le_of_ble_eq_true rfl) dX7_takeOverWhatWasRead_37 (fun H locs hP _ hS => ?_)
  replace hP : va_P D vwCl [(qt, .inr (7, [.ref qt_text, .ref qt_reader, .ref qt_images, .ref qt_kept, .ref qt_buyers, .ref qt_tries, .ref qt_trial, .ref qt_row, .ref qt_reader_plan, .ref qt_reader_start, .int it_faultAt])), (qt_reader, .inr (2, [.ref qt_text, .ref qt_plan, .ref qt_reader_start, .int it_reader_at, .int it_reader_tokenAt, .int it_reader_fault, .int it_reader_faultAt]))] H := hP
  refine lv_aload_n hx hb dX7_takeOverWhatWasRead_40 rfl (lv_at hl 2 rfl) ?_
  refine va_get (ci := 7) (v := .ref qt_reader) (C := RX7) (T := TX7) (N := 11) hx hb hts hiX7 hown hK hP 0 rfl rfl 1 (by decide) fl21 (fun _ h9 => h9) rfl dX7_takeOverWhatWasRead_41 ?_
  refine lv_aload_n hx hb dX7_takeOverWhatWasRead_44 rfl (lv_at hl 0 rfl) ?_
  refine va_putN (ci := 2) (v := .ref qt_now) (ty := (.object "SoupWall$State")) (C := RX2) (T := TX2) (N := 7) hx hb hts hiX2 tyX2 tyX2_ok nmX2 hown hK hP (dF hD rfl) hS 1 rfl rfl 2 (by decide) fl91 (fun _ h9 => h9) rfl (by decide +kernel) rfl rfl (Nat.le_of_ble_eq_true rfl) dX7_takeOverWhatWasRead_45 (fun H locs hP _ hS => ?_)
  replace hP : va_P D vwCl [(qt, .inr (7, [.ref qt_text, .ref qt_reader, .ref qt_images, .ref qt_kept, .ref qt_buyers, .ref qt_tries, .ref qt_trial, .ref qt_row, .ref qt_reader_plan, .ref qt_reader_start, .int it_faultAt])), (qt_reader, .inr (2, [.ref qt_text, .ref qt_plan, .ref qt_now, .int it_reader_at, .int it_reader_tokenAt, .int it_reader_fault, .int it_reader_faultAt]))] H := hP
  exact hret _ _ _ _ hP hS dX7_takeOverWhatWasRead_48
theorem hdX7_takeOverWhatWasRead : yX7_takeOverWhatWasRead.cls = RX7 ∧ yX7_takeOverWhatWasRead.cls ≠ "java/lang/invoke/MethodHandle" ∧ yX7_takeOverWhatWasRead.cls ≠ "java/lang/invoke/VarHandle" ∧ (parseMethodDescriptor yX7_takeOverWhatWasRead.desc).map (fun d => d.parameters.length) = some 0 := by decide +kernel

noncomputable def fX7_wall_L86 (N : Nat) : Nat → Int32 → (Nat → Int32) → Option (Nat → Int32)
  | 0, _, _ => none
  | k + 1, x1, ft_kept => (if 2 ≤ x1 then some ft_kept else ck x1 2 (lt (x1 + 1) fun n3 => fX7_wall_L86 N k n3 (upd ft_kept (Int32.toNatClampNeg x1) ((vp_nar .boolean 0)))))
theorem fX7_wall_L86_s (N : Nat) (k : Nat) (x1 : Int32) (ft_kept : Nat → Int32) : fX7_wall_L86 N (k + 1) x1 ft_kept = ((if 2 ≤ x1 then some ft_kept else ck x1 2 (lt (x1 + 1) fun n3 => fX7_wall_L86 N k n3 (upd ft_kept (Int32.toNatClampNeg x1) ((vp_nar .boolean 0)))))) := rfl
noncomputable def fX7_wall (N : Nat) (qt_plan : Nat) (qt_now : Nat) (qt_reader_plan : Nat) (qt_reader_start : Nat) (it_faultAt : Int32) (ft_kept : Nat → Int32) (it_reader_at : Int32) (it_reader_tokenAt : Int32) (it_reader_fault : Int32) (it_reader_faultAt : Int32) (it_text_length : Int32) (ft_text_bytes : Nat → Int32) (it_reader_plan_kinds : Int32) (it_reader_plan_columns : Int32) (it_reader_plan_slugs : Int32) (ft_reader_plan_rhythmLength : Nat → Int32) (ft_reader_plan_rhythm : Nat → Int32) (ft_reader_plan_slugWeight : Nat → Int32) (it_reader_start_lost : Int32) (it_reader_start_stamps : Int32) (it_reader_start_sales : Int32) (it_reader_start_damp : Int32) (it_reader_start_worn : Int32) (it_reader_start_seed : Int32) (ft_reader_start_price : Nat → Int32) (ft_reader_start_low : Nat → Int32) (ft_reader_start_high : Nat → Int32) (ft_reader_start_goods : Nat → Int32) (ft_reader_start_wired : Nat → Int32) (ft_reader_start_stick : Nat → Int32) (ft_reader_start_kicks : Nat → Int32) (ft_reader_start_kickCount : Nat → Int32) (ft_reader_start_tube : Nat → Int32) (ft_reader_plan_value : Nat → Int32) (ft_reader_plan_paidBy : Nat → Int32) (ft_reader_plan_weight : Nat → Int32) (it_now_seed : Int32) (it_buyers_count : Int32) (it_tries_count : Int32) : Option (Int32 × Int32 × (Nat → Int32) × Int32 × Int32 × Int32 × Int32 × Int32 × Int32 × Int32 × Int32 × (Nat → Int32) × (Nat → Int32) × (Nat → Int32) × Int32 × Int32 × Int32 × Int32 × Int32 × Int32 × (Nat → Int32) × (Nat → Int32) × (Nat → Int32) × (Nat → Int32) × (Nat → Int32) × (Nat → Int32) × (Nat → Int32) × (Nat → Int32) × (Nat → Int32) × (Nat → Int32) × (Nat → Int32) × (Nat → Int32) × Int32 × Int32 × Nat × Nat × Nat × Nat) := bd (fX2_read N it_reader_at it_reader_tokenAt it_reader_fault it_reader_faultAt it_text_length ft_text_bytes it_reader_plan_kinds it_reader_plan_columns it_reader_plan_slugs ft_reader_plan_rhythmLength ft_reader_plan_rhythm ft_reader_plan_slugWeight it_reader_start_lost it_reader_start_stamps it_reader_start_sales it_reader_start_damp it_reader_start_worn it_reader_start_seed ft_reader_start_price ft_reader_start_low ft_reader_start_high ft_reader_start_goods ft_reader_start_wired ft_reader_start_stick ft_reader_start_kicks ft_reader_start_kickCount ft_reader_start_tube ft_reader_plan_value ft_reader_plan_paidBy ft_reader_plan_weight) fun (g4, g5, g6, g7, g8, g9, g10, g11, g12, g13, g14, g15, g16, g17, g18, g19, g20, g21, g22, g23, g24, g25, g26, g27, g28, g29, g30, g31) => (if g6 = 0 then bd (fX7_takeOverWhatWasRead N ) fun _ => bd (fX7_wall_L86 N N 0 ft_kept) fun g36 => some (g9, g7, g36, g4, g5, g6, g7, 0, g8, g9, g10, g11, g12, g13, g14, g15, g16, g17, g18, it_now_seed, g20, g21, g22, g23, g24, g25, g26, g27, g28, g29, g30, g31, 0, 0, qt_reader_plan, qt_reader_start, qt_plan, qt_now) else lt ((-10) - g6) fun n37 => some (n37, g7, ft_kept, g4, g5, g6, g7, 0, g8, g9, g10, g11, g12, g13, g14, g15, g16, g17, g18, g19, g20, g21, g22, g23, g24, g25, g26, g27, g28, g29, g30, g31, it_buyers_count, it_tries_count, qt_plan, qt_now, qt_reader_plan, qt_reader_start))
set_option maxHeartbeats 4000000 in
set_option maxRecDepth 100000 in
theorem ctX7_wall (l : Launch) (D : va_G) (cI cZ cB cS : ClassId) (kK kV : Nat → Nat) (sz : Nat) (qt qt_text qt_reader qt_images qt_kept qt_buyers qt_tries qt_trial qt_row qt_plan qt_now qt_reader_plan qt_reader_start qt_text_bytes qt_reader_plan_value qt_reader_plan_weight qt_reader_plan_slugWeight qt_reader_plan_rhythm qt_reader_plan_rhythmLength qt_reader_plan_paidBy qt_reader_start_tube qt_reader_start_goods qt_reader_start_stick qt_reader_start_kicks qt_reader_start_kickCount qt_reader_start_low qt_reader_start_high qt_reader_start_price qt_reader_start_wired qt_now_tube qt_now_goods qt_now_stick qt_now_kicks qt_now_kickCount qt_now_low qt_now_high qt_now_price qt_now_wired qt_buyers_column qt_buyers_kind qt_buyers_coins qt_tries_row qt_tries_length qt_tries_free : Nat) (it_faultAt : Int32) (ft_kept : Nat → Int32) (it_reader_at : Int32) (it_reader_tokenAt : Int32) (it_reader_fault : Int32) (it_reader_faultAt : Int32) (it_text_length : Int32) (ft_text_bytes : Nat → Int32) (it_reader_plan_kinds : Int32) (it_reader_plan_columns : Int32) (it_reader_plan_slugs : Int32) (ft_reader_plan_rhythmLength : Nat → Int32) (ft_reader_plan_rhythm : Nat → Int32) (ft_reader_plan_slugWeight : Nat → Int32) (it_reader_start_lost : Int32) (it_reader_start_stamps : Int32) (it_reader_start_sales : Int32) (it_reader_start_damp : Int32) (it_reader_start_worn : Int32) (it_reader_start_seed : Int32) (ft_reader_start_price : Nat → Int32) (ft_reader_start_low : Nat → Int32) (ft_reader_start_high : Nat → Int32) (ft_reader_start_goods : Nat → Int32) (ft_reader_start_wired : Nat → Int32) (ft_reader_start_stick : Nat → Int32) (ft_reader_start_kicks : Nat → Int32) (ft_reader_start_kickCount : Nat → Int32) (ft_reader_start_tube : Nat → Int32) (ft_reader_plan_value : Nat → Int32) (ft_reader_plan_paidBy : Nat → Int32) (ft_reader_plan_weight : Nat → Int32) (it_now_lost : Int32) (it_now_stamps : Int32) (it_now_sales : Int32) (it_now_damp : Int32) (it_now_worn : Int32) (it_now_seed : Int32) (it_buyers_count : Int32) (it_tries_count : Int32)  (N : Nat) (r0 : Int32) (w_it_faultAt : Int32) (w_ft_kept : Nat → Int32) (w_it_reader_at : Int32) (w_it_reader_tokenAt : Int32) (w_it_reader_fault : Int32) (w_it_reader_faultAt : Int32) (w_it_text_length : Int32) (w_it_reader_plan_kinds : Int32) (w_it_reader_plan_columns : Int32) (w_it_reader_plan_slugs : Int32) (w_ft_reader_plan_rhythmLength : Nat → Int32) (w_ft_reader_plan_rhythm : Nat → Int32) (w_ft_reader_plan_slugWeight : Nat → Int32) (w_it_reader_start_lost : Int32) (w_it_reader_start_stamps : Int32) (w_it_reader_start_sales : Int32) (w_it_reader_start_damp : Int32) (w_it_reader_start_worn : Int32) (w_it_reader_start_seed : Int32) (w_ft_reader_start_price : Nat → Int32) (w_ft_reader_start_low : Nat → Int32) (w_ft_reader_start_high : Nat → Int32) (w_ft_reader_start_goods : Nat → Int32) (w_ft_reader_start_wired : Nat → Int32) (w_ft_reader_start_stick : Nat → Int32) (w_ft_reader_start_kicks : Nat → Int32) (w_ft_reader_start_kickCount : Nat → Int32) (w_ft_reader_start_tube : Nat → Int32) (w_ft_reader_plan_value : Nat → Int32) (w_ft_reader_plan_paidBy : Nat → Int32) (w_ft_reader_plan_weight : Nat → Int32) (w_it_buyers_count : Int32) (w_it_tries_count : Int32) (w_qt_plan : Nat) (w_qt_now : Nat) (w_qt_reader_plan : Nat) (w_qt_reader_start : Nat) (h : fX7_wall N qt_plan qt_now qt_reader_plan qt_reader_start it_faultAt ft_kept it_reader_at it_reader_tokenAt it_reader_fault it_reader_faultAt it_text_length ft_text_bytes it_reader_plan_kinds it_reader_plan_columns it_reader_plan_slugs ft_reader_plan_rhythmLength ft_reader_plan_rhythm ft_reader_plan_slugWeight it_reader_start_lost it_reader_start_stamps it_reader_start_sales it_reader_start_damp it_reader_start_worn it_reader_start_seed ft_reader_start_price ft_reader_start_low ft_reader_start_high ft_reader_start_goods ft_reader_start_wired ft_reader_start_stick ft_reader_start_kicks ft_reader_start_kickCount ft_reader_start_tube ft_reader_plan_value ft_reader_plan_paidBy ft_reader_plan_weight it_now_seed it_buyers_count it_tries_count = some (r0, w_it_faultAt, w_ft_kept, w_it_reader_at, w_it_reader_tokenAt, w_it_reader_fault, w_it_reader_faultAt, w_it_text_length, w_it_reader_plan_kinds, w_it_reader_plan_columns, w_it_reader_plan_slugs, w_ft_reader_plan_rhythmLength, w_ft_reader_plan_rhythm, w_ft_reader_plan_slugWeight, w_it_reader_start_lost, w_it_reader_start_stamps, w_it_reader_start_sales, w_it_reader_start_damp, w_it_reader_start_worn, w_it_reader_start_seed, w_ft_reader_start_price, w_ft_reader_start_low, w_ft_reader_start_high, w_ft_reader_start_goods, w_ft_reader_start_wired, w_ft_reader_start_stick, w_ft_reader_start_kicks, w_ft_reader_start_kickCount, w_ft_reader_start_tube, w_ft_reader_plan_value, w_ft_reader_plan_paidBy, w_ft_reader_plan_weight, w_it_buyers_count, w_it_tries_count, w_qt_plan, w_qt_now, w_qt_reader_plan, w_qt_reader_start)) : CtI l yX7_wall wsX7_wall { frames := 7, cells := 0, slots := 0, locals := 148 } D (TY cI cZ cB cS) kK kV [.ref qt] [(qt, .inr (7, [.ref qt_text, .ref qt_reader, .ref qt_images, .ref qt_kept, .ref qt_buyers, .ref qt_tries, .ref qt_trial, .ref qt_row, .ref qt_plan, .ref qt_now, .int it_faultAt])), (qt_kept, .inl (cZ, 2, .inl ft_kept)), (qt_reader, .inr (2, [.ref qt_text, .ref qt_reader_plan, .ref qt_reader_start, .int it_reader_at, .int it_reader_tokenAt, .int it_reader_fault, .int it_reader_faultAt])), (qt_text, .inr (5, [.ref qt_text_bytes, .int it_text_length])), (qt_text_bytes, .inl (cB, 400, .inl ft_text_bytes)), (qt_reader_plan, .inr (1, [.ref qt_reader_plan_value, .ref qt_reader_plan_weight, .ref qt_reader_plan_slugWeight, .ref qt_reader_plan_rhythm, .ref qt_reader_plan_rhythmLength, .ref qt_reader_plan_paidBy, .int it_reader_plan_kinds, .int it_reader_plan_columns, .int it_reader_plan_slugs])), (qt_reader_plan_rhythmLength, .inl (cI, 5, .inl ft_reader_plan_rhythmLength)), (qt_reader_plan_rhythm, .inl (cI, 5, .inl ft_reader_plan_rhythm)), (qt_reader_plan_slugWeight, .inl (cI, 5, .inl ft_reader_plan_slugWeight)), (qt_reader_start, .inr (4, [.ref qt_reader_start_tube, .ref qt_reader_start_goods, .ref qt_reader_start_stick, .ref qt_reader_start_kicks, .ref qt_reader_start_kickCount, .ref qt_reader_start_low, .ref qt_reader_start_high, .ref qt_reader_start_price, .ref qt_reader_start_wired, .int it_reader_start_lost, .int it_reader_start_stamps, .int it_reader_start_sales, .int it_reader_start_damp, .int it_reader_start_worn, .int it_reader_start_seed])), (qt_reader_start_price, .inl (cI, 5, .inl ft_reader_start_price)), (qt_reader_start_low, .inl (cI, 5, .inl ft_reader_start_low)), (qt_reader_start_high, .inl (cI, 5, .inl ft_reader_start_high)), (qt_reader_start_goods, .inl (cI, 5, .inl ft_reader_start_goods)), (qt_reader_start_wired, .inl (cI, 5, .inl ft_reader_start_wired)), (qt_reader_start_stick, .inl (cI, 5, .inl ft_reader_start_stick)), (qt_reader_start_kicks, .inl (cI, 5, .inl ft_reader_start_kicks)), (qt_reader_start_kickCount, .inl (cI, 5, .inl ft_reader_start_kickCount)), (qt_reader_start_tube, .inl (cI, 5, .inl ft_reader_start_tube)), (qt_reader_plan_value, .inl (cI, 5, .inl ft_reader_plan_value)), (qt_reader_plan_paidBy, .inl (cI, 5, .inl ft_reader_plan_paidBy)), (qt_reader_plan_weight, .inl (cI, 5, .inl ft_reader_plan_weight)), (qt_now, .inr (4, [.ref qt_now_tube, .ref qt_now_goods, .ref qt_now_stick, .ref qt_now_kicks, .ref qt_now_kickCount, .ref qt_now_low, .ref qt_now_high, .ref qt_now_price, .ref qt_now_wired, .int it_now_lost, .int it_now_stamps, .int it_now_sales, .int it_now_damp, .int it_now_worn, .int it_now_seed])), (qt_buyers, .inr (0, [.ref qt_buyers_column, .ref qt_buyers_kind, .ref qt_buyers_coins, .int it_buyers_count])), (qt_tries, .inr (6, [.ref qt_tries_row, .ref qt_tries_length, .ref qt_tries_free, .int it_tries_count]))] [(qt, .inr (7, [.ref qt_text, .ref qt_reader, .ref qt_images, .ref qt_kept, .ref qt_buyers, .ref qt_tries, .ref qt_trial, .ref qt_row, .ref w_qt_plan, .ref w_qt_now, .int w_it_faultAt])), (qt_kept, .inl (cZ, 2, .inl w_ft_kept)), (qt_reader, .inr (2, [.ref qt_text, .ref w_qt_reader_plan, .ref w_qt_reader_start, .int w_it_reader_at, .int w_it_reader_tokenAt, .int w_it_reader_fault, .int w_it_reader_faultAt])), (qt_text, .inr (5, [.ref qt_text_bytes, .int w_it_text_length])), (qt_text_bytes, .inl (cB, 400, .inl ft_text_bytes)), (qt_reader_plan, .inr (1, [.ref qt_reader_plan_value, .ref qt_reader_plan_weight, .ref qt_reader_plan_slugWeight, .ref qt_reader_plan_rhythm, .ref qt_reader_plan_rhythmLength, .ref qt_reader_plan_paidBy, .int w_it_reader_plan_kinds, .int w_it_reader_plan_columns, .int w_it_reader_plan_slugs])), (qt_reader_plan_rhythmLength, .inl (cI, 5, .inl w_ft_reader_plan_rhythmLength)), (qt_reader_plan_rhythm, .inl (cI, 5, .inl w_ft_reader_plan_rhythm)), (qt_reader_plan_slugWeight, .inl (cI, 5, .inl w_ft_reader_plan_slugWeight)), (qt_reader_start, .inr (4, [.ref qt_reader_start_tube, .ref qt_reader_start_goods, .ref qt_reader_start_stick, .ref qt_reader_start_kicks, .ref qt_reader_start_kickCount, .ref qt_reader_start_low, .ref qt_reader_start_high, .ref qt_reader_start_price, .ref qt_reader_start_wired, .int w_it_reader_start_lost, .int w_it_reader_start_stamps, .int w_it_reader_start_sales, .int w_it_reader_start_damp, .int w_it_reader_start_worn, .int w_it_reader_start_seed])), (qt_reader_start_price, .inl (cI, 5, .inl w_ft_reader_start_price)), (qt_reader_start_low, .inl (cI, 5, .inl w_ft_reader_start_low)), (qt_reader_start_high, .inl (cI, 5, .inl w_ft_reader_start_high)), (qt_reader_start_goods, .inl (cI, 5, .inl w_ft_reader_start_goods)), (qt_reader_start_wired, .inl (cI, 5, .inl w_ft_reader_start_wired)), (qt_reader_start_stick, .inl (cI, 5, .inl w_ft_reader_start_stick)), (qt_reader_start_kicks, .inl (cI, 5, .inl w_ft_reader_start_kicks)), (qt_reader_start_kickCount, .inl (cI, 5, .inl w_ft_reader_start_kickCount)), (qt_reader_start_tube, .inl (cI, 5, .inl w_ft_reader_start_tube)), (qt_reader_plan_value, .inl (cI, 5, .inl w_ft_reader_plan_value)), (qt_reader_plan_paidBy, .inl (cI, 5, .inl w_ft_reader_plan_paidBy)), (qt_reader_plan_weight, .inl (cI, 5, .inl w_ft_reader_plan_weight)), (qt_now, .inr (4, [.ref qt_now_tube, .ref qt_now_goods, .ref qt_now_stick, .ref qt_now_kicks, .ref qt_now_kickCount, .ref qt_now_low, .ref qt_now_high, .ref qt_now_price, .ref qt_now_wired, .int it_now_lost, .int it_now_stamps, .int it_now_sales, .int it_now_damp, .int it_now_worn, .int it_now_seed])), (qt_buyers, .inr (0, [.ref qt_buyers_column, .ref qt_buyers_kind, .ref qt_buyers_coins, .int w_it_buyers_count])), (qt_tries, .inr (6, [.ref qt_tries_row, .ref qt_tries_length, .ref qt_tries_free, .int w_it_tries_count]))] sz r0 := by
  refine mkI (cc := cX7_wall) (maxL := 2) (rt := .int) (own := RX7) (by decide) rfl rfl (Nat.le_of_ble_eq_true rfl) ?_
  intro p e s m args below meth c A Z ls hx hb hml hown hts hK hN hX hP hD hA hS hret hl
  have hl : lv_has ls 2 [(0, .ref qt)] := hl
  have fl31 : (Cond.fieldLink RX7 31 "SoupWall" "kept" "[Z").before args s = true := hts _ (List.mem_of_getElem? (l := wsX7_wall) (i := 7) rfl)
  have hiX7 : ∀ w ∈ wsX70, w ∈ wsX7_wall := fun w h => List.mem_cons_of_mem _ (List.mem_append_left _ (List.mem_append_left _ (List.mem_append_left _ (List.mem_append_left _ (List.mem_append_left _ (List.mem_append_left _ (List.mem_append_right _ h)))))))
  have fl21 : (Cond.fieldLink RX7 21 "SoupWall" "reader" "LSoupWall$Reader;").before args s = true := hts _ (List.mem_of_getElem? (l := wsX7_wall) (i := 1) rfl)
  have fl10 : (Cond.fieldLink RX7 10 "SoupWall" "text" "LSoupWall$Text;").before args s = true := hts _ (List.mem_of_getElem? (l := wsX7_wall) (i := 2) rfl)
  have fl76 : (Cond.fieldLinkNest "SoupWall" 76 "SoupWall$Text" "length" "I" "SoupWall").before args s = true := hN.f 0 rfl
  have hiX5 : ∀ w ∈ wsX50, w ∈ wsX7_wall := fun w h => List.mem_cons_of_mem _ (List.mem_append_left _ (List.mem_append_left _ (List.mem_append_left _ (List.mem_append_left _ (List.mem_append_left _ (List.mem_append_right _ h))))))
  have fl87 : (Cond.fieldLinkNest "SoupWall" 87 "SoupWall$Reader" "faultAt" "I" "SoupWall").before args s = true := hN.f 40 rfl
  have hiX2 : ∀ w ∈ wsX20, w ∈ wsX7_wall := fun w h => List.mem_cons_of_mem _ (List.mem_append_left _ (List.mem_append_left _ (List.mem_append_left _ (List.mem_append_left _ (List.mem_append_right _ h)))))
  have fl71 : (Cond.fieldLink RX7 71 "SoupWall" "faultAt" "I").before args s = true := hts _ (List.mem_of_getElem? (l := wsX7_wall) (i := 3) rfl)
  have fl88 : (Cond.fieldLinkNest "SoupWall" 88 "SoupWall$Reader" "fault" "I" "SoupWall").before args s = true := hN.f 39 rfl
  have fl91 : (Cond.fieldLinkNest "SoupWall" 91 "SoupWall$Reader" "start" "LSoupWall$State;" "SoupWall").before args s = true := hN.f 38 rfl
  have fl68 : (Cond.fieldLink RX7 68 "SoupWall" "now" "LSoupWall$State;").before args s = true := hts _ (List.mem_of_getElem? (l := wsX7_wall) (i := 4) rfl)
  have fl94 : (Cond.fieldLinkNest "SoupWall" 94 "SoupWall$State" "seed" "I" "SoupWall").before args s = true := hN.f 36 rfl
  have hiX4 : ∀ w ∈ wsX40, w ∈ wsX7_wall := fun w h => List.mem_cons_of_mem _ (List.mem_append_left _ (List.mem_append_left _ (List.mem_append_left _ (List.mem_append_right _ h))))
  have fl38 : (Cond.fieldLink RX7 38 "SoupWall" "buyers" "LSoupWall$Buyers;").before args s = true := hts _ (List.mem_of_getElem? (l := wsX7_wall) (i := 5) rfl)
  have fl100 : (Cond.fieldLinkNest "SoupWall" 100 "SoupWall$Buyers" "count" "I" "SoupWall").before args s = true := hN.f 44 rfl
  have hiX0 : ∀ w ∈ wsX00, w ∈ wsX7_wall := fun w h => List.mem_cons_of_mem _ (List.mem_append_left _ (List.mem_append_left _ (List.mem_append_right _ h)))
  have fl45 : (Cond.fieldLink RX7 45 "SoupWall" "tries" "LSoupWall$Tries;").before args s = true := hts _ (List.mem_of_getElem? (l := wsX7_wall) (i := 6) rfl)
  have fl103 : (Cond.fieldLinkNest "SoupWall" 103 "SoupWall$Tries" "count" "I" "SoupWall").before args s = true := hN.f 45 rfl
  have hiX6 : ∀ w ∈ wsX60, w ∈ wsX7_wall := fun w h => List.mem_cons_of_mem _ (List.mem_append_left _ (List.mem_append_right _ h))
  have fl64 : (Cond.fieldLink RX7 64 "SoupWall" "plan" "LSoupWall$Plan;").before args s = true := hts _ (List.mem_of_getElem? (l := wsX7_wall) (i := 8) rfl)
  have fl104 : (Cond.fieldLinkNest "SoupWall" 104 "SoupWall$Plan" "columns" "I" "SoupWall").before args s = true := hN.f 6 rfl
  have hiX1 : ∀ w ∈ wsX10, w ∈ wsX7_wall := fun w h => List.mem_cons_of_mem _ (List.mem_append_right _ h)
  have lp86 : ∀ (k : Nat) (x1 : Int32) (it_faultAt : Int32) (ft_kept : Nat → Int32) (it_reader_at : Int32) (it_reader_tokenAt : Int32) (it_reader_fault : Int32) (it_reader_faultAt : Int32) (it_text_length : Int32) (it_reader_plan_kinds : Int32) (it_reader_plan_columns : Int32) (it_reader_plan_slugs : Int32) (ft_reader_plan_rhythmLength : Nat → Int32) (ft_reader_plan_rhythm : Nat → Int32) (ft_reader_plan_slugWeight : Nat → Int32) (it_reader_start_lost : Int32) (it_reader_start_stamps : Int32) (it_reader_start_sales : Int32) (it_reader_start_damp : Int32) (it_reader_start_worn : Int32) (it_reader_start_seed : Int32) (ft_reader_start_price : Nat → Int32) (ft_reader_start_low : Nat → Int32) (ft_reader_start_high : Nat → Int32) (ft_reader_start_goods : Nat → Int32) (ft_reader_start_wired : Nat → Int32) (ft_reader_start_stick : Nat → Int32) (ft_reader_start_kicks : Nat → Int32) (ft_reader_start_kickCount : Nat → Int32) (ft_reader_start_tube : Nat → Int32) (ft_reader_plan_value : Nat → Int32) (ft_reader_plan_paidBy : Nat → Int32) (ft_reader_plan_weight : Nat → Int32) (it_buyers_count : Int32) (it_tries_count : Int32) (H : Heap) (locs : List Loc) (ls : Array Slot) (o : Nat → Int32), fX7_wall_L86 N k x1 ft_kept = some o → va_P D vwCl [(qt, .inr (7, [.ref qt_text, .ref qt_reader, .ref qt_images, .ref qt_kept, .ref qt_buyers, .ref qt_tries, .ref qt_trial, .ref qt_row, .ref qt_reader_plan, .ref qt_reader_start, .int it_faultAt])), (qt_kept, .inl (cZ, 2, .inl ft_kept)), (qt_reader, .inr (2, [.ref qt_text, .ref qt_plan, .ref qt_now, .int it_reader_at, .int it_reader_tokenAt, .int it_reader_fault, .int it_reader_faultAt])), (qt_text, .inr (5, [.ref qt_text_bytes, .int it_text_length])), (qt_text_bytes, .inl (cB, 400, .inl ft_text_bytes)), (qt_reader_plan, .inr (1, [.ref qt_reader_plan_value, .ref qt_reader_plan_weight, .ref qt_reader_plan_slugWeight, .ref qt_reader_plan_rhythm, .ref qt_reader_plan_rhythmLength, .ref qt_reader_plan_paidBy, .int it_reader_plan_kinds, .int it_reader_plan_columns, .int it_reader_plan_slugs])), (qt_reader_plan_rhythmLength, .inl (cI, 5, .inl ft_reader_plan_rhythmLength)), (qt_reader_plan_rhythm, .inl (cI, 5, .inl ft_reader_plan_rhythm)), (qt_reader_plan_slugWeight, .inl (cI, 5, .inl ft_reader_plan_slugWeight)), (qt_reader_start, .inr (4, [.ref qt_reader_start_tube, .ref qt_reader_start_goods, .ref qt_reader_start_stick, .ref qt_reader_start_kicks, .ref qt_reader_start_kickCount, .ref qt_reader_start_low, .ref qt_reader_start_high, .ref qt_reader_start_price, .ref qt_reader_start_wired, .int it_reader_start_lost, .int it_reader_start_stamps, .int it_reader_start_sales, .int it_reader_start_damp, .int it_reader_start_worn, .int it_reader_start_seed])), (qt_reader_start_price, .inl (cI, 5, .inl ft_reader_start_price)), (qt_reader_start_low, .inl (cI, 5, .inl ft_reader_start_low)), (qt_reader_start_high, .inl (cI, 5, .inl ft_reader_start_high)), (qt_reader_start_goods, .inl (cI, 5, .inl ft_reader_start_goods)), (qt_reader_start_wired, .inl (cI, 5, .inl ft_reader_start_wired)), (qt_reader_start_stick, .inl (cI, 5, .inl ft_reader_start_stick)), (qt_reader_start_kicks, .inl (cI, 5, .inl ft_reader_start_kicks)), (qt_reader_start_kickCount, .inl (cI, 5, .inl ft_reader_start_kickCount)), (qt_reader_start_tube, .inl (cI, 5, .inl ft_reader_start_tube)), (qt_reader_plan_value, .inl (cI, 5, .inl ft_reader_plan_value)), (qt_reader_plan_paidBy, .inl (cI, 5, .inl ft_reader_plan_paidBy)), (qt_reader_plan_weight, .inl (cI, 5, .inl ft_reader_plan_weight)), (qt_now, .inr (4, [.ref qt_now_tube, .ref qt_now_goods, .ref qt_now_stick, .ref qt_now_kicks, .ref qt_now_kickCount, .ref qt_now_low, .ref qt_now_high, .ref qt_now_price, .ref qt_now_wired, .int it_now_lost, .int it_now_stamps, .int it_now_sales, .int it_now_damp, .int it_now_worn, .int it_now_seed])), (qt_buyers, .inr (0, [.ref qt_buyers_column, .ref qt_buyers_kind, .ref qt_buyers_coins, .int it_buyers_count])), (qt_tries, .inr (6, [.ref qt_tries_row, .ref qt_tries_length, .ref qt_tries_free, .int it_tries_count]))] H → va_S A s.heap H locs → lv_has ls 2 [(0, .ref qt), (1, .int x1)] → (∀ (e_ft_kept : Nat → Int32), e_ft_kept = o → ∀ (H : Heap) (locs : List Loc) (ls : Array Slot), va_P D vwCl [(qt, .inr (7, [.ref qt_text, .ref qt_reader, .ref qt_images, .ref qt_kept, .ref qt_buyers, .ref qt_tries, .ref qt_trial, .ref qt_row, .ref qt_reader_plan, .ref qt_reader_start, .int it_faultAt])), (qt_kept, .inl (cZ, 2, .inl e_ft_kept)), (qt_reader, .inr (2, [.ref qt_text, .ref qt_plan, .ref qt_now, .int it_reader_at, .int it_reader_tokenAt, .int it_reader_fault, .int it_reader_faultAt])), (qt_text, .inr (5, [.ref qt_text_bytes, .int it_text_length])), (qt_text_bytes, .inl (cB, 400, .inl ft_text_bytes)), (qt_reader_plan, .inr (1, [.ref qt_reader_plan_value, .ref qt_reader_plan_weight, .ref qt_reader_plan_slugWeight, .ref qt_reader_plan_rhythm, .ref qt_reader_plan_rhythmLength, .ref qt_reader_plan_paidBy, .int it_reader_plan_kinds, .int it_reader_plan_columns, .int it_reader_plan_slugs])), (qt_reader_plan_rhythmLength, .inl (cI, 5, .inl ft_reader_plan_rhythmLength)), (qt_reader_plan_rhythm, .inl (cI, 5, .inl ft_reader_plan_rhythm)), (qt_reader_plan_slugWeight, .inl (cI, 5, .inl ft_reader_plan_slugWeight)), (qt_reader_start, .inr (4, [.ref qt_reader_start_tube, .ref qt_reader_start_goods, .ref qt_reader_start_stick, .ref qt_reader_start_kicks, .ref qt_reader_start_kickCount, .ref qt_reader_start_low, .ref qt_reader_start_high, .ref qt_reader_start_price, .ref qt_reader_start_wired, .int it_reader_start_lost, .int it_reader_start_stamps, .int it_reader_start_sales, .int it_reader_start_damp, .int it_reader_start_worn, .int it_reader_start_seed])), (qt_reader_start_price, .inl (cI, 5, .inl ft_reader_start_price)), (qt_reader_start_low, .inl (cI, 5, .inl ft_reader_start_low)), (qt_reader_start_high, .inl (cI, 5, .inl ft_reader_start_high)), (qt_reader_start_goods, .inl (cI, 5, .inl ft_reader_start_goods)), (qt_reader_start_wired, .inl (cI, 5, .inl ft_reader_start_wired)), (qt_reader_start_stick, .inl (cI, 5, .inl ft_reader_start_stick)), (qt_reader_start_kicks, .inl (cI, 5, .inl ft_reader_start_kicks)), (qt_reader_start_kickCount, .inl (cI, 5, .inl ft_reader_start_kickCount)), (qt_reader_start_tube, .inl (cI, 5, .inl ft_reader_start_tube)), (qt_reader_plan_value, .inl (cI, 5, .inl ft_reader_plan_value)), (qt_reader_plan_paidBy, .inl (cI, 5, .inl ft_reader_plan_paidBy)), (qt_reader_plan_weight, .inl (cI, 5, .inl ft_reader_plan_weight)), (qt_now, .inr (4, [.ref qt_now_tube, .ref qt_now_goods, .ref qt_now_stick, .ref qt_now_kicks, .ref qt_now_kickCount, .ref qt_now_low, .ref qt_now_high, .ref qt_now_price, .ref qt_now_wired, .int it_now_lost, .int it_now_stamps, .int it_now_sales, .int it_now_damp, .int it_now_worn, .int it_now_seed])), (qt_buyers, .inr (0, [.ref qt_buyers_column, .ref qt_buyers_kind, .ref qt_buyers_coins, .int it_buyers_count])), (qt_tries, .inr (6, [.ref qt_tries_row, .ref qt_tries_length, .ref qt_tries_free, .int it_tries_count]))] H → va_S A s.heap H locs → lv_has ls 2 [(0, .ref qt)] → W p l e ({ frames := 7, cells := 0, slots := 0, locals := 148 } : Room) s m args below meth c H locs 0 0 Z (F0 m 104 ls [])) → W p l e ({ frames := 7, cells := 0, slots := 0, locals := 148 } : Room) s m args below meth c H locs 0 0 Z (F0 m 86 ls []) := by
    intro k
    induction k with
    | zero =>
      intro x1 it_faultAt ft_kept it_reader_at it_reader_tokenAt it_reader_fault it_reader_faultAt it_text_length it_reader_plan_kinds it_reader_plan_columns it_reader_plan_slugs ft_reader_plan_rhythmLength ft_reader_plan_rhythm ft_reader_plan_slugWeight it_reader_start_lost it_reader_start_stamps it_reader_start_sales it_reader_start_damp it_reader_start_worn it_reader_start_seed ft_reader_start_price ft_reader_start_low ft_reader_start_high ft_reader_start_goods ft_reader_start_wired ft_reader_start_stick ft_reader_start_kicks ft_reader_start_kickCount ft_reader_start_tube ft_reader_plan_value ft_reader_plan_paidBy ft_reader_plan_weight it_buyers_count it_tries_count H locs ls o h
      exact nomatch (show (none : Option (Nat → Int32)) = some o from h)
    | succ k ih =>
      intro x1 it_faultAt ft_kept it_reader_at it_reader_tokenAt it_reader_fault it_reader_faultAt it_text_length it_reader_plan_kinds it_reader_plan_columns it_reader_plan_slugs ft_reader_plan_rhythmLength ft_reader_plan_rhythm ft_reader_plan_slugWeight it_reader_start_lost it_reader_start_stamps it_reader_start_sales it_reader_start_damp it_reader_start_worn it_reader_start_seed ft_reader_start_price ft_reader_start_low ft_reader_start_high ft_reader_start_goods ft_reader_start_wired ft_reader_start_stick ft_reader_start_kicks ft_reader_start_kickCount ft_reader_start_tube ft_reader_plan_value ft_reader_plan_paidBy ft_reader_plan_weight it_buyers_count it_tries_count H locs ls o h hP hS hl K
      rw [fX7_wall_L86_s] at h
      refine lv_iload_n hx hb dX7_wall_86 rfl (lv_at hl 1 rfl) ?_
      refine lv_iconst (v := 2) hx hb dX7_wall_87 (by decide) ?_
      refine lv_icmp_ge (tgt := 104) hx hb dX7_wall_88 (by decide) (fun c1 => ?_) (fun c1 => ?_)
      · replace h := if_t c1 h
        exact K ft_kept (Option.some.inj h) _ _ _ hP hS (lv_sub hl [0] rfl)
      · replace h := if_f c1 h
        refine lv_aload_n hx hb dX7_wall_91 rfl (lv_at hl 0 rfl) ?_
        refine va_get (ci := 7) (v := .ref qt_kept) (C := RX7) (T := TX7) (N := 11) hx hb hts hiX7 hown hK hP 0 rfl rfl 3 (by decide) fl31 (fun _ h9 => h9) rfl dX7_wall_92 ?_
        refine lv_iload_n hx hb dX7_wall_95 rfl (lv_at hl 1 rfl) ?_
        refine lv_iconst (v := 0) hx hb dX7_wall_96 (by decide) ?_
        replace h := ck_el h
        obtain ⟨hi2, h⟩ := h
        refine va_zast hx hb hK hP (dF hD rfl) hS 1 1 rfl rfl hi2 dX7_wall_97 (fun H locs hP _ hS => ?_)
        replace hP : va_P D vwCl [(qt, .inr (7, [.ref qt_text, .ref qt_reader, .ref qt_images, .ref qt_kept, .ref qt_buyers, .ref qt_tries, .ref qt_trial, .ref qt_row, .ref qt_reader_plan, .ref qt_reader_start, .int it_faultAt])), (qt_kept, .inl (cZ, 2, .inl (upd ft_kept (Int32.toNatClampNeg x1) ((vp_nar .boolean 0))))), (qt_reader, .inr (2, [.ref qt_text, .ref qt_plan, .ref qt_now, .int it_reader_at, .int it_reader_tokenAt, .int it_reader_fault, .int it_reader_faultAt])), (qt_text, .inr (5, [.ref qt_text_bytes, .int it_text_length])), (qt_text_bytes, .inl (cB, 400, .inl ft_text_bytes)), (qt_reader_plan, .inr (1, [.ref qt_reader_plan_value, .ref qt_reader_plan_weight, .ref qt_reader_plan_slugWeight, .ref qt_reader_plan_rhythm, .ref qt_reader_plan_rhythmLength, .ref qt_reader_plan_paidBy, .int it_reader_plan_kinds, .int it_reader_plan_columns, .int it_reader_plan_slugs])), (qt_reader_plan_rhythmLength, .inl (cI, 5, .inl ft_reader_plan_rhythmLength)), (qt_reader_plan_rhythm, .inl (cI, 5, .inl ft_reader_plan_rhythm)), (qt_reader_plan_slugWeight, .inl (cI, 5, .inl ft_reader_plan_slugWeight)), (qt_reader_start, .inr (4, [.ref qt_reader_start_tube, .ref qt_reader_start_goods, .ref qt_reader_start_stick, .ref qt_reader_start_kicks, .ref qt_reader_start_kickCount, .ref qt_reader_start_low, .ref qt_reader_start_high, .ref qt_reader_start_price, .ref qt_reader_start_wired, .int it_reader_start_lost, .int it_reader_start_stamps, .int it_reader_start_sales, .int it_reader_start_damp, .int it_reader_start_worn, .int it_reader_start_seed])), (qt_reader_start_price, .inl (cI, 5, .inl ft_reader_start_price)), (qt_reader_start_low, .inl (cI, 5, .inl ft_reader_start_low)), (qt_reader_start_high, .inl (cI, 5, .inl ft_reader_start_high)), (qt_reader_start_goods, .inl (cI, 5, .inl ft_reader_start_goods)), (qt_reader_start_wired, .inl (cI, 5, .inl ft_reader_start_wired)), (qt_reader_start_stick, .inl (cI, 5, .inl ft_reader_start_stick)), (qt_reader_start_kicks, .inl (cI, 5, .inl ft_reader_start_kicks)), (qt_reader_start_kickCount, .inl (cI, 5, .inl ft_reader_start_kickCount)), (qt_reader_start_tube, .inl (cI, 5, .inl ft_reader_start_tube)), (qt_reader_plan_value, .inl (cI, 5, .inl ft_reader_plan_value)), (qt_reader_plan_paidBy, .inl (cI, 5, .inl ft_reader_plan_paidBy)), (qt_reader_plan_weight, .inl (cI, 5, .inl ft_reader_plan_weight)), (qt_now, .inr (4, [.ref qt_now_tube, .ref qt_now_goods, .ref qt_now_stick, .ref qt_now_kicks, .ref qt_now_kickCount, .ref qt_now_low, .ref qt_now_high, .ref qt_now_price, .ref qt_now_wired, .int it_now_lost, .int it_now_stamps, .int it_now_sales, .int it_now_damp, .int it_now_worn, .int it_now_seed])), (qt_buyers, .inr (0, [.ref qt_buyers_column, .ref qt_buyers_kind, .ref qt_buyers_coins, .int it_buyers_count])), (qt_tries, .inr (6, [.ref qt_tries_row, .ref qt_tries_length, .ref qt_tries_free, .int it_tries_count]))] H := hP
        obtain ⟨n3, en3⟩ : ∃ z : Int32, z = x1 + 1 := ⟨_, rfl⟩
        replace h := lt_at en3 h
        refine lv_iinc (v := n3) (lv' := [(1, .int n3), (0, .ref qt)]) hx hb dX7_wall_98 hl (k := 1) rfl (by rw [en3]; rfl) (by decide) rfl (fun ls hl => ?_)
        refine lv_goto (tgt := 86) hx hb dX7_wall_101 (by decide) ?_
        exact ih n3 it_faultAt (upd ft_kept (Int32.toNatClampNeg x1) ((vp_nar .boolean 0))) it_reader_at it_reader_tokenAt it_reader_fault it_reader_faultAt it_text_length it_reader_plan_kinds it_reader_plan_columns it_reader_plan_slugs ft_reader_plan_rhythmLength ft_reader_plan_rhythm ft_reader_plan_slugWeight it_reader_start_lost it_reader_start_stamps it_reader_start_sales it_reader_start_damp it_reader_start_worn it_reader_start_seed ft_reader_start_price ft_reader_start_low ft_reader_start_high ft_reader_start_goods ft_reader_start_wired ft_reader_start_stick ft_reader_start_kicks ft_reader_start_kickCount ft_reader_start_tube ft_reader_plan_value ft_reader_plan_paidBy ft_reader_plan_weight it_buyers_count it_tries_count _ _ _ o h hP hS (lv_sub hl [1, 0] rfl) K
  unfold fX7_wall at h
  refine lv_aload_n hx hb dX7_wall_0 rfl (lv_at hl 0 rfl) ?_
  refine va_get (ci := 7) (v := .ref qt_reader) (C := RX7) (T := TX7) (N := 11) hx hb hts hiX7 hown hK hP 0 rfl rfl 1 (by decide) fl21 (fun _ h9 => h9) rfl dX7_wall_1 ?_
  replace h := bd_el h
  obtain ⟨⟨g4, g5, g6, g7, g8, g9, g10, g11, g12, g13, g14, g15, g16, g17, g18, g19, g20, g21, g22, g23, g24, g25, g26, g27, g28, g29, g30, g31⟩, hc32, h⟩ := h
  refine callVV (rest := []) ⟨hx, hb, hml, hown, hts⟩ (ctX2_read l D cI cZ cB cS kK kV _ qt_reader qt_text qt_reader_plan qt_reader_start qt_text_bytes qt_reader_plan_value qt_reader_plan_weight qt_reader_plan_slugWeight qt_reader_plan_rhythm qt_reader_plan_rhythmLength qt_reader_plan_paidBy qt_reader_start_tube qt_reader_start_goods qt_reader_start_stick qt_reader_start_kicks qt_reader_start_kickCount qt_reader_start_low qt_reader_start_high qt_reader_start_price qt_reader_start_wired it_reader_at it_reader_tokenAt it_reader_fault it_reader_faultAt it_text_length ft_text_bytes it_reader_plan_kinds it_reader_plan_columns it_reader_plan_slugs ft_reader_plan_rhythmLength ft_reader_plan_rhythm ft_reader_plan_slugWeight it_reader_start_lost it_reader_start_stamps it_reader_start_sales it_reader_start_damp it_reader_start_worn it_reader_start_seed ft_reader_start_price ft_reader_start_low ft_reader_start_high ft_reader_start_goods ft_reader_start_wired ft_reader_start_stick ft_reader_start_kicks ft_reader_start_kickCount ft_reader_start_tube ft_reader_plan_value ft_reader_plan_paidBy ft_reader_plan_weight N g4 g5 g6 g7 g8 g9 g10 g11 g12 g13 g14 g15 g16 g17 g18 g19 g20 g21 g22 g23 g24 g25 g26 g27 g28 g29 g30 g31 hc32) (cwV 0 hts gX7_wall_X2_read rfl rfl rfl hdX2_read ⟨Nat.le_of_ble_eq_true rfl, Nat.le_of_ble_eq_true rfl⟩) hK hN hX hP (dF hD rfl) hS hA [2, 3, 4, 5, 6, 7, 8, 9, 10, 11, 12, 13, 14, 15, 16, 17, 18, 19, 20, 21] (mcC rfl (mcC rfl (mcC rfl (mcC rfl (mcC rfl (mcC rfl (mcC rfl (mcC rfl (mcC rfl (mcC rfl (mcC rfl (mcC rfl (mcC rfl (mcC rfl (mcC rfl (mcC rfl (mcC rfl (mcC rfl (mcC rfl (mcC rfl mcN)))))))))))))))))))) (by decide +kernel) [(qt, .inr (7, [.ref qt_text, .ref qt_reader, .ref qt_images, .ref qt_kept, .ref qt_buyers, .ref qt_tries, .ref qt_trial, .ref qt_row, .ref qt_plan, .ref qt_now, .int it_faultAt])), (qt_kept, .inl (cZ, 2, .inl ft_kept)), (qt_reader, .inr (2, [.ref qt_text, .ref qt_reader_plan, .ref qt_reader_start, .int g4, .int g5, .int g6, .int g7])), (qt_text, .inr (5, [.ref qt_text_bytes, .int it_text_length])), (qt_text_bytes, .inl (cB, 400, .inl ft_text_bytes)), (qt_reader_plan, .inr (1, [.ref qt_reader_plan_value, .ref qt_reader_plan_weight, .ref qt_reader_plan_slugWeight, .ref qt_reader_plan_rhythm, .ref qt_reader_plan_rhythmLength, .ref qt_reader_plan_paidBy, .int g8, .int g9, .int g10])), (qt_reader_plan_rhythmLength, .inl (cI, 5, .inl g11)), (qt_reader_plan_rhythm, .inl (cI, 5, .inl g12)), (qt_reader_plan_slugWeight, .inl (cI, 5, .inl g13)), (qt_reader_start, .inr (4, [.ref qt_reader_start_tube, .ref qt_reader_start_goods, .ref qt_reader_start_stick, .ref qt_reader_start_kicks, .ref qt_reader_start_kickCount, .ref qt_reader_start_low, .ref qt_reader_start_high, .ref qt_reader_start_price, .ref qt_reader_start_wired, .int g14, .int g15, .int g16, .int g17, .int g18, .int g19])), (qt_reader_start_price, .inl (cI, 5, .inl g20)), (qt_reader_start_low, .inl (cI, 5, .inl g21)), (qt_reader_start_high, .inl (cI, 5, .inl g22)), (qt_reader_start_goods, .inl (cI, 5, .inl g23)), (qt_reader_start_wired, .inl (cI, 5, .inl g24)), (qt_reader_start_stick, .inl (cI, 5, .inl g25)), (qt_reader_start_kicks, .inl (cI, 5, .inl g26)), (qt_reader_start_kickCount, .inl (cI, 5, .inl g27)), (qt_reader_start_tube, .inl (cI, 5, .inl g28)), (qt_reader_plan_value, .inl (cI, 5, .inl g29)), (qt_reader_plan_paidBy, .inl (cI, 5, .inl g30)), (qt_reader_plan_weight, .inl (cI, 5, .inl g31)), (qt_now, .inr (4, [.ref qt_now_tube, .ref qt_now_goods, .ref qt_now_stick, .ref qt_now_kicks, .ref qt_now_kickCount, .ref qt_now_low, .ref qt_now_high, .ref qt_now_price, .ref qt_now_wired, .int it_now_lost, .int it_now_stamps, .int it_now_sales, .int it_now_damp, .int it_now_worn, .int it_now_seed])), (qt_buyers, .inr (0, [.ref qt_buyers_column, .ref qt_buyers_kind, .ref qt_buyers_coins, .int it_buyers_count])), (qt_tries, .inr (6, [.ref qt_tries_row, .ref qt_tries_length, .ref qt_tries_free, .int it_tries_count]))] [0, 1, 22, 23, 24] (mcC rfl (mcC rfl (mcC rfl (mcC rfl (mcC rfl (mcC rfl (mcC rfl (mcC rfl (mcC rfl (mcC rfl (mcC rfl (mcC rfl (mcC rfl (mcC rfl (mcC rfl (mcC rfl (mcC rfl (mcC rfl (mcC rfl (mcC rfl mcN)))))))))))))))))))) ((mcC rfl (mcC rfl (mcC rfl (mcC rfl (mcC rfl mcN))))).trans (mcC rfl (mcC rfl (mcC rfl (mcC rfl (mcC rfl mcN))))).symm) 25 rfl (by decide +kernel) (va_recv hK hP (ci := 2) (q0 := 2) rfl rfl) rfl hl.1 rfl (Nat.le_of_ble_eq_true rfl) ⟨Nat.zero_le _, Nat.zero_le _⟩ dX7_wall_4 (fun H locs hP hS => ?_)
  refine lv_aload_n hx hb dX7_wall_7 rfl (lv_at hl 0 rfl) ?_
  refine va_get (ci := 7) (v := .ref qt_text) (C := RX7) (T := TX7) (N := 11) hx hb hts hiX7 hown hK hP 0 rfl rfl 0 (by decide) fl10 (fun _ h9 => h9) rfl dX7_wall_8 ?_
  refine lv_iconst (v := 0) hx hb dX7_wall_11 (by decide) ?_
  refine va_putN (ci := 5) (v := .int 0) (ty := .int) (C := RX5) (T := TX5) (N := 2) hx hb hts hiX5 tyX5 tyX5_ok nmX5 hown hK hP (dF hD rfl) hS 3 rfl rfl 1 (by decide) fl76 (fun _ h9 => h9) rfl (by decide +kernel) rfl rfl (Nat.le_of_ble_eq_true rfl) dX7_wall_12 (fun H locs hP _ hS => ?_)
  replace hP : va_P D vwCl [(qt, .inr (7, [.ref qt_text, .ref qt_reader, .ref qt_images, .ref qt_kept, .ref qt_buyers, .ref qt_tries, .ref qt_trial, .ref qt_row, .ref qt_plan, .ref qt_now, .int it_faultAt])), (qt_kept, .inl (cZ, 2, .inl ft_kept)), (qt_reader, .inr (2, [.ref qt_text, .ref qt_reader_plan, .ref qt_reader_start, .int g4, .int g5, .int g6, .int g7])), (qt_text, .inr (5, [.ref qt_text_bytes, .int 0])), (qt_text_bytes, .inl (cB, 400, .inl ft_text_bytes)), (qt_reader_plan, .inr (1, [.ref qt_reader_plan_value, .ref qt_reader_plan_weight, .ref qt_reader_plan_slugWeight, .ref qt_reader_plan_rhythm, .ref qt_reader_plan_rhythmLength, .ref qt_reader_plan_paidBy, .int g8, .int g9, .int g10])), (qt_reader_plan_rhythmLength, .inl (cI, 5, .inl g11)), (qt_reader_plan_rhythm, .inl (cI, 5, .inl g12)), (qt_reader_plan_slugWeight, .inl (cI, 5, .inl g13)), (qt_reader_start, .inr (4, [.ref qt_reader_start_tube, .ref qt_reader_start_goods, .ref qt_reader_start_stick, .ref qt_reader_start_kicks, .ref qt_reader_start_kickCount, .ref qt_reader_start_low, .ref qt_reader_start_high, .ref qt_reader_start_price, .ref qt_reader_start_wired, .int g14, .int g15, .int g16, .int g17, .int g18, .int g19])), (qt_reader_start_price, .inl (cI, 5, .inl g20)), (qt_reader_start_low, .inl (cI, 5, .inl g21)), (qt_reader_start_high, .inl (cI, 5, .inl g22)), (qt_reader_start_goods, .inl (cI, 5, .inl g23)), (qt_reader_start_wired, .inl (cI, 5, .inl g24)), (qt_reader_start_stick, .inl (cI, 5, .inl g25)), (qt_reader_start_kicks, .inl (cI, 5, .inl g26)), (qt_reader_start_kickCount, .inl (cI, 5, .inl g27)), (qt_reader_start_tube, .inl (cI, 5, .inl g28)), (qt_reader_plan_value, .inl (cI, 5, .inl g29)), (qt_reader_plan_paidBy, .inl (cI, 5, .inl g30)), (qt_reader_plan_weight, .inl (cI, 5, .inl g31)), (qt_now, .inr (4, [.ref qt_now_tube, .ref qt_now_goods, .ref qt_now_stick, .ref qt_now_kicks, .ref qt_now_kickCount, .ref qt_now_low, .ref qt_now_high, .ref qt_now_price, .ref qt_now_wired, .int it_now_lost, .int it_now_stamps, .int it_now_sales, .int it_now_damp, .int it_now_worn, .int it_now_seed])), (qt_buyers, .inr (0, [.ref qt_buyers_column, .ref qt_buyers_kind, .ref qt_buyers_coins, .int it_buyers_count])), (qt_tries, .inr (6, [.ref qt_tries_row, .ref qt_tries_length, .ref qt_tries_free, .int it_tries_count]))] H := hP
  refine lv_aload_n hx hb dX7_wall_15 rfl (lv_at hl 0 rfl) ?_
  refine lv_aload_n hx hb dX7_wall_16 rfl (lv_at hl 0 rfl) ?_
  refine va_get (ci := 7) (v := .ref qt_reader) (C := RX7) (T := TX7) (N := 11) hx hb hts hiX7 hown hK hP 0 rfl rfl 1 (by decide) fl21 (fun _ h9 => h9) rfl dX7_wall_17 ?_
  refine va_getN (ci := 2) (v := .int g7) (C := RX2) (T := TX2) (N := 7) hx hb hts hiX2 hown hK hP 2 rfl rfl 6 (by decide) fl87 (fun _ h9 => h9) rfl dX7_wall_20 ?_
  refine va_put (ci := 7) (v := .int g7) (ty := .int) (C := RX7) (T := TX7) (N := 11) hx hb hts hiX7 tyX7 tyX7_ok nmX7 hown hK hP (dF hD rfl) hS 0 rfl rfl 10 (by decide) fl71 (fun _ h9 => h9) rfl (by decide +kernel) rfl rfl (Nat.le_of_ble_eq_true rfl) dX7_wall_23 (fun H locs hP _ hS => ?_)
  replace hP : va_P D vwCl [(qt, .inr (7, [.ref qt_text, .ref qt_reader, .ref qt_images, .ref qt_kept, .ref qt_buyers, .ref qt_tries, .ref qt_trial, .ref qt_row, .ref qt_plan, .ref qt_now, .int g7])), (qt_kept, .inl (cZ, 2, .inl ft_kept)), (qt_reader, .inr (2, [.ref qt_text, .ref qt_reader_plan, .ref qt_reader_start, .int g4, .int g5, .int g6, .int g7])), (qt_text, .inr (5, [.ref qt_text_bytes, .int 0])), (qt_text_bytes, .inl (cB, 400, .inl ft_text_bytes)), (qt_reader_plan, .inr (1, [.ref qt_reader_plan_value, .ref qt_reader_plan_weight, .ref qt_reader_plan_slugWeight, .ref qt_reader_plan_rhythm, .ref qt_reader_plan_rhythmLength, .ref qt_reader_plan_paidBy, .int g8, .int g9, .int g10])), (qt_reader_plan_rhythmLength, .inl (cI, 5, .inl g11)), (qt_reader_plan_rhythm, .inl (cI, 5, .inl g12)), (qt_reader_plan_slugWeight, .inl (cI, 5, .inl g13)), (qt_reader_start, .inr (4, [.ref qt_reader_start_tube, .ref qt_reader_start_goods, .ref qt_reader_start_stick, .ref qt_reader_start_kicks, .ref qt_reader_start_kickCount, .ref qt_reader_start_low, .ref qt_reader_start_high, .ref qt_reader_start_price, .ref qt_reader_start_wired, .int g14, .int g15, .int g16, .int g17, .int g18, .int g19])), (qt_reader_start_price, .inl (cI, 5, .inl g20)), (qt_reader_start_low, .inl (cI, 5, .inl g21)), (qt_reader_start_high, .inl (cI, 5, .inl g22)), (qt_reader_start_goods, .inl (cI, 5, .inl g23)), (qt_reader_start_wired, .inl (cI, 5, .inl g24)), (qt_reader_start_stick, .inl (cI, 5, .inl g25)), (qt_reader_start_kicks, .inl (cI, 5, .inl g26)), (qt_reader_start_kickCount, .inl (cI, 5, .inl g27)), (qt_reader_start_tube, .inl (cI, 5, .inl g28)), (qt_reader_plan_value, .inl (cI, 5, .inl g29)), (qt_reader_plan_paidBy, .inl (cI, 5, .inl g30)), (qt_reader_plan_weight, .inl (cI, 5, .inl g31)), (qt_now, .inr (4, [.ref qt_now_tube, .ref qt_now_goods, .ref qt_now_stick, .ref qt_now_kicks, .ref qt_now_kickCount, .ref qt_now_low, .ref qt_now_high, .ref qt_now_price, .ref qt_now_wired, .int it_now_lost, .int it_now_stamps, .int it_now_sales, .int it_now_damp, .int it_now_worn, .int it_now_seed])), (qt_buyers, .inr (0, [.ref qt_buyers_column, .ref qt_buyers_kind, .ref qt_buyers_coins, .int it_buyers_count])), (qt_tries, .inr (6, [.ref qt_tries_row, .ref qt_tries_length, .ref qt_tries_free, .int it_tries_count]))] H := hP
  refine lv_aload_n hx hb dX7_wall_26 rfl (lv_at hl 0 rfl) ?_
  refine va_get (ci := 7) (v := .ref qt_reader) (C := RX7) (T := TX7) (N := 11) hx hb hts hiX7 hown hK hP 0 rfl rfl 1 (by decide) fl21 (fun _ h9 => h9) rfl dX7_wall_27 ?_
  refine va_getN (ci := 2) (v := .int g6) (C := RX2) (T := TX2) (N := 7) hx hb hts hiX2 hown hK hP 2 rfl rfl 5 (by decide) fl88 (fun _ h9 => h9) rfl dX7_wall_30 ?_
  refine lv_if_eq (tgt := 47) hx hb dX7_wall_33 (by decide) (fun c33 => ?_) (fun c33 => ?_)
  · replace h := if_t c33 h
    refine lv_aload_n hx hb dX7_wall_47 rfl (lv_at hl 0 rfl) ?_
    refine va_get (ci := 7) (v := .ref qt_reader) (C := RX7) (T := TX7) (N := 11) hx hb hts hiX7 hown hK hP 0 rfl rfl 1 (by decide) fl21 (fun _ h9 => h9) rfl dX7_wall_48 ?_
    refine va_getN (ci := 2) (v := .ref qt_reader_start) (C := RX2) (T := TX2) (N := 7) hx hb hts hiX2 hown hK hP 2 rfl rfl 2 (by decide) fl91 (fun _ h9 => h9) rfl dX7_wall_51 ?_
    refine lv_aload_n hx hb dX7_wall_54 rfl (lv_at hl 0 rfl) ?_
    refine va_get (ci := 7) (v := .ref qt_now) (C := RX7) (T := TX7) (N := 11) hx hb hts hiX7 hown hK hP 0 rfl rfl 9 (by decide) fl68 (fun _ h9 => h9) rfl dX7_wall_55 ?_
    refine va_getN (ci := 4) (v := .int it_now_seed) (C := RX4) (T := TX4) (N := 15) hx hb hts hiX4 hown hK hP 22 rfl rfl 14 (by decide) fl94 (fun _ h9 => h9) rfl dX7_wall_58 ?_
    refine va_putN (ci := 4) (v := .int it_now_seed) (ty := .int) (C := RX4) (T := TX4) (N := 15) hx hb hts hiX4 tyX4 tyX4_ok nmX4 hown hK hP (dF hD rfl) hS 9 rfl rfl 14 (by decide) fl94 (fun _ h9 => h9) rfl (by decide +kernel) rfl rfl (Nat.le_of_ble_eq_true rfl) dX7_wall_61 (fun H locs hP _ hS => ?_)
    replace hP : va_P D vwCl [(qt, .inr (7, [.ref qt_text, .ref qt_reader, .ref qt_images, .ref qt_kept, .ref qt_buyers, .ref qt_tries, .ref qt_trial, .ref qt_row, .ref qt_plan, .ref qt_now, .int g7])), (qt_kept, .inl (cZ, 2, .inl ft_kept)), (qt_reader, .inr (2, [.ref qt_text, .ref qt_reader_plan, .ref qt_reader_start, .int g4, .int g5, .int g6, .int g7])), (qt_text, .inr (5, [.ref qt_text_bytes, .int 0])), (qt_text_bytes, .inl (cB, 400, .inl ft_text_bytes)), (qt_reader_plan, .inr (1, [.ref qt_reader_plan_value, .ref qt_reader_plan_weight, .ref qt_reader_plan_slugWeight, .ref qt_reader_plan_rhythm, .ref qt_reader_plan_rhythmLength, .ref qt_reader_plan_paidBy, .int g8, .int g9, .int g10])), (qt_reader_plan_rhythmLength, .inl (cI, 5, .inl g11)), (qt_reader_plan_rhythm, .inl (cI, 5, .inl g12)), (qt_reader_plan_slugWeight, .inl (cI, 5, .inl g13)), (qt_reader_start, .inr (4, [.ref qt_reader_start_tube, .ref qt_reader_start_goods, .ref qt_reader_start_stick, .ref qt_reader_start_kicks, .ref qt_reader_start_kickCount, .ref qt_reader_start_low, .ref qt_reader_start_high, .ref qt_reader_start_price, .ref qt_reader_start_wired, .int g14, .int g15, .int g16, .int g17, .int g18, .int it_now_seed])), (qt_reader_start_price, .inl (cI, 5, .inl g20)), (qt_reader_start_low, .inl (cI, 5, .inl g21)), (qt_reader_start_high, .inl (cI, 5, .inl g22)), (qt_reader_start_goods, .inl (cI, 5, .inl g23)), (qt_reader_start_wired, .inl (cI, 5, .inl g24)), (qt_reader_start_stick, .inl (cI, 5, .inl g25)), (qt_reader_start_kicks, .inl (cI, 5, .inl g26)), (qt_reader_start_kickCount, .inl (cI, 5, .inl g27)), (qt_reader_start_tube, .inl (cI, 5, .inl g28)), (qt_reader_plan_value, .inl (cI, 5, .inl g29)), (qt_reader_plan_paidBy, .inl (cI, 5, .inl g30)), (qt_reader_plan_weight, .inl (cI, 5, .inl g31)), (qt_now, .inr (4, [.ref qt_now_tube, .ref qt_now_goods, .ref qt_now_stick, .ref qt_now_kicks, .ref qt_now_kickCount, .ref qt_now_low, .ref qt_now_high, .ref qt_now_price, .ref qt_now_wired, .int it_now_lost, .int it_now_stamps, .int it_now_sales, .int it_now_damp, .int it_now_worn, .int it_now_seed])), (qt_buyers, .inr (0, [.ref qt_buyers_column, .ref qt_buyers_kind, .ref qt_buyers_coins, .int it_buyers_count])), (qt_tries, .inr (6, [.ref qt_tries_row, .ref qt_tries_length, .ref qt_tries_free, .int it_tries_count]))] H := hP
    refine lv_aload_n hx hb dX7_wall_64 rfl (lv_at hl 0 rfl) ?_
    replace h := bd_el h
    obtain ⟨_, hc34, h⟩ := h
    refine callVV (rest := []) ⟨hx, hb, hml, hown, hts⟩ (ctX7_takeOverWhatWasRead l D cI cZ cB cS kK kV _ qt qt_text qt_reader qt_images qt_kept qt_buyers qt_tries qt_trial qt_row qt_plan qt_now qt_reader_plan qt_reader_start g7 g4 g5 g6 g7 N hc34) (cwV 0 hts gX7_wall_X7_takeOverWhatWasRead rfl rfl rfl hdX7_takeOverWhatWasRead ⟨Nat.le_of_ble_eq_true rfl, Nat.le_of_ble_eq_true rfl⟩) hK hN hX hP (dF hD rfl) hS hA [0, 2] (mcC rfl (mcC rfl mcN)) (by decide +kernel) [(qt, .inr (7, [.ref qt_text, .ref qt_reader, .ref qt_images, .ref qt_kept, .ref qt_buyers, .ref qt_tries, .ref qt_trial, .ref qt_row, .ref qt_reader_plan, .ref qt_reader_start, .int g7])), (qt_kept, .inl (cZ, 2, .inl ft_kept)), (qt_reader, .inr (2, [.ref qt_text, .ref qt_plan, .ref qt_now, .int g4, .int g5, .int g6, .int g7])), (qt_text, .inr (5, [.ref qt_text_bytes, .int 0])), (qt_text_bytes, .inl (cB, 400, .inl ft_text_bytes)), (qt_reader_plan, .inr (1, [.ref qt_reader_plan_value, .ref qt_reader_plan_weight, .ref qt_reader_plan_slugWeight, .ref qt_reader_plan_rhythm, .ref qt_reader_plan_rhythmLength, .ref qt_reader_plan_paidBy, .int g8, .int g9, .int g10])), (qt_reader_plan_rhythmLength, .inl (cI, 5, .inl g11)), (qt_reader_plan_rhythm, .inl (cI, 5, .inl g12)), (qt_reader_plan_slugWeight, .inl (cI, 5, .inl g13)), (qt_reader_start, .inr (4, [.ref qt_reader_start_tube, .ref qt_reader_start_goods, .ref qt_reader_start_stick, .ref qt_reader_start_kicks, .ref qt_reader_start_kickCount, .ref qt_reader_start_low, .ref qt_reader_start_high, .ref qt_reader_start_price, .ref qt_reader_start_wired, .int g14, .int g15, .int g16, .int g17, .int g18, .int it_now_seed])), (qt_reader_start_price, .inl (cI, 5, .inl g20)), (qt_reader_start_low, .inl (cI, 5, .inl g21)), (qt_reader_start_high, .inl (cI, 5, .inl g22)), (qt_reader_start_goods, .inl (cI, 5, .inl g23)), (qt_reader_start_wired, .inl (cI, 5, .inl g24)), (qt_reader_start_stick, .inl (cI, 5, .inl g25)), (qt_reader_start_kicks, .inl (cI, 5, .inl g26)), (qt_reader_start_kickCount, .inl (cI, 5, .inl g27)), (qt_reader_start_tube, .inl (cI, 5, .inl g28)), (qt_reader_plan_value, .inl (cI, 5, .inl g29)), (qt_reader_plan_paidBy, .inl (cI, 5, .inl g30)), (qt_reader_plan_weight, .inl (cI, 5, .inl g31)), (qt_now, .inr (4, [.ref qt_now_tube, .ref qt_now_goods, .ref qt_now_stick, .ref qt_now_kicks, .ref qt_now_kickCount, .ref qt_now_low, .ref qt_now_high, .ref qt_now_price, .ref qt_now_wired, .int it_now_lost, .int it_now_stamps, .int it_now_sales, .int it_now_damp, .int it_now_worn, .int it_now_seed])), (qt_buyers, .inr (0, [.ref qt_buyers_column, .ref qt_buyers_kind, .ref qt_buyers_coins, .int it_buyers_count])), (qt_tries, .inr (6, [.ref qt_tries_row, .ref qt_tries_length, .ref qt_tries_free, .int it_tries_count]))] [1, 3, 4, 5, 6, 7, 8, 9, 10, 11, 12, 13, 14, 15, 16, 17, 18, 19, 20, 21, 22, 23, 24] (mcC rfl (mcC rfl mcN)) ((mcC rfl (mcC rfl (mcC rfl (mcC rfl (mcC rfl (mcC rfl (mcC rfl (mcC rfl (mcC rfl (mcC rfl (mcC rfl (mcC rfl (mcC rfl (mcC rfl (mcC rfl (mcC rfl (mcC rfl (mcC rfl (mcC rfl (mcC rfl (mcC rfl (mcC rfl (mcC rfl mcN))))))))))))))))))))))).trans (mcC rfl (mcC rfl (mcC rfl (mcC rfl (mcC rfl (mcC rfl (mcC rfl (mcC rfl (mcC rfl (mcC rfl (mcC rfl (mcC rfl (mcC rfl (mcC rfl (mcC rfl (mcC rfl (mcC rfl (mcC rfl (mcC rfl (mcC rfl (mcC rfl (mcC rfl (mcC rfl mcN))))))))))))))))))))))).symm) 25 rfl (by decide +kernel) (va_recv hK hP (ci := 7) (q0 := 0) rfl rfl) rfl hl.1 rfl (Nat.le_of_ble_eq_true rfl) ⟨Nat.zero_le _, Nat.zero_le _⟩ dX7_wall_65 (fun H locs hP hS => ?_)
    refine lv_aload_n hx hb dX7_wall_68 rfl (lv_at hl 0 rfl) ?_
    refine va_get (ci := 7) (v := .ref qt_buyers) (C := RX7) (T := TX7) (N := 11) hx hb hts hiX7 hown hK hP 0 rfl rfl 4 (by decide) fl38 (fun _ h9 => h9) rfl dX7_wall_69 ?_
    refine lv_iconst (v := 0) hx hb dX7_wall_72 (by decide) ?_
    refine va_putN (ci := 0) (v := .int 0) (ty := .int) (C := RX0) (T := TX0) (N := 4) hx hb hts hiX0 tyX0 tyX0_ok nmX0 hown hK hP (dF hD rfl) hS 23 rfl rfl 3 (by decide) fl100 (fun _ h9 => h9) rfl (by decide +kernel) rfl rfl (Nat.le_of_ble_eq_true rfl) dX7_wall_73 (fun H locs hP _ hS => ?_)
    replace hP : va_P D vwCl [(qt, .inr (7, [.ref qt_text, .ref qt_reader, .ref qt_images, .ref qt_kept, .ref qt_buyers, .ref qt_tries, .ref qt_trial, .ref qt_row, .ref qt_reader_plan, .ref qt_reader_start, .int g7])), (qt_kept, .inl (cZ, 2, .inl ft_kept)), (qt_reader, .inr (2, [.ref qt_text, .ref qt_plan, .ref qt_now, .int g4, .int g5, .int g6, .int g7])), (qt_text, .inr (5, [.ref qt_text_bytes, .int 0])), (qt_text_bytes, .inl (cB, 400, .inl ft_text_bytes)), (qt_reader_plan, .inr (1, [.ref qt_reader_plan_value, .ref qt_reader_plan_weight, .ref qt_reader_plan_slugWeight, .ref qt_reader_plan_rhythm, .ref qt_reader_plan_rhythmLength, .ref qt_reader_plan_paidBy, .int g8, .int g9, .int g10])), (qt_reader_plan_rhythmLength, .inl (cI, 5, .inl g11)), (qt_reader_plan_rhythm, .inl (cI, 5, .inl g12)), (qt_reader_plan_slugWeight, .inl (cI, 5, .inl g13)), (qt_reader_start, .inr (4, [.ref qt_reader_start_tube, .ref qt_reader_start_goods, .ref qt_reader_start_stick, .ref qt_reader_start_kicks, .ref qt_reader_start_kickCount, .ref qt_reader_start_low, .ref qt_reader_start_high, .ref qt_reader_start_price, .ref qt_reader_start_wired, .int g14, .int g15, .int g16, .int g17, .int g18, .int it_now_seed])), (qt_reader_start_price, .inl (cI, 5, .inl g20)), (qt_reader_start_low, .inl (cI, 5, .inl g21)), (qt_reader_start_high, .inl (cI, 5, .inl g22)), (qt_reader_start_goods, .inl (cI, 5, .inl g23)), (qt_reader_start_wired, .inl (cI, 5, .inl g24)), (qt_reader_start_stick, .inl (cI, 5, .inl g25)), (qt_reader_start_kicks, .inl (cI, 5, .inl g26)), (qt_reader_start_kickCount, .inl (cI, 5, .inl g27)), (qt_reader_start_tube, .inl (cI, 5, .inl g28)), (qt_reader_plan_value, .inl (cI, 5, .inl g29)), (qt_reader_plan_paidBy, .inl (cI, 5, .inl g30)), (qt_reader_plan_weight, .inl (cI, 5, .inl g31)), (qt_now, .inr (4, [.ref qt_now_tube, .ref qt_now_goods, .ref qt_now_stick, .ref qt_now_kicks, .ref qt_now_kickCount, .ref qt_now_low, .ref qt_now_high, .ref qt_now_price, .ref qt_now_wired, .int it_now_lost, .int it_now_stamps, .int it_now_sales, .int it_now_damp, .int it_now_worn, .int it_now_seed])), (qt_buyers, .inr (0, [.ref qt_buyers_column, .ref qt_buyers_kind, .ref qt_buyers_coins, .int 0])), (qt_tries, .inr (6, [.ref qt_tries_row, .ref qt_tries_length, .ref qt_tries_free, .int it_tries_count]))] H := hP
    refine lv_aload_n hx hb dX7_wall_76 rfl (lv_at hl 0 rfl) ?_
    refine va_get (ci := 7) (v := .ref qt_tries) (C := RX7) (T := TX7) (N := 11) hx hb hts hiX7 hown hK hP 0 rfl rfl 5 (by decide) fl45 (fun _ h9 => h9) rfl dX7_wall_77 ?_
    refine lv_iconst (v := 0) hx hb dX7_wall_80 (by decide) ?_
    refine va_putN (ci := 6) (v := .int 0) (ty := .int) (C := RX6) (T := TX6) (N := 4) hx hb hts hiX6 tyX6 tyX6_ok nmX6 hown hK hP (dF hD rfl) hS 24 rfl rfl 3 (by decide) fl103 (fun _ h9 => h9) rfl (by decide +kernel) rfl rfl (Nat.le_of_ble_eq_true rfl) dX7_wall_81 (fun H locs hP _ hS => ?_)
    replace hP : va_P D vwCl [(qt, .inr (7, [.ref qt_text, .ref qt_reader, .ref qt_images, .ref qt_kept, .ref qt_buyers, .ref qt_tries, .ref qt_trial, .ref qt_row, .ref qt_reader_plan, .ref qt_reader_start, .int g7])), (qt_kept, .inl (cZ, 2, .inl ft_kept)), (qt_reader, .inr (2, [.ref qt_text, .ref qt_plan, .ref qt_now, .int g4, .int g5, .int g6, .int g7])), (qt_text, .inr (5, [.ref qt_text_bytes, .int 0])), (qt_text_bytes, .inl (cB, 400, .inl ft_text_bytes)), (qt_reader_plan, .inr (1, [.ref qt_reader_plan_value, .ref qt_reader_plan_weight, .ref qt_reader_plan_slugWeight, .ref qt_reader_plan_rhythm, .ref qt_reader_plan_rhythmLength, .ref qt_reader_plan_paidBy, .int g8, .int g9, .int g10])), (qt_reader_plan_rhythmLength, .inl (cI, 5, .inl g11)), (qt_reader_plan_rhythm, .inl (cI, 5, .inl g12)), (qt_reader_plan_slugWeight, .inl (cI, 5, .inl g13)), (qt_reader_start, .inr (4, [.ref qt_reader_start_tube, .ref qt_reader_start_goods, .ref qt_reader_start_stick, .ref qt_reader_start_kicks, .ref qt_reader_start_kickCount, .ref qt_reader_start_low, .ref qt_reader_start_high, .ref qt_reader_start_price, .ref qt_reader_start_wired, .int g14, .int g15, .int g16, .int g17, .int g18, .int it_now_seed])), (qt_reader_start_price, .inl (cI, 5, .inl g20)), (qt_reader_start_low, .inl (cI, 5, .inl g21)), (qt_reader_start_high, .inl (cI, 5, .inl g22)), (qt_reader_start_goods, .inl (cI, 5, .inl g23)), (qt_reader_start_wired, .inl (cI, 5, .inl g24)), (qt_reader_start_stick, .inl (cI, 5, .inl g25)), (qt_reader_start_kicks, .inl (cI, 5, .inl g26)), (qt_reader_start_kickCount, .inl (cI, 5, .inl g27)), (qt_reader_start_tube, .inl (cI, 5, .inl g28)), (qt_reader_plan_value, .inl (cI, 5, .inl g29)), (qt_reader_plan_paidBy, .inl (cI, 5, .inl g30)), (qt_reader_plan_weight, .inl (cI, 5, .inl g31)), (qt_now, .inr (4, [.ref qt_now_tube, .ref qt_now_goods, .ref qt_now_stick, .ref qt_now_kicks, .ref qt_now_kickCount, .ref qt_now_low, .ref qt_now_high, .ref qt_now_price, .ref qt_now_wired, .int it_now_lost, .int it_now_stamps, .int it_now_sales, .int it_now_damp, .int it_now_worn, .int it_now_seed])), (qt_buyers, .inr (0, [.ref qt_buyers_column, .ref qt_buyers_kind, .ref qt_buyers_coins, .int 0])), (qt_tries, .inr (6, [.ref qt_tries_row, .ref qt_tries_length, .ref qt_tries_free, .int 0]))] H := hP
    refine lv_iconst (v := 0) hx hb dX7_wall_84 (by decide) ?_
    refine lv_istore_n (lv' := [(1, .int 0), (0, .ref qt)]) hx hb dX7_wall_85 rfl hl (by decide) rfl (fun ls hl => ?_)
    replace h := bd_el h
    obtain ⟨o35, ho35, h⟩ := h
    refine lp86 N 0 g7 ft_kept g4 g5 g6 g7 0 g8 g9 g10 g11 g12 g13 g14 g15 g16 g17 g18 it_now_seed g20 g21 g22 g23 g24 g25 g26 g27 g28 g29 g30 g31 0 0 _ _ _ o35 ho35 hP hS (lv_sub hl [1, 0] rfl) (fun g36 eo H locs ls hP hS hl => ?_)
    subst eo
    refine lv_aload_n hx hb dX7_wall_104 rfl (lv_at hl 0 rfl) ?_
    refine va_get (ci := 7) (v := .ref qt_reader_plan) (C := RX7) (T := TX7) (N := 11) hx hb hts hiX7 hown hK hP 0 rfl rfl 8 (by decide) fl64 (fun _ h9 => h9) rfl dX7_wall_105 ?_
    refine va_getN (ci := 1) (v := .int g9) (C := RX1) (T := TX1) (N := 9) hx hb hts hiX1 hown hK hP 5 rfl rfl 7 (by decide) fl104 (fun _ h9 => h9) rfl dX7_wall_108 ?_
    simp only [Option.some.injEq, Prod.mk.injEq] at h
    obtain ⟨rfl, rfl, rfl, rfl, rfl, rfl, rfl, rfl, rfl, rfl, rfl, rfl, rfl, rfl, rfl, rfl, rfl, rfl, rfl, rfl, rfl, rfl, rfl, rfl, rfl, rfl, rfl, rfl, rfl, rfl, rfl, rfl, rfl, rfl, rfl, rfl, rfl, rfl⟩ := h
    exact hret _ _ _ _ hP hS rfl dX7_wall_111
  · replace h := if_f c33 h
    refine lv_bipush (v := (-10)) hx hb dX7_wall_36 (by decide) ?_
    refine lv_aload_n hx hb dX7_wall_38 rfl (lv_at hl 0 rfl) ?_
    refine va_get (ci := 7) (v := .ref qt_reader) (C := RX7) (T := TX7) (N := 11) hx hb hts hiX7 hown hK hP 0 rfl rfl 1 (by decide) fl21 (fun _ h9 => h9) rfl dX7_wall_39 ?_
    refine va_getN (ci := 2) (v := .int g6) (C := RX2) (T := TX2) (N := 7) hx hb hts hiX2 hown hK hP 2 rfl rfl 5 (by decide) fl88 (fun _ h9 => h9) rfl dX7_wall_42 ?_
    refine lv_isub hx hb dX7_wall_45 ?_
    refine lv_topi (fun n37 en37 => ?_)
    replace h := lt_at en37 h
    simp only [Option.some.injEq, Prod.mk.injEq] at h
    obtain ⟨rfl, rfl, rfl, rfl, rfl, rfl, rfl, rfl, rfl, rfl, rfl, rfl, rfl, rfl, rfl, rfl, rfl, rfl, rfl, rfl, rfl, rfl, rfl, rfl, rfl, rfl, rfl, rfl, rfl, rfl, rfl, rfl, rfl, rfl, rfl, rfl, rfl, rfl⟩ := h
    exact hret _ _ _ _ hP hS rfl dX7_wall_46
theorem hdX7_wall : yX7_wall.cls = RX7 ∧ yX7_wall.cls ≠ "java/lang/invoke/MethodHandle" ∧ yX7_wall.cls ≠ "java/lang/invoke/VarHandle" ∧ (parseMethodDescriptor yX7_wall.desc).map (fun d => d.parameters.length) = some 0 := by decide +kernel

noncomputable def fX7_fault (N : Nat) (it_faultAt : Int32) : Option (Int32) := some it_faultAt
set_option maxHeartbeats 4000000 in
set_option maxRecDepth 100000 in
theorem ctX7_fault (l : Launch) (D : va_G) (cI cZ cB cS : ClassId) (kK kV : Nat → Nat) (sz : Nat) (qt qt_text qt_reader qt_images qt_kept qt_buyers qt_tries qt_trial qt_row qt_plan qt_now : Nat) (it_faultAt : Int32)  (N : Nat) (r0 : Int32)  (h : fX7_fault N it_faultAt = some r0) : CtI l yX7_fault wsX7_fault { frames := 0, cells := 0, slots := 0, locals := 0 } D (TY cI cZ cB cS) kK kV [.ref qt] [(qt, .inr (7, [.ref qt_text, .ref qt_reader, .ref qt_images, .ref qt_kept, .ref qt_buyers, .ref qt_tries, .ref qt_trial, .ref qt_row, .ref qt_plan, .ref qt_now, .int it_faultAt]))] [(qt, .inr (7, [.ref qt_text, .ref qt_reader, .ref qt_images, .ref qt_kept, .ref qt_buyers, .ref qt_tries, .ref qt_trial, .ref qt_row, .ref qt_plan, .ref qt_now, .int it_faultAt]))] sz r0 := by
  refine mkI (cc := cX7_fault) (maxL := 1) (rt := .int) (own := RX7) (by decide) rfl rfl (Nat.le_of_ble_eq_true rfl) ?_
  intro p e s m args below meth c A Z ls hx hb hml hown hts hK hN hX hP hD hA hS hret hl
  have hl : lv_has ls 1 [(0, .ref qt)] := hl
  have fl71 : (Cond.fieldLink RX7 71 "SoupWall" "faultAt" "I").before args s = true := hts _ (List.mem_of_getElem? (l := wsX7_fault) (i := 1) rfl)
  have hiX7 : ∀ w ∈ wsX70, w ∈ wsX7_fault := fun w h => List.mem_cons_of_mem _ (List.mem_append_right _ h)
  unfold fX7_fault at h
  refine lv_aload_n hx hb dX7_fault_0 rfl (lv_at hl 0 rfl) ?_
  refine va_get (ci := 7) (v := .int it_faultAt) (C := RX7) (T := TX7) (N := 11) hx hb hts hiX7 hown hK hP 0 rfl rfl 10 (by decide) fl71 (fun _ h9 => h9) rfl dX7_fault_1 ?_
  simp only [Option.some.injEq] at h
  subst h
  exact hret _ _ _ _ hP hS rfl dX7_fault_4
theorem hdX7_fault : yX7_fault.cls = RX7 ∧ yX7_fault.cls ≠ "java/lang/invoke/MethodHandle" ∧ yX7_fault.cls ≠ "java/lang/invoke/VarHandle" ∧ (parseMethodDescriptor yX7_fault.desc).map (fun d => d.parameters.length) = some 0 := by decide +kernel

noncomputable def fX7_told (N : Nat) (it_plan_kinds : Int32) (it_plan_columns : Int32) (it_plan_slugs : Int32) (it_text_length : Int32) (it_now_lost : Int32) (it_now_stamps : Int32) (it_now_sales : Int32) (it_now_damp : Int32) (it_now_worn : Int32) (it_buyers_count : Int32) (it_tries_count : Int32) (ft_plan_value : Nat → Int32) (ft_now_tube : Nat → Int32) (x1 : Int32) : Option (Int32) := (if x1 = 0 then some it_plan_kinds else if x1 = 1 then some it_plan_columns else if x1 = 2 then some it_plan_slugs else if x1 = 3 then some it_text_length else if x1 = 4 then some it_now_lost else if x1 = 5 then some it_now_stamps else if x1 = 6 then some it_now_sales else if x1 = 7 then some it_now_damp else if x1 = 8 then some it_now_worn else if x1 = 9 then some it_buyers_count else if x1 = 10 then some it_tries_count else if x1 = 11 then bd (fX1_valueOfTubes N it_plan_kinds ft_plan_value ft_now_tube) fun r13 => some r13 else some (-1000000002))
set_option maxHeartbeats 4000000 in
set_option maxRecDepth 100000 in
theorem ctX7_told (l : Launch) (D : va_G) (cI cZ cB cS : ClassId) (kK kV : Nat → Nat) (sz : Nat) (qt qt_text qt_reader qt_images qt_kept qt_buyers qt_tries qt_trial qt_row qt_plan qt_now qt_plan_value qt_plan_weight qt_plan_slugWeight qt_plan_rhythm qt_plan_rhythmLength qt_plan_paidBy qt_text_bytes qt_now_tube qt_now_goods qt_now_stick qt_now_kicks qt_now_kickCount qt_now_low qt_now_high qt_now_price qt_now_wired qt_buyers_column qt_buyers_kind qt_buyers_coins qt_tries_row qt_tries_length qt_tries_free : Nat) (it_faultAt : Int32) (it_plan_kinds : Int32) (it_plan_columns : Int32) (it_plan_slugs : Int32) (it_text_length : Int32) (it_now_lost : Int32) (it_now_stamps : Int32) (it_now_sales : Int32) (it_now_damp : Int32) (it_now_worn : Int32) (it_now_seed : Int32) (it_buyers_count : Int32) (it_tries_count : Int32) (ft_plan_value : Nat → Int32) (ft_now_tube : Nat → Int32) (x1 : Int32) (N : Nat) (r0 : Int32)  (h : fX7_told N it_plan_kinds it_plan_columns it_plan_slugs it_text_length it_now_lost it_now_stamps it_now_sales it_now_damp it_now_worn it_buyers_count it_tries_count ft_plan_value ft_now_tube x1 = some r0) : CtI l yX7_told wsX7_told { frames := 1, cells := 0, slots := 0, locals := 23 } D (TY cI cZ cB cS) kK kV [.ref qt, .int x1] [(qt, .inr (7, [.ref qt_text, .ref qt_reader, .ref qt_images, .ref qt_kept, .ref qt_buyers, .ref qt_tries, .ref qt_trial, .ref qt_row, .ref qt_plan, .ref qt_now, .int it_faultAt])), (qt_plan, .inr (1, [.ref qt_plan_value, .ref qt_plan_weight, .ref qt_plan_slugWeight, .ref qt_plan_rhythm, .ref qt_plan_rhythmLength, .ref qt_plan_paidBy, .int it_plan_kinds, .int it_plan_columns, .int it_plan_slugs])), (qt_text, .inr (5, [.ref qt_text_bytes, .int it_text_length])), (qt_now, .inr (4, [.ref qt_now_tube, .ref qt_now_goods, .ref qt_now_stick, .ref qt_now_kicks, .ref qt_now_kickCount, .ref qt_now_low, .ref qt_now_high, .ref qt_now_price, .ref qt_now_wired, .int it_now_lost, .int it_now_stamps, .int it_now_sales, .int it_now_damp, .int it_now_worn, .int it_now_seed])), (qt_buyers, .inr (0, [.ref qt_buyers_column, .ref qt_buyers_kind, .ref qt_buyers_coins, .int it_buyers_count])), (qt_tries, .inr (6, [.ref qt_tries_row, .ref qt_tries_length, .ref qt_tries_free, .int it_tries_count])), (qt_plan_value, .inl (cI, 5, .inl ft_plan_value)), (qt_now_tube, .inl (cI, 5, .inl ft_now_tube))] [(qt, .inr (7, [.ref qt_text, .ref qt_reader, .ref qt_images, .ref qt_kept, .ref qt_buyers, .ref qt_tries, .ref qt_trial, .ref qt_row, .ref qt_plan, .ref qt_now, .int it_faultAt])), (qt_plan, .inr (1, [.ref qt_plan_value, .ref qt_plan_weight, .ref qt_plan_slugWeight, .ref qt_plan_rhythm, .ref qt_plan_rhythmLength, .ref qt_plan_paidBy, .int it_plan_kinds, .int it_plan_columns, .int it_plan_slugs])), (qt_text, .inr (5, [.ref qt_text_bytes, .int it_text_length])), (qt_now, .inr (4, [.ref qt_now_tube, .ref qt_now_goods, .ref qt_now_stick, .ref qt_now_kicks, .ref qt_now_kickCount, .ref qt_now_low, .ref qt_now_high, .ref qt_now_price, .ref qt_now_wired, .int it_now_lost, .int it_now_stamps, .int it_now_sales, .int it_now_damp, .int it_now_worn, .int it_now_seed])), (qt_buyers, .inr (0, [.ref qt_buyers_column, .ref qt_buyers_kind, .ref qt_buyers_coins, .int it_buyers_count])), (qt_tries, .inr (6, [.ref qt_tries_row, .ref qt_tries_length, .ref qt_tries_free, .int it_tries_count])), (qt_plan_value, .inl (cI, 5, .inl ft_plan_value)), (qt_now_tube, .inl (cI, 5, .inl ft_now_tube))] sz r0 := by
  refine mkI (cc := cX7_told) (maxL := 2) (rt := .int) (own := RX7) (by decide) rfl rfl (Nat.le_of_ble_eq_true rfl) ?_
  intro p e s m args below meth c A Z ls hx hb hml hown hts hK hN hX hP hD hA hS hret hl
  have hl : lv_has ls 2 [(0, .ref qt), (1, .int x1)] := hl
  have fl64 : (Cond.fieldLink RX7 64 "SoupWall" "plan" "LSoupWall$Plan;").before args s = true := hts _ (List.mem_of_getElem? (l := wsX7_told) (i := 1) rfl)
  have hiX7 : ∀ w ∈ wsX70, w ∈ wsX7_told := fun w h => List.mem_cons_of_mem _ (List.mem_append_left _ (List.mem_append_left _ (List.mem_append_left _ (List.mem_append_left _ (List.mem_append_left _ (List.mem_append_right _ h))))))
  have fl108 : (Cond.fieldLinkNest "SoupWall" 108 "SoupWall$Plan" "kinds" "I" "SoupWall").before args s = true := hN.f 5 rfl
  have hiX1 : ∀ w ∈ wsX10, w ∈ wsX7_told := fun w h => List.mem_cons_of_mem _ (List.mem_append_left _ (List.mem_append_left _ (List.mem_append_left _ (List.mem_append_left _ (List.mem_append_right _ h)))))
  have fl104 : (Cond.fieldLinkNest "SoupWall" 104 "SoupWall$Plan" "columns" "I" "SoupWall").before args s = true := hN.f 6 rfl
  have fl111 : (Cond.fieldLinkNest "SoupWall" 111 "SoupWall$Plan" "slugs" "I" "SoupWall").before args s = true := hN.f 9 rfl
  have fl10 : (Cond.fieldLink RX7 10 "SoupWall" "text" "LSoupWall$Text;").before args s = true := hts _ (List.mem_of_getElem? (l := wsX7_told) (i := 2) rfl)
  have fl76 : (Cond.fieldLinkNest "SoupWall" 76 "SoupWall$Text" "length" "I" "SoupWall").before args s = true := hN.f 0 rfl
  have hiX5 : ∀ w ∈ wsX50, w ∈ wsX7_told := fun w h => List.mem_cons_of_mem _ (List.mem_append_left _ (List.mem_append_left _ (List.mem_append_left _ (List.mem_append_right _ h))))
  have fl68 : (Cond.fieldLink RX7 68 "SoupWall" "now" "LSoupWall$State;").before args s = true := hts _ (List.mem_of_getElem? (l := wsX7_told) (i := 3) rfl)
  have fl114 : (Cond.fieldLinkNest "SoupWall" 114 "SoupWall$State" "lost" "I" "SoupWall").before args s = true := hN.f 27 rfl
  have hiX4 : ∀ w ∈ wsX40, w ∈ wsX7_told := fun w h => List.mem_cons_of_mem _ (List.mem_append_left _ (List.mem_append_left _ (List.mem_append_right _ h)))
  have fl117 : (Cond.fieldLinkNest "SoupWall" 117 "SoupWall$State" "stamps" "I" "SoupWall").before args s = true := hN.f 28 rfl
  have fl120 : (Cond.fieldLinkNest "SoupWall" 120 "SoupWall$State" "sales" "I" "SoupWall").before args s = true := hN.f 30 rfl
  have fl123 : (Cond.fieldLinkNest "SoupWall" 123 "SoupWall$State" "damp" "I" "SoupWall").before args s = true := hN.f 32 rfl
  have fl126 : (Cond.fieldLinkNest "SoupWall" 126 "SoupWall$State" "worn" "I" "SoupWall").before args s = true := hN.f 34 rfl
  have fl38 : (Cond.fieldLink RX7 38 "SoupWall" "buyers" "LSoupWall$Buyers;").before args s = true := hts _ (List.mem_of_getElem? (l := wsX7_told) (i := 4) rfl)
  have fl100 : (Cond.fieldLinkNest "SoupWall" 100 "SoupWall$Buyers" "count" "I" "SoupWall").before args s = true := hN.f 44 rfl
  have hiX0 : ∀ w ∈ wsX00, w ∈ wsX7_told := fun w h => List.mem_cons_of_mem _ (List.mem_append_left _ (List.mem_append_right _ h))
  have fl45 : (Cond.fieldLink RX7 45 "SoupWall" "tries" "LSoupWall$Tries;").before args s = true := hts _ (List.mem_of_getElem? (l := wsX7_told) (i := 5) rfl)
  have fl103 : (Cond.fieldLinkNest "SoupWall" 103 "SoupWall$Tries" "count" "I" "SoupWall").before args s = true := hN.f 45 rfl
  have hiX6 : ∀ w ∈ wsX60, w ∈ wsX7_told := fun w h => List.mem_cons_of_mem _ (List.mem_append_right _ h)
  have cn75 : (Cond.constant RX7 75 (-1000000002)).before args s = true := hts _ (List.mem_of_getElem? (l := wsX7_told) (i := 6) rfl)
  unfold fX7_told at h
  refine lv_iload_n hx hb dX7_told_0 rfl (lv_at hl 1 rfl) ?_
  by_cases c1 : x1 = 0
  · replace h := if_t c1 h
    refine lv_tableIn (off := 63) (tgt := 64) hx hb dX7_told_1 (by rw [c1]; decide) (by rw [c1]; decide) (by rw [c1]; rfl) (by decide) ?_
    refine lv_aload_n hx hb dX7_told_64 rfl (lv_at hl 0 rfl) ?_
    refine va_get (ci := 7) (v := .ref qt_plan) (C := RX7) (T := TX7) (N := 11) hx hb hts hiX7 hown hK hP 0 rfl rfl 8 (by decide) fl64 (fun _ h9 => h9) rfl dX7_told_65 ?_
    refine va_getN (ci := 1) (v := .int it_plan_kinds) (C := RX1) (T := TX1) (N := 9) hx hb hts hiX1 hown hK hP 1 rfl rfl 6 (by decide) fl108 (fun _ h9 => h9) rfl dX7_told_68 ?_
    simp only [Option.some.injEq] at h
    subst h
    exact hret _ _ _ _ hP hS rfl dX7_told_71
  replace h := if_f c1 h
  by_cases c2 : x1 = 1
  · replace h := if_t c2 h
    refine lv_tableIn (off := 71) (tgt := 72) hx hb dX7_told_1 (by rw [c2]; decide) (by rw [c2]; decide) (by rw [c2]; rfl) (by decide) ?_
    refine lv_aload_n hx hb dX7_told_72 rfl (lv_at hl 0 rfl) ?_
    refine va_get (ci := 7) (v := .ref qt_plan) (C := RX7) (T := TX7) (N := 11) hx hb hts hiX7 hown hK hP 0 rfl rfl 8 (by decide) fl64 (fun _ h9 => h9) rfl dX7_told_73 ?_
    refine va_getN (ci := 1) (v := .int it_plan_columns) (C := RX1) (T := TX1) (N := 9) hx hb hts hiX1 hown hK hP 1 rfl rfl 7 (by decide) fl104 (fun _ h9 => h9) rfl dX7_told_76 ?_
    simp only [Option.some.injEq] at h
    subst h
    exact hret _ _ _ _ hP hS rfl dX7_told_79
  replace h := if_f c2 h
  by_cases c3 : x1 = 2
  · replace h := if_t c3 h
    refine lv_tableIn (off := 79) (tgt := 80) hx hb dX7_told_1 (by rw [c3]; decide) (by rw [c3]; decide) (by rw [c3]; rfl) (by decide) ?_
    refine lv_aload_n hx hb dX7_told_80 rfl (lv_at hl 0 rfl) ?_
    refine va_get (ci := 7) (v := .ref qt_plan) (C := RX7) (T := TX7) (N := 11) hx hb hts hiX7 hown hK hP 0 rfl rfl 8 (by decide) fl64 (fun _ h9 => h9) rfl dX7_told_81 ?_
    refine va_getN (ci := 1) (v := .int it_plan_slugs) (C := RX1) (T := TX1) (N := 9) hx hb hts hiX1 hown hK hP 1 rfl rfl 8 (by decide) fl111 (fun _ h9 => h9) rfl dX7_told_84 ?_
    simp only [Option.some.injEq] at h
    subst h
    exact hret _ _ _ _ hP hS rfl dX7_told_87
  replace h := if_f c3 h
  by_cases c4 : x1 = 3
  · replace h := if_t c4 h
    refine lv_tableIn (off := 87) (tgt := 88) hx hb dX7_told_1 (by rw [c4]; decide) (by rw [c4]; decide) (by rw [c4]; rfl) (by decide) ?_
    refine lv_aload_n hx hb dX7_told_88 rfl (lv_at hl 0 rfl) ?_
    refine va_get (ci := 7) (v := .ref qt_text) (C := RX7) (T := TX7) (N := 11) hx hb hts hiX7 hown hK hP 0 rfl rfl 0 (by decide) fl10 (fun _ h9 => h9) rfl dX7_told_89 ?_
    refine va_getN (ci := 5) (v := .int it_text_length) (C := RX5) (T := TX5) (N := 2) hx hb hts hiX5 hown hK hP 2 rfl rfl 1 (by decide) fl76 (fun _ h9 => h9) rfl dX7_told_92 ?_
    simp only [Option.some.injEq] at h
    subst h
    exact hret _ _ _ _ hP hS rfl dX7_told_95
  replace h := if_f c4 h
  by_cases c5 : x1 = 4
  · replace h := if_t c5 h
    refine lv_tableIn (off := 95) (tgt := 96) hx hb dX7_told_1 (by rw [c5]; decide) (by rw [c5]; decide) (by rw [c5]; rfl) (by decide) ?_
    refine lv_aload_n hx hb dX7_told_96 rfl (lv_at hl 0 rfl) ?_
    refine va_get (ci := 7) (v := .ref qt_now) (C := RX7) (T := TX7) (N := 11) hx hb hts hiX7 hown hK hP 0 rfl rfl 9 (by decide) fl68 (fun _ h9 => h9) rfl dX7_told_97 ?_
    refine va_getN (ci := 4) (v := .int it_now_lost) (C := RX4) (T := TX4) (N := 15) hx hb hts hiX4 hown hK hP 3 rfl rfl 9 (by decide) fl114 (fun _ h9 => h9) rfl dX7_told_100 ?_
    simp only [Option.some.injEq] at h
    subst h
    exact hret _ _ _ _ hP hS rfl dX7_told_103
  replace h := if_f c5 h
  by_cases c6 : x1 = 5
  · replace h := if_t c6 h
    refine lv_tableIn (off := 103) (tgt := 104) hx hb dX7_told_1 (by rw [c6]; decide) (by rw [c6]; decide) (by rw [c6]; rfl) (by decide) ?_
    refine lv_aload_n hx hb dX7_told_104 rfl (lv_at hl 0 rfl) ?_
    refine va_get (ci := 7) (v := .ref qt_now) (C := RX7) (T := TX7) (N := 11) hx hb hts hiX7 hown hK hP 0 rfl rfl 9 (by decide) fl68 (fun _ h9 => h9) rfl dX7_told_105 ?_
    refine va_getN (ci := 4) (v := .int it_now_stamps) (C := RX4) (T := TX4) (N := 15) hx hb hts hiX4 hown hK hP 3 rfl rfl 10 (by decide) fl117 (fun _ h9 => h9) rfl dX7_told_108 ?_
    simp only [Option.some.injEq] at h
    subst h
    exact hret _ _ _ _ hP hS rfl dX7_told_111
  replace h := if_f c6 h
  by_cases c7 : x1 = 6
  · replace h := if_t c7 h
    refine lv_tableIn (off := 111) (tgt := 112) hx hb dX7_told_1 (by rw [c7]; decide) (by rw [c7]; decide) (by rw [c7]; rfl) (by decide) ?_
    refine lv_aload_n hx hb dX7_told_112 rfl (lv_at hl 0 rfl) ?_
    refine va_get (ci := 7) (v := .ref qt_now) (C := RX7) (T := TX7) (N := 11) hx hb hts hiX7 hown hK hP 0 rfl rfl 9 (by decide) fl68 (fun _ h9 => h9) rfl dX7_told_113 ?_
    refine va_getN (ci := 4) (v := .int it_now_sales) (C := RX4) (T := TX4) (N := 15) hx hb hts hiX4 hown hK hP 3 rfl rfl 11 (by decide) fl120 (fun _ h9 => h9) rfl dX7_told_116 ?_
    simp only [Option.some.injEq] at h
    subst h
    exact hret _ _ _ _ hP hS rfl dX7_told_119
  replace h := if_f c7 h
  by_cases c8 : x1 = 7
  · replace h := if_t c8 h
    refine lv_tableIn (off := 119) (tgt := 120) hx hb dX7_told_1 (by rw [c8]; decide) (by rw [c8]; decide) (by rw [c8]; rfl) (by decide) ?_
    refine lv_aload_n hx hb dX7_told_120 rfl (lv_at hl 0 rfl) ?_
    refine va_get (ci := 7) (v := .ref qt_now) (C := RX7) (T := TX7) (N := 11) hx hb hts hiX7 hown hK hP 0 rfl rfl 9 (by decide) fl68 (fun _ h9 => h9) rfl dX7_told_121 ?_
    refine va_getN (ci := 4) (v := .int it_now_damp) (C := RX4) (T := TX4) (N := 15) hx hb hts hiX4 hown hK hP 3 rfl rfl 12 (by decide) fl123 (fun _ h9 => h9) rfl dX7_told_124 ?_
    simp only [Option.some.injEq] at h
    subst h
    exact hret _ _ _ _ hP hS rfl dX7_told_127
  replace h := if_f c8 h
  by_cases c9 : x1 = 8
  · replace h := if_t c9 h
    refine lv_tableIn (off := 127) (tgt := 128) hx hb dX7_told_1 (by rw [c9]; decide) (by rw [c9]; decide) (by rw [c9]; rfl) (by decide) ?_
    refine lv_aload_n hx hb dX7_told_128 rfl (lv_at hl 0 rfl) ?_
    refine va_get (ci := 7) (v := .ref qt_now) (C := RX7) (T := TX7) (N := 11) hx hb hts hiX7 hown hK hP 0 rfl rfl 9 (by decide) fl68 (fun _ h9 => h9) rfl dX7_told_129 ?_
    refine va_getN (ci := 4) (v := .int it_now_worn) (C := RX4) (T := TX4) (N := 15) hx hb hts hiX4 hown hK hP 3 rfl rfl 13 (by decide) fl126 (fun _ h9 => h9) rfl dX7_told_132 ?_
    simp only [Option.some.injEq] at h
    subst h
    exact hret _ _ _ _ hP hS rfl dX7_told_135
  replace h := if_f c9 h
  by_cases c10 : x1 = 9
  · replace h := if_t c10 h
    refine lv_tableIn (off := 135) (tgt := 136) hx hb dX7_told_1 (by rw [c10]; decide) (by rw [c10]; decide) (by rw [c10]; rfl) (by decide) ?_
    refine lv_aload_n hx hb dX7_told_136 rfl (lv_at hl 0 rfl) ?_
    refine va_get (ci := 7) (v := .ref qt_buyers) (C := RX7) (T := TX7) (N := 11) hx hb hts hiX7 hown hK hP 0 rfl rfl 4 (by decide) fl38 (fun _ h9 => h9) rfl dX7_told_137 ?_
    refine va_getN (ci := 0) (v := .int it_buyers_count) (C := RX0) (T := TX0) (N := 4) hx hb hts hiX0 hown hK hP 4 rfl rfl 3 (by decide) fl100 (fun _ h9 => h9) rfl dX7_told_140 ?_
    simp only [Option.some.injEq] at h
    subst h
    exact hret _ _ _ _ hP hS rfl dX7_told_143
  replace h := if_f c10 h
  by_cases c11 : x1 = 10
  · replace h := if_t c11 h
    refine lv_tableIn (off := 143) (tgt := 144) hx hb dX7_told_1 (by rw [c11]; decide) (by rw [c11]; decide) (by rw [c11]; rfl) (by decide) ?_
    refine lv_aload_n hx hb dX7_told_144 rfl (lv_at hl 0 rfl) ?_
    refine va_get (ci := 7) (v := .ref qt_tries) (C := RX7) (T := TX7) (N := 11) hx hb hts hiX7 hown hK hP 0 rfl rfl 5 (by decide) fl45 (fun _ h9 => h9) rfl dX7_told_145 ?_
    refine va_getN (ci := 6) (v := .int it_tries_count) (C := RX6) (T := TX6) (N := 4) hx hb hts hiX6 hown hK hP 5 rfl rfl 3 (by decide) fl103 (fun _ h9 => h9) rfl dX7_told_148 ?_
    simp only [Option.some.injEq] at h
    subst h
    exact hret _ _ _ _ hP hS rfl dX7_told_151
  replace h := if_f c11 h
  by_cases c12 : x1 = 11
  · replace h := if_t c12 h
    refine lv_tableIn (off := 151) (tgt := 152) hx hb dX7_told_1 (by rw [c12]; decide) (by rw [c12]; decide) (by rw [c12]; rfl) (by decide) ?_
    refine lv_aload_n hx hb dX7_told_152 rfl (lv_at hl 0 rfl) ?_
    refine va_get (ci := 7) (v := .ref qt_plan) (C := RX7) (T := TX7) (N := 11) hx hb hts hiX7 hown hK hP 0 rfl rfl 8 (by decide) fl64 (fun _ h9 => h9) rfl dX7_told_153 ?_
    refine lv_aload_n hx hb dX7_told_156 rfl (lv_at hl 0 rfl) ?_
    refine va_get (ci := 7) (v := .ref qt_now) (C := RX7) (T := TX7) (N := 11) hx hb hts hiX7 hown hK hP 0 rfl rfl 9 (by decide) fl68 (fun _ h9 => h9) rfl dX7_told_157 ?_
    replace h := bd_el h
    obtain ⟨r13, hc14, h⟩ := h
    refine callVI (rest := []) ⟨hx, hb, hml, hown, hts⟩ (ctX1_valueOfTubes l D cI cZ cB cS kK kV _ qt_plan qt_plan_value qt_plan_weight qt_plan_slugWeight qt_plan_rhythm qt_plan_rhythmLength qt_plan_paidBy qt_now qt_now_tube qt_now_goods qt_now_stick qt_now_kicks qt_now_kickCount qt_now_low qt_now_high qt_now_price qt_now_wired it_plan_kinds it_plan_columns it_plan_slugs it_now_lost it_now_stamps it_now_sales it_now_damp it_now_worn it_now_seed ft_plan_value ft_now_tube N r13 hc14) (cwV 1 hts gX7_told_X1_valueOfTubes rfl rfl rfl hdX1_valueOfTubes ⟨Nat.le_of_ble_eq_true rfl, Nat.le_of_ble_eq_true rfl⟩) hK hN hX hP (dF hD rfl) hS hA [1, 3, 6, 7] (mcC rfl (mcC rfl (mcC rfl (mcC rfl mcN)))) (by decide +kernel) [(qt, .inr (7, [.ref qt_text, .ref qt_reader, .ref qt_images, .ref qt_kept, .ref qt_buyers, .ref qt_tries, .ref qt_trial, .ref qt_row, .ref qt_plan, .ref qt_now, .int it_faultAt])), (qt_plan, .inr (1, [.ref qt_plan_value, .ref qt_plan_weight, .ref qt_plan_slugWeight, .ref qt_plan_rhythm, .ref qt_plan_rhythmLength, .ref qt_plan_paidBy, .int it_plan_kinds, .int it_plan_columns, .int it_plan_slugs])), (qt_text, .inr (5, [.ref qt_text_bytes, .int it_text_length])), (qt_now, .inr (4, [.ref qt_now_tube, .ref qt_now_goods, .ref qt_now_stick, .ref qt_now_kicks, .ref qt_now_kickCount, .ref qt_now_low, .ref qt_now_high, .ref qt_now_price, .ref qt_now_wired, .int it_now_lost, .int it_now_stamps, .int it_now_sales, .int it_now_damp, .int it_now_worn, .int it_now_seed])), (qt_buyers, .inr (0, [.ref qt_buyers_column, .ref qt_buyers_kind, .ref qt_buyers_coins, .int it_buyers_count])), (qt_tries, .inr (6, [.ref qt_tries_row, .ref qt_tries_length, .ref qt_tries_free, .int it_tries_count])), (qt_plan_value, .inl (cI, 5, .inl ft_plan_value)), (qt_now_tube, .inl (cI, 5, .inl ft_now_tube))] [0, 2, 4, 5] (mcC rfl (mcC rfl (mcC rfl (mcC rfl mcN)))) ((mcC rfl (mcC rfl (mcC rfl (mcC rfl mcN)))).trans (mcC rfl (mcC rfl (mcC rfl (mcC rfl mcN)))).symm) 8 rfl (by decide +kernel) (va_recv hK hP (ci := 1) (q0 := 1) rfl rfl) rfl hl.1 rfl (Nat.le_of_ble_eq_true rfl) ⟨Nat.zero_le _, Nat.zero_le _⟩ dX7_told_160 (fun H locs hP hS => ?_)
    simp only [Option.some.injEq] at h
    subst h
    exact hret _ _ _ _ hP hS rfl dX7_told_163
  replace h := if_f c12 h
  have tc1 : (x1 : Int32).toInt ≠ 0 := sw_ne c1
  have tc2 : (x1 : Int32).toInt ≠ 1 := sw_ne c2
  have tc3 : (x1 : Int32).toInt ≠ 2 := sw_ne c3
  have tc4 : (x1 : Int32).toInt ≠ 3 := sw_ne c4
  have tc5 : (x1 : Int32).toInt ≠ 4 := sw_ne c5
  have tc6 : (x1 : Int32).toInt ≠ 5 := sw_ne c6
  have tc7 : (x1 : Int32).toInt ≠ 6 := sw_ne c7
  have tc8 : (x1 : Int32).toInt ≠ 7 := sw_ne c8
  have tc9 : (x1 : Int32).toInt ≠ 8 := sw_ne c9
  have tc10 : (x1 : Int32).toInt ≠ 9 := sw_ne c10
  have tc11 : (x1 : Int32).toInt ≠ 10 := sw_ne c11
  have tc12 : (x1 : Int32).toInt ≠ 11 := sw_ne c12
  refine lv_tableOut (tgt := 164) hx hb dX7_told_1 (by omega) (by decide) ?_
  refine lv_ldc (v := (-1000000002)) hx hb hown cn75 dX7_told_164 ?_
  simp only [Option.some.injEq] at h
  subst h
  exact hret _ _ _ _ hP hS rfl dX7_told_166
theorem hdX7_told : yX7_told.cls = RX7 ∧ yX7_told.cls ≠ "java/lang/invoke/MethodHandle" ∧ yX7_told.cls ≠ "java/lang/invoke/VarHandle" ∧ (parseMethodDescriptor yX7_told.desc).map (fun d => d.parameters.length) = some 1 := by decide +kernel

noncomputable def fX7_coin (N : Nat) (it_plan_kinds : Int32) (it_plan_columns : Int32) (ft_plan_value : Nat → Int32) (ft_plan_weight : Nat → Int32) (it_now_worn : Int32) (ft_now_tube : Nat → Int32) (ft_now_low : Nat → Int32) (ft_now_high : Nat → Int32) (x1 : Int32) (x2 : Int32) : Option (Int32) := bd (fX1_isKind N it_plan_kinds x1) fun r1 => (if r1 = 0 then some (-1000000001) else (if x2 = 0 then ck x1 5 (lt (ft_plan_value (Int32.toNatClampNeg x1)) fun n6 => some n6) else if x2 = 1 then ck x1 5 (lt (ft_plan_weight (Int32.toNatClampNeg x1)) fun n9 => some n9) else if x2 = 2 then bd (fX1_weightNow N it_now_worn ft_plan_weight x1) fun r11 => some r11 else if x2 = 3 then ck x1 5 (lt (ft_now_tube (Int32.toNatClampNeg x1)) fun n15 => some n15) else if x2 = 4 then bd (fX1_columnsPassedBy N it_plan_columns it_now_worn ft_plan_weight ft_now_low ft_now_high x1) fun r17 => some r17 else some (-1000000002)))
set_option maxHeartbeats 4000000 in
set_option maxRecDepth 100000 in
theorem ctX7_coin (l : Launch) (D : va_G) (cI cZ cB cS : ClassId) (kK kV : Nat → Nat) (sz : Nat) (qt qt_text qt_reader qt_images qt_kept qt_buyers qt_tries qt_trial qt_row qt_plan qt_now qt_plan_value qt_plan_weight qt_plan_slugWeight qt_plan_rhythm qt_plan_rhythmLength qt_plan_paidBy qt_now_tube qt_now_goods qt_now_stick qt_now_kicks qt_now_kickCount qt_now_low qt_now_high qt_now_price qt_now_wired : Nat) (it_faultAt : Int32) (it_plan_kinds : Int32) (it_plan_columns : Int32) (it_plan_slugs : Int32) (ft_plan_value : Nat → Int32) (ft_plan_weight : Nat → Int32) (it_now_lost : Int32) (it_now_stamps : Int32) (it_now_sales : Int32) (it_now_damp : Int32) (it_now_worn : Int32) (it_now_seed : Int32) (ft_now_tube : Nat → Int32) (ft_now_low : Nat → Int32) (ft_now_high : Nat → Int32) (x1 : Int32) (x2 : Int32) (N : Nat) (r0 : Int32)  (h : fX7_coin N it_plan_kinds it_plan_columns ft_plan_value ft_plan_weight it_now_worn ft_now_tube ft_now_low ft_now_high x1 x2 = some r0) : CtI l yX7_coin wsX7_coin { frames := 3, cells := 0, slots := 0, locals := 69 } D (TY cI cZ cB cS) kK kV [.ref qt, .int x1, .int x2] [(qt, .inr (7, [.ref qt_text, .ref qt_reader, .ref qt_images, .ref qt_kept, .ref qt_buyers, .ref qt_tries, .ref qt_trial, .ref qt_row, .ref qt_plan, .ref qt_now, .int it_faultAt])), (qt_plan, .inr (1, [.ref qt_plan_value, .ref qt_plan_weight, .ref qt_plan_slugWeight, .ref qt_plan_rhythm, .ref qt_plan_rhythmLength, .ref qt_plan_paidBy, .int it_plan_kinds, .int it_plan_columns, .int it_plan_slugs])), (qt_plan_value, .inl (cI, 5, .inl ft_plan_value)), (qt_plan_weight, .inl (cI, 5, .inl ft_plan_weight)), (qt_now, .inr (4, [.ref qt_now_tube, .ref qt_now_goods, .ref qt_now_stick, .ref qt_now_kicks, .ref qt_now_kickCount, .ref qt_now_low, .ref qt_now_high, .ref qt_now_price, .ref qt_now_wired, .int it_now_lost, .int it_now_stamps, .int it_now_sales, .int it_now_damp, .int it_now_worn, .int it_now_seed])), (qt_now_tube, .inl (cI, 5, .inl ft_now_tube)), (qt_now_low, .inl (cI, 5, .inl ft_now_low)), (qt_now_high, .inl (cI, 5, .inl ft_now_high))] [(qt, .inr (7, [.ref qt_text, .ref qt_reader, .ref qt_images, .ref qt_kept, .ref qt_buyers, .ref qt_tries, .ref qt_trial, .ref qt_row, .ref qt_plan, .ref qt_now, .int it_faultAt])), (qt_plan, .inr (1, [.ref qt_plan_value, .ref qt_plan_weight, .ref qt_plan_slugWeight, .ref qt_plan_rhythm, .ref qt_plan_rhythmLength, .ref qt_plan_paidBy, .int it_plan_kinds, .int it_plan_columns, .int it_plan_slugs])), (qt_plan_value, .inl (cI, 5, .inl ft_plan_value)), (qt_plan_weight, .inl (cI, 5, .inl ft_plan_weight)), (qt_now, .inr (4, [.ref qt_now_tube, .ref qt_now_goods, .ref qt_now_stick, .ref qt_now_kicks, .ref qt_now_kickCount, .ref qt_now_low, .ref qt_now_high, .ref qt_now_price, .ref qt_now_wired, .int it_now_lost, .int it_now_stamps, .int it_now_sales, .int it_now_damp, .int it_now_worn, .int it_now_seed])), (qt_now_tube, .inl (cI, 5, .inl ft_now_tube)), (qt_now_low, .inl (cI, 5, .inl ft_now_low)), (qt_now_high, .inl (cI, 5, .inl ft_now_high))] sz r0 := by
  refine mkI (cc := cX7_coin) (maxL := 3) (rt := .int) (own := RX7) (by decide) rfl rfl (Nat.le_of_ble_eq_true rfl) ?_
  intro p e s m args below meth c A Z ls hx hb hml hown hts hK hN hX hP hD hA hS hret hl
  have hl : lv_has ls 3 [(0, .ref qt), (1, .int x1), (2, .int x2)] := hl
  have fl64 : (Cond.fieldLink RX7 64 "SoupWall" "plan" "LSoupWall$Plan;").before args s = true := hts _ (List.mem_of_getElem? (l := wsX7_coin) (i := 1) rfl)
  have hiX7 : ∀ w ∈ wsX70, w ∈ wsX7_coin := fun w h => List.mem_cons_of_mem _ (List.mem_append_left _ (List.mem_append_left _ (List.mem_append_right _ h)))
  have fl138 : (Cond.fieldLinkNest "SoupWall" 138 "SoupWall$Plan" "value" "[I" "SoupWall").before args s = true := hN.f 2 rfl
  have hiX1 : ∀ w ∈ wsX10, w ∈ wsX7_coin := fun w h => List.mem_cons_of_mem _ (List.mem_append_left _ (List.mem_append_right _ h))
  have fl142 : (Cond.fieldLinkNest "SoupWall" 142 "SoupWall$Plan" "weight" "[I" "SoupWall").before args s = true := hN.f 3 rfl
  have fl68 : (Cond.fieldLink RX7 68 "SoupWall" "now" "LSoupWall$State;").before args s = true := hts _ (List.mem_of_getElem? (l := wsX7_coin) (i := 3) rfl)
  have fl149 : (Cond.fieldLinkNest "SoupWall" 149 "SoupWall$State" "tube" "[I" "SoupWall").before args s = true := hN.f 11 rfl
  have hiX4 : ∀ w ∈ wsX40, w ∈ wsX7_coin := fun w h => List.mem_cons_of_mem _ (List.mem_append_right _ h)
  have cn75 : (Cond.constant RX7 75 (-1000000002)).before args s = true := hts _ (List.mem_of_getElem? (l := wsX7_coin) (i := 4) rfl)
  have cn137 : (Cond.constant RX7 137 (-1000000001)).before args s = true := hts _ (List.mem_of_getElem? (l := wsX7_coin) (i := 2) rfl)
  unfold fX7_coin at h
  refine lv_aload_n hx hb dX7_coin_0 rfl (lv_at hl 0 rfl) ?_
  refine va_get (ci := 7) (v := .ref qt_plan) (C := RX7) (T := TX7) (N := 11) hx hb hts hiX7 hown hK hP 0 rfl rfl 8 (by decide) fl64 (fun _ h9 => h9) rfl dX7_coin_1 ?_
  refine lv_iload_n hx hb dX7_coin_4 rfl (lv_at hl 1 rfl) ?_
  replace h := bd_el h
  obtain ⟨r1, hc2, h⟩ := h
  refine callVI (rest := []) ⟨hx, hb, hml, hown, hts⟩ (ctX1_isKind l D cI cZ cB cS kK kV _ qt_plan qt_plan_value qt_plan_weight qt_plan_slugWeight qt_plan_rhythm qt_plan_rhythmLength qt_plan_paidBy it_plan_kinds it_plan_columns it_plan_slugs x1 N r1 hc2) (cwV 1 hts gX7_coin_X1_isKind rfl rfl rfl hdX1_isKind ⟨Nat.le_of_ble_eq_true rfl, Nat.le_of_ble_eq_true rfl⟩) hK hN hX hP (dF hD rfl) hS hA [1] (mcC rfl mcN) (by decide +kernel) [(qt, .inr (7, [.ref qt_text, .ref qt_reader, .ref qt_images, .ref qt_kept, .ref qt_buyers, .ref qt_tries, .ref qt_trial, .ref qt_row, .ref qt_plan, .ref qt_now, .int it_faultAt])), (qt_plan, .inr (1, [.ref qt_plan_value, .ref qt_plan_weight, .ref qt_plan_slugWeight, .ref qt_plan_rhythm, .ref qt_plan_rhythmLength, .ref qt_plan_paidBy, .int it_plan_kinds, .int it_plan_columns, .int it_plan_slugs])), (qt_plan_value, .inl (cI, 5, .inl ft_plan_value)), (qt_plan_weight, .inl (cI, 5, .inl ft_plan_weight)), (qt_now, .inr (4, [.ref qt_now_tube, .ref qt_now_goods, .ref qt_now_stick, .ref qt_now_kicks, .ref qt_now_kickCount, .ref qt_now_low, .ref qt_now_high, .ref qt_now_price, .ref qt_now_wired, .int it_now_lost, .int it_now_stamps, .int it_now_sales, .int it_now_damp, .int it_now_worn, .int it_now_seed])), (qt_now_tube, .inl (cI, 5, .inl ft_now_tube)), (qt_now_low, .inl (cI, 5, .inl ft_now_low)), (qt_now_high, .inl (cI, 5, .inl ft_now_high))] [0, 2, 3, 4, 5, 6, 7] (mcC rfl mcN) ((mcC rfl (mcC rfl (mcC rfl (mcC rfl (mcC rfl (mcC rfl (mcC rfl mcN))))))).trans (mcC rfl (mcC rfl (mcC rfl (mcC rfl (mcC rfl (mcC rfl (mcC rfl mcN))))))).symm) 8 rfl (by decide +kernel) (va_recv hK hP (ci := 1) (q0 := 1) rfl rfl) rfl hl.1 rfl (Nat.le_of_ble_eq_true rfl) ⟨Nat.zero_le _, Nat.zero_le _⟩ dX7_coin_5 (fun H locs hP hS => ?_)
  refine lv_if_ne (tgt := 14) hx hb dX7_coin_8 (by decide) (fun c3 => ?_) (fun c3 => ?_)
  · replace h := if_f c3 h
    refine lv_iload_n hx hb dX7_coin_14 rfl (lv_at hl 2 rfl) ?_
    by_cases c4 : x2 = 0
    · replace h := if_t c4 h
      refine lv_tableIn (off := 33) (tgt := 48) hx hb dX7_coin_15 (by rw [c4]; decide) (by rw [c4]; decide) (by rw [c4]; rfl) (by decide) ?_
      refine lv_aload_n hx hb dX7_coin_48 rfl (lv_at hl 0 rfl) ?_
      refine va_get (ci := 7) (v := .ref qt_plan) (C := RX7) (T := TX7) (N := 11) hx hb hts hiX7 hown hK hP 0 rfl rfl 8 (by decide) fl64 (fun _ h9 => h9) rfl dX7_coin_49 ?_
      refine va_getN (ci := 1) (v := .ref qt_plan_value) (C := RX1) (T := TX1) (N := 9) hx hb hts hiX1 hown hK hP 1 rfl rfl 0 (by decide) fl138 (fun _ h9 => h9) rfl dX7_coin_52 ?_
      refine lv_iload_n hx hb dX7_coin_55 rfl (lv_at hl 1 rfl) ?_
      replace h := ck_el h
      obtain ⟨hi5, h⟩ := h
      refine va_iald hx hb hK hP 2 0 rfl rfl hi5 dX7_coin_56 ?_
      refine lv_topi (fun n6 en6 => ?_)
      replace h := lt_at en6 h
      simp only [Option.some.injEq] at h
      subst h
      exact hret _ _ _ _ hP hS rfl dX7_coin_57
    replace h := if_f c4 h
    by_cases c7 : x2 = 1
    · replace h := if_t c7 h
      refine lv_tableIn (off := 43) (tgt := 58) hx hb dX7_coin_15 (by rw [c7]; decide) (by rw [c7]; decide) (by rw [c7]; rfl) (by decide) ?_
      refine lv_aload_n hx hb dX7_coin_58 rfl (lv_at hl 0 rfl) ?_
      refine va_get (ci := 7) (v := .ref qt_plan) (C := RX7) (T := TX7) (N := 11) hx hb hts hiX7 hown hK hP 0 rfl rfl 8 (by decide) fl64 (fun _ h9 => h9) rfl dX7_coin_59 ?_
      refine va_getN (ci := 1) (v := .ref qt_plan_weight) (C := RX1) (T := TX1) (N := 9) hx hb hts hiX1 hown hK hP 1 rfl rfl 1 (by decide) fl142 (fun _ h9 => h9) rfl dX7_coin_62 ?_
      refine lv_iload_n hx hb dX7_coin_65 rfl (lv_at hl 1 rfl) ?_
      replace h := ck_el h
      obtain ⟨hi8, h⟩ := h
      refine va_iald hx hb hK hP 3 0 rfl rfl hi8 dX7_coin_66 ?_
      refine lv_topi (fun n9 en9 => ?_)
      replace h := lt_at en9 h
      simp only [Option.some.injEq] at h
      subst h
      exact hret _ _ _ _ hP hS rfl dX7_coin_67
    replace h := if_f c7 h
    by_cases c10 : x2 = 2
    · replace h := if_t c10 h
      refine lv_tableIn (off := 53) (tgt := 68) hx hb dX7_coin_15 (by rw [c10]; decide) (by rw [c10]; decide) (by rw [c10]; rfl) (by decide) ?_
      refine lv_aload_n hx hb dX7_coin_68 rfl (lv_at hl 0 rfl) ?_
      refine va_get (ci := 7) (v := .ref qt_plan) (C := RX7) (T := TX7) (N := 11) hx hb hts hiX7 hown hK hP 0 rfl rfl 8 (by decide) fl64 (fun _ h9 => h9) rfl dX7_coin_69 ?_
      refine lv_aload_n hx hb dX7_coin_72 rfl (lv_at hl 0 rfl) ?_
      refine va_get (ci := 7) (v := .ref qt_now) (C := RX7) (T := TX7) (N := 11) hx hb hts hiX7 hown hK hP 0 rfl rfl 9 (by decide) fl68 (fun _ h9 => h9) rfl dX7_coin_73 ?_
      refine lv_iload_n hx hb dX7_coin_76 rfl (lv_at hl 1 rfl) ?_
      replace h := bd_el h
      obtain ⟨r11, hc12, h⟩ := h
      refine callVI (rest := []) ⟨hx, hb, hml, hown, hts⟩ (ctX1_weightNow l D cI cZ cB cS kK kV _ qt_plan qt_plan_value qt_plan_weight qt_plan_slugWeight qt_plan_rhythm qt_plan_rhythmLength qt_plan_paidBy qt_now qt_now_tube qt_now_goods qt_now_stick qt_now_kicks qt_now_kickCount qt_now_low qt_now_high qt_now_price qt_now_wired it_plan_kinds it_plan_columns it_plan_slugs it_now_lost it_now_stamps it_now_sales it_now_damp it_now_worn it_now_seed ft_plan_weight x1 N r11 hc12) (cwV 2 hts gX7_coin_X1_weightNow rfl rfl rfl hdX1_weightNow ⟨Nat.le_of_ble_eq_true rfl, Nat.le_of_ble_eq_true rfl⟩) hK hN hX hP (dF hD rfl) hS hA [1, 4, 3] (mcC rfl (mcC rfl (mcC rfl mcN))) (by decide +kernel) [(qt, .inr (7, [.ref qt_text, .ref qt_reader, .ref qt_images, .ref qt_kept, .ref qt_buyers, .ref qt_tries, .ref qt_trial, .ref qt_row, .ref qt_plan, .ref qt_now, .int it_faultAt])), (qt_plan, .inr (1, [.ref qt_plan_value, .ref qt_plan_weight, .ref qt_plan_slugWeight, .ref qt_plan_rhythm, .ref qt_plan_rhythmLength, .ref qt_plan_paidBy, .int it_plan_kinds, .int it_plan_columns, .int it_plan_slugs])), (qt_plan_value, .inl (cI, 5, .inl ft_plan_value)), (qt_plan_weight, .inl (cI, 5, .inl ft_plan_weight)), (qt_now, .inr (4, [.ref qt_now_tube, .ref qt_now_goods, .ref qt_now_stick, .ref qt_now_kicks, .ref qt_now_kickCount, .ref qt_now_low, .ref qt_now_high, .ref qt_now_price, .ref qt_now_wired, .int it_now_lost, .int it_now_stamps, .int it_now_sales, .int it_now_damp, .int it_now_worn, .int it_now_seed])), (qt_now_tube, .inl (cI, 5, .inl ft_now_tube)), (qt_now_low, .inl (cI, 5, .inl ft_now_low)), (qt_now_high, .inl (cI, 5, .inl ft_now_high))] [0, 2, 5, 6, 7] (mcC rfl (mcC rfl (mcC rfl mcN))) ((mcC rfl (mcC rfl (mcC rfl (mcC rfl (mcC rfl mcN))))).trans (mcC rfl (mcC rfl (mcC rfl (mcC rfl (mcC rfl mcN))))).symm) 8 rfl (by decide +kernel) (va_recv hK hP (ci := 1) (q0 := 1) rfl rfl) rfl hl.1 rfl (Nat.le_of_ble_eq_true rfl) ⟨Nat.zero_le _, Nat.zero_le _⟩ dX7_coin_77 (fun H locs hP hS => ?_)
      simp only [Option.some.injEq] at h
      subst h
      exact hret _ _ _ _ hP hS rfl dX7_coin_80
    replace h := if_f c10 h
    by_cases c13 : x2 = 3
    · replace h := if_t c13 h
      refine lv_tableIn (off := 66) (tgt := 81) hx hb dX7_coin_15 (by rw [c13]; decide) (by rw [c13]; decide) (by rw [c13]; rfl) (by decide) ?_
      refine lv_aload_n hx hb dX7_coin_81 rfl (lv_at hl 0 rfl) ?_
      refine va_get (ci := 7) (v := .ref qt_now) (C := RX7) (T := TX7) (N := 11) hx hb hts hiX7 hown hK hP 0 rfl rfl 9 (by decide) fl68 (fun _ h9 => h9) rfl dX7_coin_82 ?_
      refine va_getN (ci := 4) (v := .ref qt_now_tube) (C := RX4) (T := TX4) (N := 15) hx hb hts hiX4 hown hK hP 4 rfl rfl 0 (by decide) fl149 (fun _ h9 => h9) rfl dX7_coin_85 ?_
      refine lv_iload_n hx hb dX7_coin_88 rfl (lv_at hl 1 rfl) ?_
      replace h := ck_el h
      obtain ⟨hi14, h⟩ := h
      refine va_iald hx hb hK hP 5 0 rfl rfl hi14 dX7_coin_89 ?_
      refine lv_topi (fun n15 en15 => ?_)
      replace h := lt_at en15 h
      simp only [Option.some.injEq] at h
      subst h
      exact hret _ _ _ _ hP hS rfl dX7_coin_90
    replace h := if_f c13 h
    by_cases c16 : x2 = 4
    · replace h := if_t c16 h
      refine lv_tableIn (off := 76) (tgt := 91) hx hb dX7_coin_15 (by rw [c16]; decide) (by rw [c16]; decide) (by rw [c16]; rfl) (by decide) ?_
      refine lv_aload_n hx hb dX7_coin_91 rfl (lv_at hl 0 rfl) ?_
      refine va_get (ci := 7) (v := .ref qt_plan) (C := RX7) (T := TX7) (N := 11) hx hb hts hiX7 hown hK hP 0 rfl rfl 8 (by decide) fl64 (fun _ h9 => h9) rfl dX7_coin_92 ?_
      refine lv_aload_n hx hb dX7_coin_95 rfl (lv_at hl 0 rfl) ?_
      refine va_get (ci := 7) (v := .ref qt_now) (C := RX7) (T := TX7) (N := 11) hx hb hts hiX7 hown hK hP 0 rfl rfl 9 (by decide) fl68 (fun _ h9 => h9) rfl dX7_coin_96 ?_
      refine lv_iload_n hx hb dX7_coin_99 rfl (lv_at hl 1 rfl) ?_
      replace h := bd_el h
      obtain ⟨r17, hc18, h⟩ := h
      refine callVI (rest := []) ⟨hx, hb, hml, hown, hts⟩ (ctX1_columnsPassedBy l D cI cZ cB cS kK kV _ qt_plan qt_plan_value qt_plan_weight qt_plan_slugWeight qt_plan_rhythm qt_plan_rhythmLength qt_plan_paidBy qt_now qt_now_tube qt_now_goods qt_now_stick qt_now_kicks qt_now_kickCount qt_now_low qt_now_high qt_now_price qt_now_wired it_plan_kinds it_plan_columns it_plan_slugs it_now_lost it_now_stamps it_now_sales it_now_damp it_now_worn it_now_seed ft_plan_weight ft_now_low ft_now_high x1 N r17 hc18) (cwV 2 hts gX7_coin_X1_columnsPassedBy rfl rfl rfl hdX1_columnsPassedBy ⟨Nat.le_of_ble_eq_true rfl, Nat.le_of_ble_eq_true rfl⟩) hK hN hX hP (dF hD rfl) hS hA [1, 4, 3, 6, 7] (mcC rfl (mcC rfl (mcC rfl (mcC rfl (mcC rfl mcN))))) (by decide +kernel) [(qt, .inr (7, [.ref qt_text, .ref qt_reader, .ref qt_images, .ref qt_kept, .ref qt_buyers, .ref qt_tries, .ref qt_trial, .ref qt_row, .ref qt_plan, .ref qt_now, .int it_faultAt])), (qt_plan, .inr (1, [.ref qt_plan_value, .ref qt_plan_weight, .ref qt_plan_slugWeight, .ref qt_plan_rhythm, .ref qt_plan_rhythmLength, .ref qt_plan_paidBy, .int it_plan_kinds, .int it_plan_columns, .int it_plan_slugs])), (qt_plan_value, .inl (cI, 5, .inl ft_plan_value)), (qt_plan_weight, .inl (cI, 5, .inl ft_plan_weight)), (qt_now, .inr (4, [.ref qt_now_tube, .ref qt_now_goods, .ref qt_now_stick, .ref qt_now_kicks, .ref qt_now_kickCount, .ref qt_now_low, .ref qt_now_high, .ref qt_now_price, .ref qt_now_wired, .int it_now_lost, .int it_now_stamps, .int it_now_sales, .int it_now_damp, .int it_now_worn, .int it_now_seed])), (qt_now_tube, .inl (cI, 5, .inl ft_now_tube)), (qt_now_low, .inl (cI, 5, .inl ft_now_low)), (qt_now_high, .inl (cI, 5, .inl ft_now_high))] [0, 2, 5] (mcC rfl (mcC rfl (mcC rfl (mcC rfl (mcC rfl mcN))))) ((mcC rfl (mcC rfl (mcC rfl mcN))).trans (mcC rfl (mcC rfl (mcC rfl mcN))).symm) 8 rfl (by decide +kernel) (va_recv hK hP (ci := 1) (q0 := 1) rfl rfl) rfl hl.1 rfl (Nat.le_of_ble_eq_true rfl) ⟨Nat.zero_le _, Nat.zero_le _⟩ dX7_coin_100 (fun H locs hP hS => ?_)
      simp only [Option.some.injEq] at h
      subst h
      exact hret _ _ _ _ hP hS rfl dX7_coin_103
    replace h := if_f c16 h
    have tc4 : (x2 : Int32).toInt ≠ 0 := sw_ne c4
    have tc7 : (x2 : Int32).toInt ≠ 1 := sw_ne c7
    have tc10 : (x2 : Int32).toInt ≠ 2 := sw_ne c10
    have tc13 : (x2 : Int32).toInt ≠ 3 := sw_ne c13
    have tc16 : (x2 : Int32).toInt ≠ 4 := sw_ne c16
    refine lv_tableOut (tgt := 104) hx hb dX7_coin_15 (by omega) (by decide) ?_
    refine lv_ldc (v := (-1000000002)) hx hb hown cn75 dX7_coin_104 ?_
    simp only [Option.some.injEq] at h
    subst h
    exact hret _ _ _ _ hP hS rfl dX7_coin_106
  · replace h := if_t c3 h
    refine lv_ldc (v := (-1000000001)) hx hb hown cn137 dX7_coin_11 ?_
    simp only [Option.some.injEq] at h
    subst h
    exact hret _ _ _ _ hP hS rfl dX7_coin_13
theorem hdX7_coin : yX7_coin.cls = RX7 ∧ yX7_coin.cls ≠ "java/lang/invoke/MethodHandle" ∧ yX7_coin.cls ≠ "java/lang/invoke/VarHandle" ∧ (parseMethodDescriptor yX7_coin.desc).map (fun d => d.parameters.length) = some 2 := by decide +kernel

noncomputable def fX7_column (N : Nat) (it_plan_kinds : Int32) (it_plan_columns : Int32) (it_plan_slugs : Int32) (it_now_worn : Int32) (ft_now_price : Nat → Int32) (ft_now_low : Nat → Int32) (ft_now_high : Nat → Int32) (ft_now_goods : Nat → Int32) (ft_now_stick : Nat → Int32) (ft_now_wired : Nat → Int32) (ft_plan_weight : Nat → Int32) (ft_plan_slugWeight : Nat → Int32) (x1 : Int32) (x2 : Int32) : Option (Int32) := bd (fX1_isColumn N it_plan_columns x1) fun r1 => (if r1 = 0 then some (-1000000001) else (if x2 = 0 then ck x1 5 (lt (ft_now_price (Int32.toNatClampNeg x1)) fun n6 => some n6) else if x2 = 1 then ck x1 5 (lt (ft_now_low (Int32.toNatClampNeg x1)) fun n9 => some n9) else if x2 = 2 then ck x1 5 (lt (ft_now_high (Int32.toNatClampNeg x1)) fun n12 => some n12) else if x2 = 3 then ck x1 5 (lt (ft_now_goods (Int32.toNatClampNeg x1)) fun n15 => some n15) else if x2 = 4 then ck x1 5 (lt (ft_now_stick (Int32.toNatClampNeg x1)) fun n18 => some n18) else if x2 = 5 then bd (fX4_isJammed N ft_now_stick x1) fun r20 => (if r20 = 0 then some 0 else some 1) else if x2 = 6 then ck x1 5 (lt (ft_now_wired (Int32.toNatClampNeg x1)) fun n25 => some n25) else if x2 = 7 then ck x1 5 (bd (fX1_kindsWithin N it_plan_kinds it_now_worn ft_plan_weight (ft_now_low (Int32.toNatClampNeg x1)) (ft_now_high (Int32.toNatClampNeg x1))) fun r28 => some r28) else if x2 = 8 then ck x1 5 (bd (fX1_slugsWithin N it_plan_slugs ft_plan_slugWeight (ft_now_low (Int32.toNatClampNeg x1)) (ft_now_high (Int32.toNatClampNeg x1))) fun r32 => some r32) else some (-1000000002)))
set_option maxHeartbeats 4000000 in
set_option maxRecDepth 100000 in
theorem ctX7_column (l : Launch) (D : va_G) (cI cZ cB cS : ClassId) (kK kV : Nat → Nat) (sz : Nat) (qt qt_text qt_reader qt_images qt_kept qt_buyers qt_tries qt_trial qt_row qt_plan qt_now qt_plan_value qt_plan_weight qt_plan_slugWeight qt_plan_rhythm qt_plan_rhythmLength qt_plan_paidBy qt_now_tube qt_now_goods qt_now_stick qt_now_kicks qt_now_kickCount qt_now_low qt_now_high qt_now_price qt_now_wired : Nat) (it_faultAt : Int32) (it_plan_kinds : Int32) (it_plan_columns : Int32) (it_plan_slugs : Int32) (it_now_lost : Int32) (it_now_stamps : Int32) (it_now_sales : Int32) (it_now_damp : Int32) (it_now_worn : Int32) (it_now_seed : Int32) (ft_now_price : Nat → Int32) (ft_now_low : Nat → Int32) (ft_now_high : Nat → Int32) (ft_now_goods : Nat → Int32) (ft_now_stick : Nat → Int32) (ft_now_wired : Nat → Int32) (ft_plan_weight : Nat → Int32) (ft_plan_slugWeight : Nat → Int32) (x1 : Int32) (x2 : Int32) (N : Nat) (r0 : Int32)  (h : fX7_column N it_plan_kinds it_plan_columns it_plan_slugs it_now_worn ft_now_price ft_now_low ft_now_high ft_now_goods ft_now_stick ft_now_wired ft_plan_weight ft_plan_slugWeight x1 x2 = some r0) : CtI l yX7_column wsX7_column { frames := 2, cells := 0, slots := 0, locals := 47 } D (TY cI cZ cB cS) kK kV [.ref qt, .int x1, .int x2] [(qt, .inr (7, [.ref qt_text, .ref qt_reader, .ref qt_images, .ref qt_kept, .ref qt_buyers, .ref qt_tries, .ref qt_trial, .ref qt_row, .ref qt_plan, .ref qt_now, .int it_faultAt])), (qt_plan, .inr (1, [.ref qt_plan_value, .ref qt_plan_weight, .ref qt_plan_slugWeight, .ref qt_plan_rhythm, .ref qt_plan_rhythmLength, .ref qt_plan_paidBy, .int it_plan_kinds, .int it_plan_columns, .int it_plan_slugs])), (qt_now, .inr (4, [.ref qt_now_tube, .ref qt_now_goods, .ref qt_now_stick, .ref qt_now_kicks, .ref qt_now_kickCount, .ref qt_now_low, .ref qt_now_high, .ref qt_now_price, .ref qt_now_wired, .int it_now_lost, .int it_now_stamps, .int it_now_sales, .int it_now_damp, .int it_now_worn, .int it_now_seed])), (qt_now_price, .inl (cI, 5, .inl ft_now_price)), (qt_now_low, .inl (cI, 5, .inl ft_now_low)), (qt_now_high, .inl (cI, 5, .inl ft_now_high)), (qt_now_goods, .inl (cI, 5, .inl ft_now_goods)), (qt_now_stick, .inl (cI, 5, .inl ft_now_stick)), (qt_now_wired, .inl (cI, 5, .inl ft_now_wired)), (qt_plan_weight, .inl (cI, 5, .inl ft_plan_weight)), (qt_plan_slugWeight, .inl (cI, 5, .inl ft_plan_slugWeight))] [(qt, .inr (7, [.ref qt_text, .ref qt_reader, .ref qt_images, .ref qt_kept, .ref qt_buyers, .ref qt_tries, .ref qt_trial, .ref qt_row, .ref qt_plan, .ref qt_now, .int it_faultAt])), (qt_plan, .inr (1, [.ref qt_plan_value, .ref qt_plan_weight, .ref qt_plan_slugWeight, .ref qt_plan_rhythm, .ref qt_plan_rhythmLength, .ref qt_plan_paidBy, .int it_plan_kinds, .int it_plan_columns, .int it_plan_slugs])), (qt_now, .inr (4, [.ref qt_now_tube, .ref qt_now_goods, .ref qt_now_stick, .ref qt_now_kicks, .ref qt_now_kickCount, .ref qt_now_low, .ref qt_now_high, .ref qt_now_price, .ref qt_now_wired, .int it_now_lost, .int it_now_stamps, .int it_now_sales, .int it_now_damp, .int it_now_worn, .int it_now_seed])), (qt_now_price, .inl (cI, 5, .inl ft_now_price)), (qt_now_low, .inl (cI, 5, .inl ft_now_low)), (qt_now_high, .inl (cI, 5, .inl ft_now_high)), (qt_now_goods, .inl (cI, 5, .inl ft_now_goods)), (qt_now_stick, .inl (cI, 5, .inl ft_now_stick)), (qt_now_wired, .inl (cI, 5, .inl ft_now_wired)), (qt_plan_weight, .inl (cI, 5, .inl ft_plan_weight)), (qt_plan_slugWeight, .inl (cI, 5, .inl ft_plan_slugWeight))] sz r0 := by
  refine mkI (cc := cX7_column) (maxL := 3) (rt := .int) (own := RX7) (by decide) rfl rfl (Nat.le_of_ble_eq_true rfl) ?_
  intro p e s m args below meth c A Z ls hx hb hml hown hts hK hN hX hP hD hA hS hret hl
  have hl : lv_has ls 3 [(0, .ref qt), (1, .int x1), (2, .int x2)] := hl
  have fl64 : (Cond.fieldLink RX7 64 "SoupWall" "plan" "LSoupWall$Plan;").before args s = true := hts _ (List.mem_of_getElem? (l := wsX7_column) (i := 1) rfl)
  have hiX7 : ∀ w ∈ wsX70, w ∈ wsX7_column := fun w h => List.mem_cons_of_mem _ (List.mem_append_left _ (List.mem_append_left _ (List.mem_append_right _ h)))
  have fl68 : (Cond.fieldLink RX7 68 "SoupWall" "now" "LSoupWall$State;").before args s = true := hts _ (List.mem_of_getElem? (l := wsX7_column) (i := 3) rfl)
  have fl158 : (Cond.fieldLinkNest "SoupWall" 158 "SoupWall$State" "price" "[I" "SoupWall").before args s = true := hN.f 23 rfl
  have hiX4 : ∀ w ∈ wsX40, w ∈ wsX7_column := fun w h => List.mem_cons_of_mem _ (List.mem_append_left _ (List.mem_append_right _ h))
  have fl161 : (Cond.fieldLinkNest "SoupWall" 161 "SoupWall$State" "low" "[I" "SoupWall").before args s = true := hN.f 19 rfl
  have fl164 : (Cond.fieldLinkNest "SoupWall" 164 "SoupWall$State" "high" "[I" "SoupWall").before args s = true := hN.f 21 rfl
  have fl167 : (Cond.fieldLinkNest "SoupWall" 167 "SoupWall$State" "goods" "[I" "SoupWall").before args s = true := hN.f 13 rfl
  have fl170 : (Cond.fieldLinkNest "SoupWall" 170 "SoupWall$State" "stick" "[I" "SoupWall").before args s = true := hN.f 15 rfl
  have fl176 : (Cond.fieldLinkNest "SoupWall" 176 "SoupWall$State" "wired" "[I" "SoupWall").before args s = true := hN.f 25 rfl
  have cn75 : (Cond.constant RX7 75 (-1000000002)).before args s = true := hts _ (List.mem_of_getElem? (l := wsX7_column) (i := 4) rfl)
  have cn137 : (Cond.constant RX7 137 (-1000000001)).before args s = true := hts _ (List.mem_of_getElem? (l := wsX7_column) (i := 2) rfl)
  unfold fX7_column at h
  refine lv_aload_n hx hb dX7_column_0 rfl (lv_at hl 0 rfl) ?_
  refine va_get (ci := 7) (v := .ref qt_plan) (C := RX7) (T := TX7) (N := 11) hx hb hts hiX7 hown hK hP 0 rfl rfl 8 (by decide) fl64 (fun _ h9 => h9) rfl dX7_column_1 ?_
  refine lv_iload_n hx hb dX7_column_4 rfl (lv_at hl 1 rfl) ?_
  replace h := bd_el h
  obtain ⟨r1, hc2, h⟩ := h
  refine callVI (rest := []) ⟨hx, hb, hml, hown, hts⟩ (ctX1_isColumn l D cI cZ cB cS kK kV _ qt_plan qt_plan_value qt_plan_weight qt_plan_slugWeight qt_plan_rhythm qt_plan_rhythmLength qt_plan_paidBy it_plan_kinds it_plan_columns it_plan_slugs x1 N r1 hc2) (cwV 1 hts gX7_column_X1_isColumn rfl rfl rfl hdX1_isColumn ⟨Nat.le_of_ble_eq_true rfl, Nat.le_of_ble_eq_true rfl⟩) hK hN hX hP (dF hD rfl) hS hA [1] (mcC rfl mcN) (by decide +kernel) [(qt, .inr (7, [.ref qt_text, .ref qt_reader, .ref qt_images, .ref qt_kept, .ref qt_buyers, .ref qt_tries, .ref qt_trial, .ref qt_row, .ref qt_plan, .ref qt_now, .int it_faultAt])), (qt_plan, .inr (1, [.ref qt_plan_value, .ref qt_plan_weight, .ref qt_plan_slugWeight, .ref qt_plan_rhythm, .ref qt_plan_rhythmLength, .ref qt_plan_paidBy, .int it_plan_kinds, .int it_plan_columns, .int it_plan_slugs])), (qt_now, .inr (4, [.ref qt_now_tube, .ref qt_now_goods, .ref qt_now_stick, .ref qt_now_kicks, .ref qt_now_kickCount, .ref qt_now_low, .ref qt_now_high, .ref qt_now_price, .ref qt_now_wired, .int it_now_lost, .int it_now_stamps, .int it_now_sales, .int it_now_damp, .int it_now_worn, .int it_now_seed])), (qt_now_price, .inl (cI, 5, .inl ft_now_price)), (qt_now_low, .inl (cI, 5, .inl ft_now_low)), (qt_now_high, .inl (cI, 5, .inl ft_now_high)), (qt_now_goods, .inl (cI, 5, .inl ft_now_goods)), (qt_now_stick, .inl (cI, 5, .inl ft_now_stick)), (qt_now_wired, .inl (cI, 5, .inl ft_now_wired)), (qt_plan_weight, .inl (cI, 5, .inl ft_plan_weight)), (qt_plan_slugWeight, .inl (cI, 5, .inl ft_plan_slugWeight))] [0, 2, 3, 4, 5, 6, 7, 8, 9, 10] (mcC rfl mcN) ((mcC rfl (mcC rfl (mcC rfl (mcC rfl (mcC rfl (mcC rfl (mcC rfl (mcC rfl (mcC rfl (mcC rfl mcN)))))))))).trans (mcC rfl (mcC rfl (mcC rfl (mcC rfl (mcC rfl (mcC rfl (mcC rfl (mcC rfl (mcC rfl (mcC rfl mcN)))))))))).symm) 11 rfl (by decide +kernel) (va_recv hK hP (ci := 1) (q0 := 1) rfl rfl) rfl hl.1 rfl (Nat.le_of_ble_eq_true rfl) ⟨Nat.zero_le _, Nat.zero_le _⟩ dX7_column_5 (fun H locs hP hS => ?_)
  refine lv_if_ne (tgt := 14) hx hb dX7_column_8 (by decide) (fun c3 => ?_) (fun c3 => ?_)
  · replace h := if_f c3 h
    refine lv_iload_n hx hb dX7_column_14 rfl (lv_at hl 2 rfl) ?_
    by_cases c4 : x2 = 0
    · replace h := if_t c4 h
      refine lv_tableIn (off := 49) (tgt := 64) hx hb dX7_column_15 (by rw [c4]; decide) (by rw [c4]; decide) (by rw [c4]; rfl) (by decide) ?_
      refine lv_aload_n hx hb dX7_column_64 rfl (lv_at hl 0 rfl) ?_
      refine va_get (ci := 7) (v := .ref qt_now) (C := RX7) (T := TX7) (N := 11) hx hb hts hiX7 hown hK hP 0 rfl rfl 9 (by decide) fl68 (fun _ h9 => h9) rfl dX7_column_65 ?_
      refine va_getN (ci := 4) (v := .ref qt_now_price) (C := RX4) (T := TX4) (N := 15) hx hb hts hiX4 hown hK hP 2 rfl rfl 7 (by decide) fl158 (fun _ h9 => h9) rfl dX7_column_68 ?_
      refine lv_iload_n hx hb dX7_column_71 rfl (lv_at hl 1 rfl) ?_
      replace h := ck_el h
      obtain ⟨hi5, h⟩ := h
      refine va_iald hx hb hK hP 3 0 rfl rfl hi5 dX7_column_72 ?_
      refine lv_topi (fun n6 en6 => ?_)
      replace h := lt_at en6 h
      simp only [Option.some.injEq] at h
      subst h
      exact hret _ _ _ _ hP hS rfl dX7_column_73
    replace h := if_f c4 h
    by_cases c7 : x2 = 1
    · replace h := if_t c7 h
      refine lv_tableIn (off := 59) (tgt := 74) hx hb dX7_column_15 (by rw [c7]; decide) (by rw [c7]; decide) (by rw [c7]; rfl) (by decide) ?_
      refine lv_aload_n hx hb dX7_column_74 rfl (lv_at hl 0 rfl) ?_
      refine va_get (ci := 7) (v := .ref qt_now) (C := RX7) (T := TX7) (N := 11) hx hb hts hiX7 hown hK hP 0 rfl rfl 9 (by decide) fl68 (fun _ h9 => h9) rfl dX7_column_75 ?_
      refine va_getN (ci := 4) (v := .ref qt_now_low) (C := RX4) (T := TX4) (N := 15) hx hb hts hiX4 hown hK hP 2 rfl rfl 5 (by decide) fl161 (fun _ h9 => h9) rfl dX7_column_78 ?_
      refine lv_iload_n hx hb dX7_column_81 rfl (lv_at hl 1 rfl) ?_
      replace h := ck_el h
      obtain ⟨hi8, h⟩ := h
      refine va_iald hx hb hK hP 4 0 rfl rfl hi8 dX7_column_82 ?_
      refine lv_topi (fun n9 en9 => ?_)
      replace h := lt_at en9 h
      simp only [Option.some.injEq] at h
      subst h
      exact hret _ _ _ _ hP hS rfl dX7_column_83
    replace h := if_f c7 h
    by_cases c10 : x2 = 2
    · replace h := if_t c10 h
      refine lv_tableIn (off := 69) (tgt := 84) hx hb dX7_column_15 (by rw [c10]; decide) (by rw [c10]; decide) (by rw [c10]; rfl) (by decide) ?_
      refine lv_aload_n hx hb dX7_column_84 rfl (lv_at hl 0 rfl) ?_
      refine va_get (ci := 7) (v := .ref qt_now) (C := RX7) (T := TX7) (N := 11) hx hb hts hiX7 hown hK hP 0 rfl rfl 9 (by decide) fl68 (fun _ h9 => h9) rfl dX7_column_85 ?_
      refine va_getN (ci := 4) (v := .ref qt_now_high) (C := RX4) (T := TX4) (N := 15) hx hb hts hiX4 hown hK hP 2 rfl rfl 6 (by decide) fl164 (fun _ h9 => h9) rfl dX7_column_88 ?_
      refine lv_iload_n hx hb dX7_column_91 rfl (lv_at hl 1 rfl) ?_
      replace h := ck_el h
      obtain ⟨hi11, h⟩ := h
      refine va_iald hx hb hK hP 5 0 rfl rfl hi11 dX7_column_92 ?_
      refine lv_topi (fun n12 en12 => ?_)
      replace h := lt_at en12 h
      simp only [Option.some.injEq] at h
      subst h
      exact hret _ _ _ _ hP hS rfl dX7_column_93
    replace h := if_f c10 h
    by_cases c13 : x2 = 3
    · replace h := if_t c13 h
      refine lv_tableIn (off := 79) (tgt := 94) hx hb dX7_column_15 (by rw [c13]; decide) (by rw [c13]; decide) (by rw [c13]; rfl) (by decide) ?_
      refine lv_aload_n hx hb dX7_column_94 rfl (lv_at hl 0 rfl) ?_
      refine va_get (ci := 7) (v := .ref qt_now) (C := RX7) (T := TX7) (N := 11) hx hb hts hiX7 hown hK hP 0 rfl rfl 9 (by decide) fl68 (fun _ h9 => h9) rfl dX7_column_95 ?_
      refine va_getN (ci := 4) (v := .ref qt_now_goods) (C := RX4) (T := TX4) (N := 15) hx hb hts hiX4 hown hK hP 2 rfl rfl 1 (by decide) fl167 (fun _ h9 => h9) rfl dX7_column_98 ?_
      refine lv_iload_n hx hb dX7_column_101 rfl (lv_at hl 1 rfl) ?_
      replace h := ck_el h
      obtain ⟨hi14, h⟩ := h
      refine va_iald hx hb hK hP 6 0 rfl rfl hi14 dX7_column_102 ?_
      refine lv_topi (fun n15 en15 => ?_)
      replace h := lt_at en15 h
      simp only [Option.some.injEq] at h
      subst h
      exact hret _ _ _ _ hP hS rfl dX7_column_103
    replace h := if_f c13 h
    by_cases c16 : x2 = 4
    · replace h := if_t c16 h
      refine lv_tableIn (off := 89) (tgt := 104) hx hb dX7_column_15 (by rw [c16]; decide) (by rw [c16]; decide) (by rw [c16]; rfl) (by decide) ?_
      refine lv_aload_n hx hb dX7_column_104 rfl (lv_at hl 0 rfl) ?_
      refine va_get (ci := 7) (v := .ref qt_now) (C := RX7) (T := TX7) (N := 11) hx hb hts hiX7 hown hK hP 0 rfl rfl 9 (by decide) fl68 (fun _ h9 => h9) rfl dX7_column_105 ?_
      refine va_getN (ci := 4) (v := .ref qt_now_stick) (C := RX4) (T := TX4) (N := 15) hx hb hts hiX4 hown hK hP 2 rfl rfl 2 (by decide) fl170 (fun _ h9 => h9) rfl dX7_column_108 ?_
      refine lv_iload_n hx hb dX7_column_111 rfl (lv_at hl 1 rfl) ?_
      replace h := ck_el h
      obtain ⟨hi17, h⟩ := h
      refine va_iald hx hb hK hP 7 0 rfl rfl hi17 dX7_column_112 ?_
      refine lv_topi (fun n18 en18 => ?_)
      replace h := lt_at en18 h
      simp only [Option.some.injEq] at h
      subst h
      exact hret _ _ _ _ hP hS rfl dX7_column_113
    replace h := if_f c16 h
    by_cases c19 : x2 = 5
    · replace h := if_t c19 h
      refine lv_tableIn (off := 99) (tgt := 114) hx hb dX7_column_15 (by rw [c19]; decide) (by rw [c19]; decide) (by rw [c19]; rfl) (by decide) ?_
      refine lv_aload_n hx hb dX7_column_114 rfl (lv_at hl 0 rfl) ?_
      refine va_get (ci := 7) (v := .ref qt_now) (C := RX7) (T := TX7) (N := 11) hx hb hts hiX7 hown hK hP 0 rfl rfl 9 (by decide) fl68 (fun _ h9 => h9) rfl dX7_column_115 ?_
      refine lv_iload_n hx hb dX7_column_118 rfl (lv_at hl 1 rfl) ?_
      replace h := bd_el h
      obtain ⟨r20, hc21, h⟩ := h
      refine callVI (rest := []) ⟨hx, hb, hml, hown, hts⟩ (ctX4_isJammed l D cI cZ cB cS kK kV _ qt_now qt_now_tube qt_now_goods qt_now_stick qt_now_kicks qt_now_kickCount qt_now_low qt_now_high qt_now_price qt_now_wired it_now_lost it_now_stamps it_now_sales it_now_damp it_now_worn it_now_seed ft_now_stick x1 N r20 hc21) (cwV 1 hts gX7_column_X4_isJammed rfl rfl rfl hdX4_isJammed ⟨Nat.le_of_ble_eq_true rfl, Nat.le_of_ble_eq_true rfl⟩) hK hN hX hP (dF hD rfl) hS hA [2, 7] (mcC rfl (mcC rfl mcN)) (by decide +kernel) [(qt, .inr (7, [.ref qt_text, .ref qt_reader, .ref qt_images, .ref qt_kept, .ref qt_buyers, .ref qt_tries, .ref qt_trial, .ref qt_row, .ref qt_plan, .ref qt_now, .int it_faultAt])), (qt_plan, .inr (1, [.ref qt_plan_value, .ref qt_plan_weight, .ref qt_plan_slugWeight, .ref qt_plan_rhythm, .ref qt_plan_rhythmLength, .ref qt_plan_paidBy, .int it_plan_kinds, .int it_plan_columns, .int it_plan_slugs])), (qt_now, .inr (4, [.ref qt_now_tube, .ref qt_now_goods, .ref qt_now_stick, .ref qt_now_kicks, .ref qt_now_kickCount, .ref qt_now_low, .ref qt_now_high, .ref qt_now_price, .ref qt_now_wired, .int it_now_lost, .int it_now_stamps, .int it_now_sales, .int it_now_damp, .int it_now_worn, .int it_now_seed])), (qt_now_price, .inl (cI, 5, .inl ft_now_price)), (qt_now_low, .inl (cI, 5, .inl ft_now_low)), (qt_now_high, .inl (cI, 5, .inl ft_now_high)), (qt_now_goods, .inl (cI, 5, .inl ft_now_goods)), (qt_now_stick, .inl (cI, 5, .inl ft_now_stick)), (qt_now_wired, .inl (cI, 5, .inl ft_now_wired)), (qt_plan_weight, .inl (cI, 5, .inl ft_plan_weight)), (qt_plan_slugWeight, .inl (cI, 5, .inl ft_plan_slugWeight))] [0, 1, 3, 4, 5, 6, 8, 9, 10] (mcC rfl (mcC rfl mcN)) ((mcC rfl (mcC rfl (mcC rfl (mcC rfl (mcC rfl (mcC rfl (mcC rfl (mcC rfl (mcC rfl mcN))))))))).trans (mcC rfl (mcC rfl (mcC rfl (mcC rfl (mcC rfl (mcC rfl (mcC rfl (mcC rfl (mcC rfl mcN))))))))).symm) 11 rfl (by decide +kernel) (va_recv hK hP (ci := 4) (q0 := 2) rfl rfl) rfl hl.1 rfl (Nat.le_of_ble_eq_true rfl) ⟨Nat.zero_le _, Nat.zero_le _⟩ dX7_column_119 (fun H locs hP hS => ?_)
      refine lv_if_eq (tgt := 129) hx hb dX7_column_122 (by decide) (fun c22 => ?_) (fun c22 => ?_)
      · replace h := if_t c22 h
        refine lv_iconst (v := 0) hx hb dX7_column_129 (by decide) ?_
        simp only [Option.some.injEq] at h
        subst h
        exact hret _ _ _ _ hP hS rfl dX7_column_130
      · replace h := if_f c22 h
        refine lv_iconst (v := 1) hx hb dX7_column_125 (by decide) ?_
        refine lv_goto (tgt := 130) hx hb dX7_column_126 (by decide) ?_
        simp only [Option.some.injEq] at h
        subst h
        exact hret _ _ _ _ hP hS rfl dX7_column_130
    replace h := if_f c19 h
    by_cases c23 : x2 = 6
    · replace h := if_t c23 h
      refine lv_tableIn (off := 116) (tgt := 131) hx hb dX7_column_15 (by rw [c23]; decide) (by rw [c23]; decide) (by rw [c23]; rfl) (by decide) ?_
      refine lv_aload_n hx hb dX7_column_131 rfl (lv_at hl 0 rfl) ?_
      refine va_get (ci := 7) (v := .ref qt_now) (C := RX7) (T := TX7) (N := 11) hx hb hts hiX7 hown hK hP 0 rfl rfl 9 (by decide) fl68 (fun _ h9 => h9) rfl dX7_column_132 ?_
      refine va_getN (ci := 4) (v := .ref qt_now_wired) (C := RX4) (T := TX4) (N := 15) hx hb hts hiX4 hown hK hP 2 rfl rfl 8 (by decide) fl176 (fun _ h9 => h9) rfl dX7_column_135 ?_
      refine lv_iload_n hx hb dX7_column_138 rfl (lv_at hl 1 rfl) ?_
      replace h := ck_el h
      obtain ⟨hi24, h⟩ := h
      refine va_iald hx hb hK hP 8 0 rfl rfl hi24 dX7_column_139 ?_
      refine lv_topi (fun n25 en25 => ?_)
      replace h := lt_at en25 h
      simp only [Option.some.injEq] at h
      subst h
      exact hret _ _ _ _ hP hS rfl dX7_column_140
    replace h := if_f c23 h
    by_cases c26 : x2 = 7
    · replace h := if_t c26 h
      refine lv_tableIn (off := 126) (tgt := 141) hx hb dX7_column_15 (by rw [c26]; decide) (by rw [c26]; decide) (by rw [c26]; rfl) (by decide) ?_
      refine lv_aload_n hx hb dX7_column_141 rfl (lv_at hl 0 rfl) ?_
      refine va_get (ci := 7) (v := .ref qt_plan) (C := RX7) (T := TX7) (N := 11) hx hb hts hiX7 hown hK hP 0 rfl rfl 8 (by decide) fl64 (fun _ h9 => h9) rfl dX7_column_142 ?_
      refine lv_aload_n hx hb dX7_column_145 rfl (lv_at hl 0 rfl) ?_
      refine va_get (ci := 7) (v := .ref qt_now) (C := RX7) (T := TX7) (N := 11) hx hb hts hiX7 hown hK hP 0 rfl rfl 9 (by decide) fl68 (fun _ h9 => h9) rfl dX7_column_146 ?_
      refine lv_aload_n hx hb dX7_column_149 rfl (lv_at hl 0 rfl) ?_
      refine va_get (ci := 7) (v := .ref qt_now) (C := RX7) (T := TX7) (N := 11) hx hb hts hiX7 hown hK hP 0 rfl rfl 9 (by decide) fl68 (fun _ h9 => h9) rfl dX7_column_150 ?_
      refine va_getN (ci := 4) (v := .ref qt_now_low) (C := RX4) (T := TX4) (N := 15) hx hb hts hiX4 hown hK hP 2 rfl rfl 5 (by decide) fl161 (fun _ h9 => h9) rfl dX7_column_153 ?_
      refine lv_iload_n hx hb dX7_column_156 rfl (lv_at hl 1 rfl) ?_
      replace h := ck_el h
      obtain ⟨hi27, h⟩ := h
      refine va_iald hx hb hK hP 4 0 rfl rfl hi27 dX7_column_157 ?_
      refine lv_aload_n hx hb dX7_column_158 rfl (lv_at hl 0 rfl) ?_
      refine va_get (ci := 7) (v := .ref qt_now) (C := RX7) (T := TX7) (N := 11) hx hb hts hiX7 hown hK hP 0 rfl rfl 9 (by decide) fl68 (fun _ h9 => h9) rfl dX7_column_159 ?_
      refine va_getN (ci := 4) (v := .ref qt_now_high) (C := RX4) (T := TX4) (N := 15) hx hb hts hiX4 hown hK hP 2 rfl rfl 6 (by decide) fl164 (fun _ h9 => h9) rfl dX7_column_162 ?_
      refine lv_iload_n hx hb dX7_column_165 rfl (lv_at hl 1 rfl) ?_
      refine va_iald hx hb hK hP 5 0 rfl rfl hi27 dX7_column_166 ?_
      replace h := bd_el h
      obtain ⟨r28, hc29, h⟩ := h
      refine callVI (rest := []) ⟨hx, hb, hml, hown, hts⟩ (ctX1_kindsWithin l D cI cZ cB cS kK kV _ qt_plan qt_plan_value qt_plan_weight qt_plan_slugWeight qt_plan_rhythm qt_plan_rhythmLength qt_plan_paidBy qt_now qt_now_tube qt_now_goods qt_now_stick qt_now_kicks qt_now_kickCount qt_now_low qt_now_high qt_now_price qt_now_wired it_plan_kinds it_plan_columns it_plan_slugs it_now_lost it_now_stamps it_now_sales it_now_damp it_now_worn it_now_seed ft_plan_weight (ft_now_low (Int32.toNatClampNeg x1)) (ft_now_high (Int32.toNatClampNeg x1)) N r28 hc29) (cwV 3 hts gX7_column_X1_kindsWithin rfl rfl rfl hdX1_kindsWithin ⟨Nat.le_of_ble_eq_true rfl, Nat.le_of_ble_eq_true rfl⟩) hK hN hX hP (dF hD rfl) hS hA [1, 2, 9] (mcC rfl (mcC rfl (mcC rfl mcN))) (by decide +kernel) [(qt, .inr (7, [.ref qt_text, .ref qt_reader, .ref qt_images, .ref qt_kept, .ref qt_buyers, .ref qt_tries, .ref qt_trial, .ref qt_row, .ref qt_plan, .ref qt_now, .int it_faultAt])), (qt_plan, .inr (1, [.ref qt_plan_value, .ref qt_plan_weight, .ref qt_plan_slugWeight, .ref qt_plan_rhythm, .ref qt_plan_rhythmLength, .ref qt_plan_paidBy, .int it_plan_kinds, .int it_plan_columns, .int it_plan_slugs])), (qt_now, .inr (4, [.ref qt_now_tube, .ref qt_now_goods, .ref qt_now_stick, .ref qt_now_kicks, .ref qt_now_kickCount, .ref qt_now_low, .ref qt_now_high, .ref qt_now_price, .ref qt_now_wired, .int it_now_lost, .int it_now_stamps, .int it_now_sales, .int it_now_damp, .int it_now_worn, .int it_now_seed])), (qt_now_price, .inl (cI, 5, .inl ft_now_price)), (qt_now_low, .inl (cI, 5, .inl ft_now_low)), (qt_now_high, .inl (cI, 5, .inl ft_now_high)), (qt_now_goods, .inl (cI, 5, .inl ft_now_goods)), (qt_now_stick, .inl (cI, 5, .inl ft_now_stick)), (qt_now_wired, .inl (cI, 5, .inl ft_now_wired)), (qt_plan_weight, .inl (cI, 5, .inl ft_plan_weight)), (qt_plan_slugWeight, .inl (cI, 5, .inl ft_plan_slugWeight))] [0, 3, 4, 5, 6, 7, 8, 10] (mcC rfl (mcC rfl (mcC rfl mcN))) ((mcC rfl (mcC rfl (mcC rfl (mcC rfl (mcC rfl (mcC rfl (mcC rfl (mcC rfl mcN)))))))).trans (mcC rfl (mcC rfl (mcC rfl (mcC rfl (mcC rfl (mcC rfl (mcC rfl (mcC rfl mcN)))))))).symm) 11 rfl (by decide +kernel) (va_recv hK hP (ci := 1) (q0 := 1) rfl rfl) rfl hl.1 rfl (Nat.le_of_ble_eq_true rfl) ⟨Nat.zero_le _, Nat.zero_le _⟩ dX7_column_167 (fun H locs hP hS => ?_)
      simp only [Option.some.injEq] at h
      subst h
      exact hret _ _ _ _ hP hS rfl dX7_column_170
    replace h := if_f c26 h
    by_cases c30 : x2 = 8
    · replace h := if_t c30 h
      refine lv_tableIn (off := 156) (tgt := 171) hx hb dX7_column_15 (by rw [c30]; decide) (by rw [c30]; decide) (by rw [c30]; rfl) (by decide) ?_
      refine lv_aload_n hx hb dX7_column_171 rfl (lv_at hl 0 rfl) ?_
      refine va_get (ci := 7) (v := .ref qt_plan) (C := RX7) (T := TX7) (N := 11) hx hb hts hiX7 hown hK hP 0 rfl rfl 8 (by decide) fl64 (fun _ h9 => h9) rfl dX7_column_172 ?_
      refine lv_aload_n hx hb dX7_column_175 rfl (lv_at hl 0 rfl) ?_
      refine va_get (ci := 7) (v := .ref qt_now) (C := RX7) (T := TX7) (N := 11) hx hb hts hiX7 hown hK hP 0 rfl rfl 9 (by decide) fl68 (fun _ h9 => h9) rfl dX7_column_176 ?_
      refine va_getN (ci := 4) (v := .ref qt_now_low) (C := RX4) (T := TX4) (N := 15) hx hb hts hiX4 hown hK hP 2 rfl rfl 5 (by decide) fl161 (fun _ h9 => h9) rfl dX7_column_179 ?_
      refine lv_iload_n hx hb dX7_column_182 rfl (lv_at hl 1 rfl) ?_
      replace h := ck_el h
      obtain ⟨hi31, h⟩ := h
      refine va_iald hx hb hK hP 4 0 rfl rfl hi31 dX7_column_183 ?_
      refine lv_aload_n hx hb dX7_column_184 rfl (lv_at hl 0 rfl) ?_
      refine va_get (ci := 7) (v := .ref qt_now) (C := RX7) (T := TX7) (N := 11) hx hb hts hiX7 hown hK hP 0 rfl rfl 9 (by decide) fl68 (fun _ h9 => h9) rfl dX7_column_185 ?_
      refine va_getN (ci := 4) (v := .ref qt_now_high) (C := RX4) (T := TX4) (N := 15) hx hb hts hiX4 hown hK hP 2 rfl rfl 6 (by decide) fl164 (fun _ h9 => h9) rfl dX7_column_188 ?_
      refine lv_iload_n hx hb dX7_column_191 rfl (lv_at hl 1 rfl) ?_
      refine va_iald hx hb hK hP 5 0 rfl rfl hi31 dX7_column_192 ?_
      replace h := bd_el h
      obtain ⟨r32, hc33, h⟩ := h
      refine callVI (rest := []) ⟨hx, hb, hml, hown, hts⟩ (ctX1_slugsWithin l D cI cZ cB cS kK kV _ qt_plan qt_plan_value qt_plan_weight qt_plan_slugWeight qt_plan_rhythm qt_plan_rhythmLength qt_plan_paidBy it_plan_kinds it_plan_columns it_plan_slugs ft_plan_slugWeight (ft_now_low (Int32.toNatClampNeg x1)) (ft_now_high (Int32.toNatClampNeg x1)) N r32 hc33) (cwV 2 hts gX7_column_X1_slugsWithin rfl rfl rfl hdX1_slugsWithin ⟨Nat.le_of_ble_eq_true rfl, Nat.le_of_ble_eq_true rfl⟩) hK hN hX hP (dF hD rfl) hS hA [1, 10] (mcC rfl (mcC rfl mcN)) (by decide +kernel) [(qt, .inr (7, [.ref qt_text, .ref qt_reader, .ref qt_images, .ref qt_kept, .ref qt_buyers, .ref qt_tries, .ref qt_trial, .ref qt_row, .ref qt_plan, .ref qt_now, .int it_faultAt])), (qt_plan, .inr (1, [.ref qt_plan_value, .ref qt_plan_weight, .ref qt_plan_slugWeight, .ref qt_plan_rhythm, .ref qt_plan_rhythmLength, .ref qt_plan_paidBy, .int it_plan_kinds, .int it_plan_columns, .int it_plan_slugs])), (qt_now, .inr (4, [.ref qt_now_tube, .ref qt_now_goods, .ref qt_now_stick, .ref qt_now_kicks, .ref qt_now_kickCount, .ref qt_now_low, .ref qt_now_high, .ref qt_now_price, .ref qt_now_wired, .int it_now_lost, .int it_now_stamps, .int it_now_sales, .int it_now_damp, .int it_now_worn, .int it_now_seed])), (qt_now_price, .inl (cI, 5, .inl ft_now_price)), (qt_now_low, .inl (cI, 5, .inl ft_now_low)), (qt_now_high, .inl (cI, 5, .inl ft_now_high)), (qt_now_goods, .inl (cI, 5, .inl ft_now_goods)), (qt_now_stick, .inl (cI, 5, .inl ft_now_stick)), (qt_now_wired, .inl (cI, 5, .inl ft_now_wired)), (qt_plan_weight, .inl (cI, 5, .inl ft_plan_weight)), (qt_plan_slugWeight, .inl (cI, 5, .inl ft_plan_slugWeight))] [0, 2, 3, 4, 5, 6, 7, 8, 9] (mcC rfl (mcC rfl mcN)) ((mcC rfl (mcC rfl (mcC rfl (mcC rfl (mcC rfl (mcC rfl (mcC rfl (mcC rfl (mcC rfl mcN))))))))).trans (mcC rfl (mcC rfl (mcC rfl (mcC rfl (mcC rfl (mcC rfl (mcC rfl (mcC rfl (mcC rfl mcN))))))))).symm) 11 rfl (by decide +kernel) (va_recv hK hP (ci := 1) (q0 := 1) rfl rfl) rfl hl.1 rfl (Nat.le_of_ble_eq_true rfl) ⟨Nat.zero_le _, Nat.zero_le _⟩ dX7_column_193 (fun H locs hP hS => ?_)
      simp only [Option.some.injEq] at h
      subst h
      exact hret _ _ _ _ hP hS rfl dX7_column_196
    replace h := if_f c30 h
    have tc4 : (x2 : Int32).toInt ≠ 0 := sw_ne c4
    have tc7 : (x2 : Int32).toInt ≠ 1 := sw_ne c7
    have tc10 : (x2 : Int32).toInt ≠ 2 := sw_ne c10
    have tc13 : (x2 : Int32).toInt ≠ 3 := sw_ne c13
    have tc16 : (x2 : Int32).toInt ≠ 4 := sw_ne c16
    have tc19 : (x2 : Int32).toInt ≠ 5 := sw_ne c19
    have tc23 : (x2 : Int32).toInt ≠ 6 := sw_ne c23
    have tc26 : (x2 : Int32).toInt ≠ 7 := sw_ne c26
    have tc30 : (x2 : Int32).toInt ≠ 8 := sw_ne c30
    refine lv_tableOut (tgt := 197) hx hb dX7_column_15 (by omega) (by decide) ?_
    refine lv_ldc (v := (-1000000002)) hx hb hown cn75 dX7_column_197 ?_
    simp only [Option.some.injEq] at h
    subst h
    exact hret _ _ _ _ hP hS rfl dX7_column_199
  · replace h := if_t c3 h
    refine lv_ldc (v := (-1000000001)) hx hb hown cn137 dX7_column_11 ?_
    simp only [Option.some.injEq] at h
    subst h
    exact hret _ _ _ _ hP hS rfl dX7_column_13
theorem hdX7_column : yX7_column.cls = RX7 ∧ yX7_column.cls ≠ "java/lang/invoke/MethodHandle" ∧ yX7_column.cls ≠ "java/lang/invoke/VarHandle" ∧ (parseMethodDescriptor yX7_column.desc).map (fun d => d.parameters.length) = some 2 := by decide +kernel
