def fX2_takeRhythm_L63 (N : Nat) : Nat → Int32 → Int32 → Int32 → Int32 → Int32 → Int32 → Int32 → (Nat → Int32) → Option (Int32 × Int32 × Int32)
  | 0, _, _, _, _, _, _, _, _ => none
  | k + 1, x1, x2, it_at, it_tokenAt, it_fault, it_faultAt, it_text_length, ft_text_bytes => (if it_at ≤ x2 then some (x1, it_fault, it_faultAt) else bd (fX5_byteAt N it_text_length ft_text_bytes x2) fun r2 => (if r2 = 108 then bd (fX5_byteAt N it_text_length ft_text_bytes x2) fun r5 => (if r5 = 114 then lt ((x1 <<< (1 &&& 31)) ||| 1) fun n10 => lt (x2 + 1) fun n11 => fX2_takeRhythm_L63 N k n10 n11 it_at it_tokenAt it_fault it_faultAt it_text_length ft_text_bytes else lt ((x1 <<< (1 &&& 31)) ||| 0) fun n8 => lt (x2 + 1) fun n9 => fX2_takeRhythm_L63 N k n8 n9 it_at it_tokenAt it_fault it_faultAt it_text_length ft_text_bytes) else bd (fX5_byteAt N it_text_length ft_text_bytes x2) fun r12 => (if r12 = 114 then bd (fX5_byteAt N it_text_length ft_text_bytes x2) fun r15 => (if r15 = 114 then lt ((x1 <<< (1 &&& 31)) ||| 1) fun n20 => lt (x2 + 1) fun n21 => fX2_takeRhythm_L63 N k n20 n21 it_at it_tokenAt it_fault it_faultAt it_text_length ft_text_bytes else lt ((x1 <<< (1 &&& 31)) ||| 0) fun n18 => lt (x2 + 1) fun n19 => fX2_takeRhythm_L63 N k n18 n19 it_at it_tokenAt it_fault it_faultAt it_text_length ft_text_bytes) else bd (fX2_fail N it_fault it_faultAt 4 it_tokenAt) fun (g22, g23) => bd (fX5_byteAt N it_text_length ft_text_bytes x2) fun r25 => (if r25 = 114 then lt ((x1 <<< (1 &&& 31)) ||| 1) fun n30 => lt (x2 + 1) fun n31 => fX2_takeRhythm_L63 N k n30 n31 it_at it_tokenAt g22 g23 it_text_length ft_text_bytes else lt ((x1 <<< (1 &&& 31)) ||| 0) fun n28 => lt (x2 + 1) fun n29 => fX2_takeRhythm_L63 N k n28 n29 it_at it_tokenAt g22 g23 it_text_length ft_text_bytes))))
theorem fX2_takeRhythm_L63_s (N k : Nat) (x1 : Int32) (x2 : Int32) (it_at : Int32) (it_tokenAt : Int32) (it_fault : Int32) (it_faultAt : Int32) (it_text_length : Int32) (ft_text_bytes : Nat → Int32) : fX2_takeRhythm_L63 N (k + 1) x1 x2 it_at it_tokenAt it_fault it_faultAt it_text_length ft_text_bytes = ((if it_at ≤ x2 then some (x1, it_fault, it_faultAt) else bd (fX5_byteAt N it_text_length ft_text_bytes x2) fun r2 => (if r2 = 108 then bd (fX5_byteAt N it_text_length ft_text_bytes x2) fun r5 => (if r5 = 114 then lt ((x1 <<< (1 &&& 31)) ||| 1) fun n10 => lt (x2 + 1) fun n11 => fX2_takeRhythm_L63 N k n10 n11 it_at it_tokenAt it_fault it_faultAt it_text_length ft_text_bytes else lt ((x1 <<< (1 &&& 31)) ||| 0) fun n8 => lt (x2 + 1) fun n9 => fX2_takeRhythm_L63 N k n8 n9 it_at it_tokenAt it_fault it_faultAt it_text_length ft_text_bytes) else bd (fX5_byteAt N it_text_length ft_text_bytes x2) fun r12 => (if r12 = 114 then bd (fX5_byteAt N it_text_length ft_text_bytes x2) fun r15 => (if r15 = 114 then lt ((x1 <<< (1 &&& 31)) ||| 1) fun n20 => lt (x2 + 1) fun n21 => fX2_takeRhythm_L63 N k n20 n21 it_at it_tokenAt it_fault it_faultAt it_text_length ft_text_bytes else lt ((x1 <<< (1 &&& 31)) ||| 0) fun n18 => lt (x2 + 1) fun n19 => fX2_takeRhythm_L63 N k n18 n19 it_at it_tokenAt it_fault it_faultAt it_text_length ft_text_bytes) else bd (fX2_fail N it_fault it_faultAt 4 it_tokenAt) fun (g22, g23) => bd (fX5_byteAt N it_text_length ft_text_bytes x2) fun r25 => (if r25 = 114 then lt ((x1 <<< (1 &&& 31)) ||| 1) fun n30 => lt (x2 + 1) fun n31 => fX2_takeRhythm_L63 N k n30 n31 it_at it_tokenAt g22 g23 it_text_length ft_text_bytes else lt ((x1 <<< (1 &&& 31)) ||| 0) fun n28 => lt (x2 + 1) fun n29 => fX2_takeRhythm_L63 N k n28 n29 it_at it_tokenAt g22 g23 it_text_length ft_text_bytes))))) := rfl
def fX2_takeRhythm (N : Nat) (it_at : Int32) (it_tokenAt : Int32) (it_fault : Int32) (it_faultAt : Int32) (it_text_length : Int32) (ft_text_bytes : Nat → Int32) : Option (Int32 × Int32 × Int32 × Int32 × Int32) := (if it_fault = 0 then bd (fX2_takeWord N it_at it_tokenAt it_text_length ft_text_bytes) fun (g33, g34) => (if g33 = g34 then bd (fX2_fail N it_fault it_faultAt 1 g34) fun (g49, g50) => (if (g33 - g34) ≤ 6 then bd (fX2_takeRhythm_L63 N N 0 g34 g33 g34 g49 g50 it_text_length ft_text_bytes) fun (n54, g55, g56) => some (n54, g33, g34, g55, g56) else bd (fX2_fail N g49 g50 4 g34) fun (g57, g58) => bd (fX2_takeRhythm_L63 N N 0 g34 g33 g34 g57 g58 it_text_length ft_text_bytes) fun (n61, g62, g63) => some (n61, g33, g34, g62, g63)) else (if (g33 - g34) ≤ 6 then bd (fX2_takeRhythm_L63 N N 0 g34 g33 g34 it_fault it_faultAt it_text_length ft_text_bytes) fun (n39, g40, g41) => some (n39, g33, g34, g40, g41) else bd (fX2_fail N it_fault it_faultAt 4 g34) fun (g42, g43) => bd (fX2_takeRhythm_L63 N N 0 g34 g33 g34 g42 g43 it_text_length ft_text_bytes) fun (n46, g47, g48) => some (n46, g33, g34, g47, g48))) else some (0, it_at, it_tokenAt, it_fault, it_faultAt))
set_option maxHeartbeats 4000000 in
set_option maxRecDepth 100000 in
theorem ctX2_takeRhythm (l : Launch) (D : va_G) (cI cZ cB cS : ClassId) (kK kV : Nat → Nat) (sz : Nat) (qt qt_text qt_plan qt_start qt_text_bytes : Nat) (it_at : Int32) (it_tokenAt : Int32) (it_fault : Int32) (it_faultAt : Int32) (it_text_length : Int32) (ft_text_bytes : Nat → Int32)  (N : Nat) (r0 : Int32) (w_it_at : Int32) (w_it_tokenAt : Int32) (w_it_fault : Int32) (w_it_faultAt : Int32) (h : fX2_takeRhythm N it_at it_tokenAt it_fault it_faultAt it_text_length ft_text_bytes = some (r0, w_it_at, w_it_tokenAt, w_it_fault, w_it_faultAt)) : CtI l yX2_takeRhythm wsX2_takeRhythm { frames := 3, cells := 0, slots := 0, locals := 62 } D (TY cI cZ cB cS) kK kV [.ref qt] [(qt, .inr (2, [.ref qt_text, .ref qt_plan, .ref qt_start, .int it_at, .int it_tokenAt, .int it_fault, .int it_faultAt])), (qt_text, .inr (5, [.ref qt_text_bytes, .int it_text_length])), (qt_text_bytes, .inl (cB, 400, .inl ft_text_bytes))] [(qt, .inr (2, [.ref qt_text, .ref qt_plan, .ref qt_start, .int w_it_at, .int w_it_tokenAt, .int w_it_fault, .int w_it_faultAt])), (qt_text, .inr (5, [.ref qt_text_bytes, .int it_text_length])), (qt_text_bytes, .inl (cB, 400, .inl ft_text_bytes))] sz r0 := by
  refine mkI (cc := cX2_takeRhythm) (maxL := 3) (rt := .int) (own := RX2) (by decide) rfl rfl (Nat.le_of_ble_eq_true rfl) ?_
  intro p e s m below meth c A Z ls hx hb hml hown hts hK hN hX hP hD hA hS hret hl
  have hl : lv_has ls 3 [(0, .ref qt)] := hl
  have fl37 := hts (.fieldLink RX2 37 "SoupWall$Reader" "at" "I") (by decide +kernel)
  have hiX2 : ∀ w ∈ wsX20, w ∈ wsX2_takeRhythm := by decide +kernel
  have fl29 := hts (.fieldLink RX2 29 "SoupWall$Reader" "text" "LSoupWall$Text;") (by decide +kernel)
  have fl84 := hts (.fieldLink RX2 84 "SoupWall$Reader" "tokenAt" "I") (by decide +kernel)
  have fl40 := hts (.fieldLink RX2 40 "SoupWall$Reader" "fault" "I") (by decide +kernel)
  have lp63 : ∀ (k : Nat) (x1 : Int32) (x2 : Int32) (it_at : Int32) (it_tokenAt : Int32) (it_fault : Int32) (it_faultAt : Int32) (H : Heap) (locs : List Loc) (ls : Array Slot) (o : Int32 × Int32 × Int32), fX2_takeRhythm_L63 N k x1 x2 it_at it_tokenAt it_fault it_faultAt it_text_length ft_text_bytes = some o → va_P D vwCl [(qt, .inr (2, [.ref qt_text, .ref qt_plan, .ref qt_start, .int it_at, .int it_tokenAt, .int it_fault, .int it_faultAt])), (qt_text, .inr (5, [.ref qt_text_bytes, .int it_text_length])), (qt_text_bytes, .inl (cB, 400, .inl ft_text_bytes))] H → va_S A s.heap H locs → lv_has ls 3 [(0, .ref qt), (1, .int x1), (2, .int x2)] → (∀ (e1 : Int32) (e_it_fault : Int32) (e_it_faultAt : Int32), (e1, e_it_fault, e_it_faultAt) = o → ∀ (H : Heap) (locs : List Loc) (ls : Array Slot), va_P D vwCl [(qt, .inr (2, [.ref qt_text, .ref qt_plan, .ref qt_start, .int it_at, .int it_tokenAt, .int e_it_fault, .int e_it_faultAt])), (qt_text, .inr (5, [.ref qt_text_bytes, .int it_text_length])), (qt_text_bytes, .inl (cB, 400, .inl ft_text_bytes))] H → va_S A s.heap H locs → lv_has ls 3 [(1, .int e1)] → W p l e ({ frames := 3, cells := 0, slots := 0, locals := 62 } : Room) s m ([.ref qt] : List Value).toArray below meth c H locs 0 0 Z (F0 m 135 ls [])) → W p l e ({ frames := 3, cells := 0, slots := 0, locals := 62 } : Room) s m ([.ref qt] : List Value).toArray below meth c H locs 0 0 Z (F0 m 63 ls []) := by
    intro k
    induction k with
    | zero =>
      intro x1 x2 it_at it_tokenAt it_fault it_faultAt H locs ls o h
      exact nomatch (show (none : Option (Int32 × Int32 × Int32)) = some o from h)
    | succ k ih =>
      intro x1 x2 it_at it_tokenAt it_fault it_faultAt H locs ls o h hP hS hl K
      rw [fX2_takeRhythm_L63_s] at h
      refine lv_iload_n hx hb dX2_takeRhythm_63 rfl (lv_at hl 2 rfl) ?_
      refine lv_aload_n hx hb dX2_takeRhythm_64 rfl (lv_at hl 0 rfl) ?_
      refine va_get (ci := 2) (v := .int it_at) (C := RX2) (T := TX2) (N := 7) hx hb hts hiX2 hown hK hP 0 rfl rfl 3 (by decide) fl37 (fun _ h9 => h9) rfl dX2_takeRhythm_65 ?_
      refine lv_icmp_ge (tgt := 135) hx hb dX2_takeRhythm_68 (by decide) (fun c1 => ?_) (fun c1 => ?_)
      · have h := if_t c1 h
        exact K x1 it_fault it_faultAt (Option.some.inj h) _ _ _ hP hS (lv_sub hl [1] rfl)
      · have h := if_f c1 h
        refine lv_aload_n hx hb dX2_takeRhythm_71 rfl (lv_at hl 0 rfl) ?_
        refine va_get (ci := 2) (v := .ref qt_text) (C := RX2) (T := TX2) (N := 7) hx hb hts hiX2 hown hK hP 0 rfl rfl 0 (by decide) fl29 (fun _ h9 => h9) rfl dX2_takeRhythm_72 ?_
        refine lv_iload_n hx hb dX2_takeRhythm_75 rfl (lv_at hl 2 rfl) ?_
        obtain ⟨r2, hc3, h⟩ := bd_el h
        refine callVI (rest := []) ⟨hx, hb, hml, hown, hts⟩ (ctX5_byteAt l D cI cZ cB cS kK kV _ qt_text qt_text_bytes it_text_length ft_text_bytes x2 N r2 hc3) (cwV 1 hts gX2_takeRhythm_X5_byteAt rfl rfl rfl (by decide +kernel) ⟨Nat.le_of_ble_eq_true rfl, Nat.le_of_ble_eq_true rfl⟩) hK hN hX hP (dF hD rfl) hS hA [1, 2] rfl (by decide) rfl (va_recv hK hP (ci := 5) (q0 := 1) rfl rfl) rfl hl.1 rfl (Nat.le_of_ble_eq_true rfl) ⟨Nat.zero_le _, Nat.zero_le _⟩ dX2_takeRhythm_76 (fun H locs hP hS => ?_)
        have hP : va_P D vwCl [(qt, .inr (2, [.ref qt_text, .ref qt_plan, .ref qt_start, .int it_at, .int it_tokenAt, .int it_fault, .int it_faultAt])), (qt_text, .inr (5, [.ref qt_text_bytes, .int it_text_length])), (qt_text_bytes, .inl (cB, 400, .inl ft_text_bytes))] H := hP
        refine lv_bipush (v := 108) hx hb dX2_takeRhythm_79 (by decide) ?_
        refine lv_icmp_eq (tgt := 106) hx hb dX2_takeRhythm_81 (by decide) (fun c4 => ?_) (fun c4 => ?_)
        · have h := if_t c4 h
          refine lv_iload_n hx hb dX2_takeRhythm_106 rfl (lv_at hl 1 rfl) ?_
          refine lv_iconst (v := 1) hx hb dX2_takeRhythm_107 (by decide) ?_
          refine lv_ishl hx hb dX2_takeRhythm_108 ?_
          refine lv_aload_n hx hb dX2_takeRhythm_109 rfl (lv_at hl 0 rfl) ?_
          refine va_get (ci := 2) (v := .ref qt_text) (C := RX2) (T := TX2) (N := 7) hx hb hts hiX2 hown hK hP 0 rfl rfl 0 (by decide) fl29 (fun _ h9 => h9) rfl dX2_takeRhythm_110 ?_
          refine lv_iload_n hx hb dX2_takeRhythm_113 rfl (lv_at hl 2 rfl) ?_
          obtain ⟨r5, hc6, h⟩ := bd_el h
          refine callVI (rest := [.int (x1 <<< (1 &&& 31))]) ⟨hx, hb, hml, hown, hts⟩ (ctX5_byteAt l D cI cZ cB cS kK kV _ qt_text qt_text_bytes it_text_length ft_text_bytes x2 N r5 hc6) (cwV 1 hts gX2_takeRhythm_X5_byteAt rfl rfl rfl (by decide +kernel) ⟨Nat.le_of_ble_eq_true rfl, Nat.le_of_ble_eq_true rfl⟩) hK hN hX hP (dF hD rfl) hS hA [1, 2] rfl (by decide) rfl (va_recv hK hP (ci := 5) (q0 := 1) rfl rfl) rfl hl.1 rfl (Nat.le_of_ble_eq_true rfl) ⟨Nat.zero_le _, Nat.zero_le _⟩ dX2_takeRhythm_114 (fun H locs hP hS => ?_)
          have hP : va_P D vwCl [(qt, .inr (2, [.ref qt_text, .ref qt_plan, .ref qt_start, .int it_at, .int it_tokenAt, .int it_fault, .int it_faultAt])), (qt_text, .inr (5, [.ref qt_text_bytes, .int it_text_length])), (qt_text_bytes, .inl (cB, 400, .inl ft_text_bytes))] H := hP
          refine lv_bipush (v := 114) hx hb dX2_takeRhythm_117 (by decide) ?_
          refine lv_icmp_ne (tgt := 126) hx hb dX2_takeRhythm_119 (by decide) (fun c7 => ?_) (fun c7 => ?_)
          · have h := if_f c7 h
            refine lv_iconst (v := 0) hx hb dX2_takeRhythm_126 (by decide) ?_
            refine lv_ior hx hb dX2_takeRhythm_127 ?_
            refine lv_topi (fun n8 en8 => ?_)
            have h := lt_at en8 h
            refine lv_istore_n (lv' := [(1, .int n8), (0, .ref qt), (2, .int x2)]) hx hb dX2_takeRhythm_128 rfl hl (by decide) rfl (fun ls hl => ?_)
            obtain ⟨n9, en9⟩ : ∃ z : Int32, z = x2 + 1 := ⟨_, rfl⟩
            have h := lt_at en9 h
            refine lv_iinc (v := n9) (lv' := [(2, .int n9), (1, .int n8), (0, .ref qt)]) hx hb dX2_takeRhythm_129 hl (k := 2) rfl (by rw [en9]; rfl) (by decide) rfl (fun ls hl => ?_)
            refine lv_goto (tgt := 63) hx hb dX2_takeRhythm_132 (by decide) ?_
            exact ih n8 n9 it_at it_tokenAt it_fault it_faultAt _ _ _ o h hP hS (lv_sub hl [2, 1, 0] rfl) K
          · have h := if_t c7 h
            refine lv_iconst (v := 1) hx hb dX2_takeRhythm_122 (by decide) ?_
            refine lv_goto (tgt := 127) hx hb dX2_takeRhythm_123 (by decide) ?_
            refine lv_ior hx hb dX2_takeRhythm_127 ?_
            refine lv_topi (fun n10 en10 => ?_)
            have h := lt_at en10 h
            refine lv_istore_n (lv' := [(1, .int n10), (0, .ref qt), (2, .int x2)]) hx hb dX2_takeRhythm_128 rfl hl (by decide) rfl (fun ls hl => ?_)
            obtain ⟨n11, en11⟩ : ∃ z : Int32, z = x2 + 1 := ⟨_, rfl⟩
            have h := lt_at en11 h
            refine lv_iinc (v := n11) (lv' := [(2, .int n11), (1, .int n10), (0, .ref qt)]) hx hb dX2_takeRhythm_129 hl (k := 2) rfl (by rw [en11]; rfl) (by decide) rfl (fun ls hl => ?_)
            refine lv_goto (tgt := 63) hx hb dX2_takeRhythm_132 (by decide) ?_
            exact ih n10 n11 it_at it_tokenAt it_fault it_faultAt _ _ _ o h hP hS (lv_sub hl [2, 1, 0] rfl) K
        · have h := if_f c4 h
          refine lv_aload_n hx hb dX2_takeRhythm_84 rfl (lv_at hl 0 rfl) ?_
          refine va_get (ci := 2) (v := .ref qt_text) (C := RX2) (T := TX2) (N := 7) hx hb hts hiX2 hown hK hP 0 rfl rfl 0 (by decide) fl29 (fun _ h9 => h9) rfl dX2_takeRhythm_85 ?_
          refine lv_iload_n hx hb dX2_takeRhythm_88 rfl (lv_at hl 2 rfl) ?_
          obtain ⟨r12, hc13, h⟩ := bd_el h
          refine callVI (rest := []) ⟨hx, hb, hml, hown, hts⟩ (ctX5_byteAt l D cI cZ cB cS kK kV _ qt_text qt_text_bytes it_text_length ft_text_bytes x2 N r12 hc13) (cwV 1 hts gX2_takeRhythm_X5_byteAt rfl rfl rfl (by decide +kernel) ⟨Nat.le_of_ble_eq_true rfl, Nat.le_of_ble_eq_true rfl⟩) hK hN hX hP (dF hD rfl) hS hA [1, 2] rfl (by decide) rfl (va_recv hK hP (ci := 5) (q0 := 1) rfl rfl) rfl hl.1 rfl (Nat.le_of_ble_eq_true rfl) ⟨Nat.zero_le _, Nat.zero_le _⟩ dX2_takeRhythm_89 (fun H locs hP hS => ?_)
          have hP : va_P D vwCl [(qt, .inr (2, [.ref qt_text, .ref qt_plan, .ref qt_start, .int it_at, .int it_tokenAt, .int it_fault, .int it_faultAt])), (qt_text, .inr (5, [.ref qt_text_bytes, .int it_text_length])), (qt_text_bytes, .inl (cB, 400, .inl ft_text_bytes))] H := hP
          refine lv_bipush (v := 114) hx hb dX2_takeRhythm_92 (by decide) ?_
          refine lv_icmp_eq (tgt := 106) hx hb dX2_takeRhythm_94 (by decide) (fun c14 => ?_) (fun c14 => ?_)
          · have h := if_t c14 h
            refine lv_iload_n hx hb dX2_takeRhythm_106 rfl (lv_at hl 1 rfl) ?_
            refine lv_iconst (v := 1) hx hb dX2_takeRhythm_107 (by decide) ?_
            refine lv_ishl hx hb dX2_takeRhythm_108 ?_
            refine lv_aload_n hx hb dX2_takeRhythm_109 rfl (lv_at hl 0 rfl) ?_
            refine va_get (ci := 2) (v := .ref qt_text) (C := RX2) (T := TX2) (N := 7) hx hb hts hiX2 hown hK hP 0 rfl rfl 0 (by decide) fl29 (fun _ h9 => h9) rfl dX2_takeRhythm_110 ?_
            refine lv_iload_n hx hb dX2_takeRhythm_113 rfl (lv_at hl 2 rfl) ?_
            obtain ⟨r15, hc16, h⟩ := bd_el h
            refine callVI (rest := [.int (x1 <<< (1 &&& 31))]) ⟨hx, hb, hml, hown, hts⟩ (ctX5_byteAt l D cI cZ cB cS kK kV _ qt_text qt_text_bytes it_text_length ft_text_bytes x2 N r15 hc16) (cwV 1 hts gX2_takeRhythm_X5_byteAt rfl rfl rfl (by decide +kernel) ⟨Nat.le_of_ble_eq_true rfl, Nat.le_of_ble_eq_true rfl⟩) hK hN hX hP (dF hD rfl) hS hA [1, 2] rfl (by decide) rfl (va_recv hK hP (ci := 5) (q0 := 1) rfl rfl) rfl hl.1 rfl (Nat.le_of_ble_eq_true rfl) ⟨Nat.zero_le _, Nat.zero_le _⟩ dX2_takeRhythm_114 (fun H locs hP hS => ?_)
            have hP : va_P D vwCl [(qt, .inr (2, [.ref qt_text, .ref qt_plan, .ref qt_start, .int it_at, .int it_tokenAt, .int it_fault, .int it_faultAt])), (qt_text, .inr (5, [.ref qt_text_bytes, .int it_text_length])), (qt_text_bytes, .inl (cB, 400, .inl ft_text_bytes))] H := hP
            refine lv_bipush (v := 114) hx hb dX2_takeRhythm_117 (by decide) ?_
            refine lv_icmp_ne (tgt := 126) hx hb dX2_takeRhythm_119 (by decide) (fun c17 => ?_) (fun c17 => ?_)
            · have h := if_f c17 h
              refine lv_iconst (v := 0) hx hb dX2_takeRhythm_126 (by decide) ?_
              refine lv_ior hx hb dX2_takeRhythm_127 ?_
              refine lv_topi (fun n18 en18 => ?_)
              have h := lt_at en18 h
              refine lv_istore_n (lv' := [(1, .int n18), (0, .ref qt), (2, .int x2)]) hx hb dX2_takeRhythm_128 rfl hl (by decide) rfl (fun ls hl => ?_)
              obtain ⟨n19, en19⟩ : ∃ z : Int32, z = x2 + 1 := ⟨_, rfl⟩
              have h := lt_at en19 h
              refine lv_iinc (v := n19) (lv' := [(2, .int n19), (1, .int n18), (0, .ref qt)]) hx hb dX2_takeRhythm_129 hl (k := 2) rfl (by rw [en19]; rfl) (by decide) rfl (fun ls hl => ?_)
              refine lv_goto (tgt := 63) hx hb dX2_takeRhythm_132 (by decide) ?_
              exact ih n18 n19 it_at it_tokenAt it_fault it_faultAt _ _ _ o h hP hS (lv_sub hl [2, 1, 0] rfl) K
            · have h := if_t c17 h
              refine lv_iconst (v := 1) hx hb dX2_takeRhythm_122 (by decide) ?_
              refine lv_goto (tgt := 127) hx hb dX2_takeRhythm_123 (by decide) ?_
              refine lv_ior hx hb dX2_takeRhythm_127 ?_
              refine lv_topi (fun n20 en20 => ?_)
              have h := lt_at en20 h
              refine lv_istore_n (lv' := [(1, .int n20), (0, .ref qt), (2, .int x2)]) hx hb dX2_takeRhythm_128 rfl hl (by decide) rfl (fun ls hl => ?_)
              obtain ⟨n21, en21⟩ : ∃ z : Int32, z = x2 + 1 := ⟨_, rfl⟩
              have h := lt_at en21 h
              refine lv_iinc (v := n21) (lv' := [(2, .int n21), (1, .int n20), (0, .ref qt)]) hx hb dX2_takeRhythm_129 hl (k := 2) rfl (by rw [en21]; rfl) (by decide) rfl (fun ls hl => ?_)
              refine lv_goto (tgt := 63) hx hb dX2_takeRhythm_132 (by decide) ?_
              exact ih n20 n21 it_at it_tokenAt it_fault it_faultAt _ _ _ o h hP hS (lv_sub hl [2, 1, 0] rfl) K
          · have h := if_f c14 h
            refine lv_aload_n hx hb dX2_takeRhythm_97 rfl (lv_at hl 0 rfl) ?_
            refine lv_iconst (v := 4) hx hb dX2_takeRhythm_98 (by decide) ?_
            refine lv_aload_n hx hb dX2_takeRhythm_99 rfl (lv_at hl 0 rfl) ?_
            refine va_get (ci := 2) (v := .int it_tokenAt) (C := RX2) (T := TX2) (N := 7) hx hb hts hiX2 hown hK hP 0 rfl rfl 4 (by decide) fl84 (fun _ h9 => h9) rfl dX2_takeRhythm_100 ?_
            obtain ⟨⟨g22, g23⟩, hc24, h⟩ := bd_el h
            refine callVV (rest := []) ⟨hx, hb, hml, hown, hts⟩ (ctX2_fail l D cI cZ cB cS kK kV _ qt qt_text qt_plan qt_start it_at it_tokenAt it_fault it_faultAt 4 it_tokenAt N g22 g23 hc24) (cwV 2 hts gX2_takeRhythm_X2_fail rfl rfl rfl (by decide +kernel) ⟨Nat.le_of_ble_eq_true rfl, Nat.le_of_ble_eq_true rfl⟩) hK hN hX hP (dF hD rfl) hS hA [0] rfl (by decide) rfl (va_recv hK hP (ci := 2) (q0 := 0) rfl rfl) rfl hl.1 rfl (Nat.le_of_ble_eq_true rfl) ⟨Nat.zero_le _, Nat.zero_le _⟩ dX2_takeRhythm_103 (fun H locs hP hS => ?_)
            have hP : va_P D vwCl [(qt, .inr (2, [.ref qt_text, .ref qt_plan, .ref qt_start, .int it_at, .int it_tokenAt, .int g22, .int g23])), (qt_text, .inr (5, [.ref qt_text_bytes, .int it_text_length])), (qt_text_bytes, .inl (cB, 400, .inl ft_text_bytes))] H := hP
            refine lv_iload_n hx hb dX2_takeRhythm_106 rfl (lv_at hl 1 rfl) ?_
            refine lv_iconst (v := 1) hx hb dX2_takeRhythm_107 (by decide) ?_
            refine lv_ishl hx hb dX2_takeRhythm_108 ?_
            refine lv_aload_n hx hb dX2_takeRhythm_109 rfl (lv_at hl 0 rfl) ?_
            refine va_get (ci := 2) (v := .ref qt_text) (C := RX2) (T := TX2) (N := 7) hx hb hts hiX2 hown hK hP 0 rfl rfl 0 (by decide) fl29 (fun _ h9 => h9) rfl dX2_takeRhythm_110 ?_
            refine lv_iload_n hx hb dX2_takeRhythm_113 rfl (lv_at hl 2 rfl) ?_
            obtain ⟨r25, hc26, h⟩ := bd_el h
            refine callVI (rest := [.int (x1 <<< (1 &&& 31))]) ⟨hx, hb, hml, hown, hts⟩ (ctX5_byteAt l D cI cZ cB cS kK kV _ qt_text qt_text_bytes it_text_length ft_text_bytes x2 N r25 hc26) (cwV 1 hts gX2_takeRhythm_X5_byteAt rfl rfl rfl (by decide +kernel) ⟨Nat.le_of_ble_eq_true rfl, Nat.le_of_ble_eq_true rfl⟩) hK hN hX hP (dF hD rfl) hS hA [1, 2] rfl (by decide) rfl (va_recv hK hP (ci := 5) (q0 := 1) rfl rfl) rfl hl.1 rfl (Nat.le_of_ble_eq_true rfl) ⟨Nat.zero_le _, Nat.zero_le _⟩ dX2_takeRhythm_114 (fun H locs hP hS => ?_)
            have hP : va_P D vwCl [(qt, .inr (2, [.ref qt_text, .ref qt_plan, .ref qt_start, .int it_at, .int it_tokenAt, .int g22, .int g23])), (qt_text, .inr (5, [.ref qt_text_bytes, .int it_text_length])), (qt_text_bytes, .inl (cB, 400, .inl ft_text_bytes))] H := hP
            refine lv_bipush (v := 114) hx hb dX2_takeRhythm_117 (by decide) ?_
            refine lv_icmp_ne (tgt := 126) hx hb dX2_takeRhythm_119 (by decide) (fun c27 => ?_) (fun c27 => ?_)
            · have h := if_f c27 h
              refine lv_iconst (v := 0) hx hb dX2_takeRhythm_126 (by decide) ?_
              refine lv_ior hx hb dX2_takeRhythm_127 ?_
              refine lv_topi (fun n28 en28 => ?_)
              have h := lt_at en28 h
              refine lv_istore_n (lv' := [(1, .int n28), (0, .ref qt), (2, .int x2)]) hx hb dX2_takeRhythm_128 rfl hl (by decide) rfl (fun ls hl => ?_)
              obtain ⟨n29, en29⟩ : ∃ z : Int32, z = x2 + 1 := ⟨_, rfl⟩
              have h := lt_at en29 h
              refine lv_iinc (v := n29) (lv' := [(2, .int n29), (1, .int n28), (0, .ref qt)]) hx hb dX2_takeRhythm_129 hl (k := 2) rfl (by rw [en29]; rfl) (by decide) rfl (fun ls hl => ?_)
              refine lv_goto (tgt := 63) hx hb dX2_takeRhythm_132 (by decide) ?_
              exact ih n28 n29 it_at it_tokenAt g22 g23 _ _ _ o h hP hS (lv_sub hl [2, 1, 0] rfl) K
            · have h := if_t c27 h
              refine lv_iconst (v := 1) hx hb dX2_takeRhythm_122 (by decide) ?_
              refine lv_goto (tgt := 127) hx hb dX2_takeRhythm_123 (by decide) ?_
              refine lv_ior hx hb dX2_takeRhythm_127 ?_
              refine lv_topi (fun n30 en30 => ?_)
              have h := lt_at en30 h
              refine lv_istore_n (lv' := [(1, .int n30), (0, .ref qt), (2, .int x2)]) hx hb dX2_takeRhythm_128 rfl hl (by decide) rfl (fun ls hl => ?_)
              obtain ⟨n31, en31⟩ : ∃ z : Int32, z = x2 + 1 := ⟨_, rfl⟩
              have h := lt_at en31 h
              refine lv_iinc (v := n31) (lv' := [(2, .int n31), (1, .int n30), (0, .ref qt)]) hx hb dX2_takeRhythm_129 hl (k := 2) rfl (by rw [en31]; rfl) (by decide) rfl (fun ls hl => ?_)
              refine lv_goto (tgt := 63) hx hb dX2_takeRhythm_132 (by decide) ?_
              exact ih n30 n31 it_at it_tokenAt g22 g23 _ _ _ o h hP hS (lv_sub hl [2, 1, 0] rfl) K
  unfold fX2_takeRhythm at h
  refine lv_aload_n hx hb dX2_takeRhythm_0 rfl (lv_at hl 0 rfl) ?_
  refine va_get (ci := 2) (v := .int it_fault) (C := RX2) (T := TX2) (N := 7) hx hb hts hiX2 hown hK hP 0 rfl rfl 5 (by decide) fl40 (fun _ h9 => h9) rfl dX2_takeRhythm_1 ?_
  refine lv_if_eq (tgt := 9) hx hb dX2_takeRhythm_4 (by decide) (fun c32 => ?_) (fun c32 => ?_)
  · have h := if_t c32 h
    refine lv_aload_n hx hb dX2_takeRhythm_9 rfl (lv_at hl 0 rfl) ?_
    obtain ⟨⟨g33, g34⟩, hc35, h⟩ := bd_el h
    refine callVV (rest := []) ⟨hx, hb, hml, hown, hts⟩ (ctX2_takeWord l D cI cZ cB cS kK kV _ qt qt_text qt_plan qt_start qt_text_bytes it_at it_tokenAt it_fault it_faultAt it_text_length ft_text_bytes N g33 g34 hc35) (cwV 0 hts gX2_takeRhythm_X2_takeWord rfl rfl rfl (by decide +kernel) ⟨Nat.le_of_ble_eq_true rfl, Nat.le_of_ble_eq_true rfl⟩) hK hN hX hP (dF hD rfl) hS hA [0, 1, 2] rfl (by decide) rfl (va_recv hK hP (ci := 2) (q0 := 0) rfl rfl) rfl hl.1 rfl (Nat.le_of_ble_eq_true rfl) ⟨Nat.zero_le _, Nat.zero_le _⟩ dX2_takeRhythm_10 (fun H locs hP hS => ?_)
    have hP : va_P D vwCl [(qt, .inr (2, [.ref qt_text, .ref qt_plan, .ref qt_start, .int g33, .int g34, .int it_fault, .int it_faultAt])), (qt_text, .inr (5, [.ref qt_text_bytes, .int it_text_length])), (qt_text_bytes, .inl (cB, 400, .inl ft_text_bytes))] H := hP
    refine lv_aload_n hx hb dX2_takeRhythm_13 rfl (lv_at hl 0 rfl) ?_
    refine va_get (ci := 2) (v := .int g33) (C := RX2) (T := TX2) (N := 7) hx hb hts hiX2 hown hK hP 0 rfl rfl 3 (by decide) fl37 (fun _ h9 => h9) rfl dX2_takeRhythm_14 ?_
    refine lv_aload_n hx hb dX2_takeRhythm_17 rfl (lv_at hl 0 rfl) ?_
    refine va_get (ci := 2) (v := .int g34) (C := RX2) (T := TX2) (N := 7) hx hb hts hiX2 hown hK hP 0 rfl rfl 4 (by decide) fl84 (fun _ h9 => h9) rfl dX2_takeRhythm_18 ?_
    refine lv_icmp_ne (tgt := 33) hx hb dX2_takeRhythm_21 (by decide) (fun c36 => ?_) (fun c36 => ?_)
    · have h := if_f c36 h
      refine lv_aload_n hx hb dX2_takeRhythm_33 rfl (lv_at hl 0 rfl) ?_
      refine va_get (ci := 2) (v := .int g33) (C := RX2) (T := TX2) (N := 7) hx hb hts hiX2 hown hK hP 0 rfl rfl 3 (by decide) fl37 (fun _ h9 => h9) rfl dX2_takeRhythm_34 ?_
      refine lv_aload_n hx hb dX2_takeRhythm_37 rfl (lv_at hl 0 rfl) ?_
      refine va_get (ci := 2) (v := .int g34) (C := RX2) (T := TX2) (N := 7) hx hb hts hiX2 hown hK hP 0 rfl rfl 4 (by decide) fl84 (fun _ h9 => h9) rfl dX2_takeRhythm_38 ?_
      refine lv_isub hx hb dX2_takeRhythm_41 ?_
      refine lv_bipush (v := 6) hx hb dX2_takeRhythm_42 (by decide) ?_
      refine lv_icmp_le (tgt := 56) hx hb dX2_takeRhythm_44 (by decide) (fun c37 => ?_) (fun c37 => ?_)
      · have h := if_t c37 h
        refine lv_iconst (v := 0) hx hb dX2_takeRhythm_56 (by decide) ?_
        refine lv_istore_n (lv' := [(1, .int 0), (0, .ref qt)]) hx hb dX2_takeRhythm_57 rfl hl (by decide) rfl (fun ls hl => ?_)
        refine lv_aload_n hx hb dX2_takeRhythm_58 rfl (lv_at hl 1 rfl) ?_
        refine va_get (ci := 2) (v := .int g34) (C := RX2) (T := TX2) (N := 7) hx hb hts hiX2 hown hK hP 0 rfl rfl 4 (by decide) fl84 (fun _ h9 => h9) rfl dX2_takeRhythm_59 ?_
        refine lv_istore_n (lv' := [(2, .int g34), (1, .int 0), (0, .ref qt)]) hx hb dX2_takeRhythm_62 rfl hl (by decide) rfl (fun ls hl => ?_)
        obtain ⟨o38, ho38, h⟩ := bd_el h
        refine lp63 N 0 g34 g33 g34 it_fault it_faultAt _ _ _ o38 ho38 hP hS (lv_sub hl [2, 1, 0] rfl) (fun n39 g40 g41 eo H locs ls hP hS hl => ?_)
        subst eo
        refine lv_iload_n hx hb dX2_takeRhythm_135 rfl (lv_at hl 0 rfl) ?_
        cases h
        exact hret _ _ _ _ hP hS rfl dX2_takeRhythm_136
      · have h := if_f c37 h
        refine lv_aload_n hx hb dX2_takeRhythm_47 rfl (lv_at hl 0 rfl) ?_
        refine lv_iconst (v := 4) hx hb dX2_takeRhythm_48 (by decide) ?_
        refine lv_aload_n hx hb dX2_takeRhythm_49 rfl (lv_at hl 0 rfl) ?_
        refine va_get (ci := 2) (v := .int g34) (C := RX2) (T := TX2) (N := 7) hx hb hts hiX2 hown hK hP 0 rfl rfl 4 (by decide) fl84 (fun _ h9 => h9) rfl dX2_takeRhythm_50 ?_
        obtain ⟨⟨g42, g43⟩, hc44, h⟩ := bd_el h
        refine callVV (rest := []) ⟨hx, hb, hml, hown, hts⟩ (ctX2_fail l D cI cZ cB cS kK kV _ qt qt_text qt_plan qt_start g33 g34 it_fault it_faultAt 4 g34 N g42 g43 hc44) (cwV 2 hts gX2_takeRhythm_X2_fail rfl rfl rfl (by decide +kernel) ⟨Nat.le_of_ble_eq_true rfl, Nat.le_of_ble_eq_true rfl⟩) hK hN hX hP (dF hD rfl) hS hA [0] rfl (by decide) rfl (va_recv hK hP (ci := 2) (q0 := 0) rfl rfl) rfl hl.1 rfl (Nat.le_of_ble_eq_true rfl) ⟨Nat.zero_le _, Nat.zero_le _⟩ dX2_takeRhythm_53 (fun H locs hP hS => ?_)
        have hP : va_P D vwCl [(qt, .inr (2, [.ref qt_text, .ref qt_plan, .ref qt_start, .int g33, .int g34, .int g42, .int g43])), (qt_text, .inr (5, [.ref qt_text_bytes, .int it_text_length])), (qt_text_bytes, .inl (cB, 400, .inl ft_text_bytes))] H := hP
        refine lv_iconst (v := 0) hx hb dX2_takeRhythm_56 (by decide) ?_
        refine lv_istore_n (lv' := [(1, .int 0), (0, .ref qt)]) hx hb dX2_takeRhythm_57 rfl hl (by decide) rfl (fun ls hl => ?_)
        refine lv_aload_n hx hb dX2_takeRhythm_58 rfl (lv_at hl 1 rfl) ?_
        refine va_get (ci := 2) (v := .int g34) (C := RX2) (T := TX2) (N := 7) hx hb hts hiX2 hown hK hP 0 rfl rfl 4 (by decide) fl84 (fun _ h9 => h9) rfl dX2_takeRhythm_59 ?_
        refine lv_istore_n (lv' := [(2, .int g34), (1, .int 0), (0, .ref qt)]) hx hb dX2_takeRhythm_62 rfl hl (by decide) rfl (fun ls hl => ?_)
        obtain ⟨o45, ho45, h⟩ := bd_el h
        refine lp63 N 0 g34 g33 g34 g42 g43 _ _ _ o45 ho45 hP hS (lv_sub hl [2, 1, 0] rfl) (fun n46 g47 g48 eo H locs ls hP hS hl => ?_)
        subst eo
        refine lv_iload_n hx hb dX2_takeRhythm_135 rfl (lv_at hl 0 rfl) ?_
        cases h
        exact hret _ _ _ _ hP hS rfl dX2_takeRhythm_136
    · have h := if_t c36 h
      refine lv_aload_n hx hb dX2_takeRhythm_24 rfl (lv_at hl 0 rfl) ?_
      refine lv_iconst (v := 1) hx hb dX2_takeRhythm_25 (by decide) ?_
      refine lv_aload_n hx hb dX2_takeRhythm_26 rfl (lv_at hl 0 rfl) ?_
      refine va_get (ci := 2) (v := .int g34) (C := RX2) (T := TX2) (N := 7) hx hb hts hiX2 hown hK hP 0 rfl rfl 4 (by decide) fl84 (fun _ h9 => h9) rfl dX2_takeRhythm_27 ?_
      obtain ⟨⟨g49, g50⟩, hc51, h⟩ := bd_el h
      refine callVV (rest := []) ⟨hx, hb, hml, hown, hts⟩ (ctX2_fail l D cI cZ cB cS kK kV _ qt qt_text qt_plan qt_start g33 g34 it_fault it_faultAt 1 g34 N g49 g50 hc51) (cwV 2 hts gX2_takeRhythm_X2_fail rfl rfl rfl (by decide +kernel) ⟨Nat.le_of_ble_eq_true rfl, Nat.le_of_ble_eq_true rfl⟩) hK hN hX hP (dF hD rfl) hS hA [0] rfl (by decide) rfl (va_recv hK hP (ci := 2) (q0 := 0) rfl rfl) rfl hl.1 rfl (Nat.le_of_ble_eq_true rfl) ⟨Nat.zero_le _, Nat.zero_le _⟩ dX2_takeRhythm_30 (fun H locs hP hS => ?_)
      have hP : va_P D vwCl [(qt, .inr (2, [.ref qt_text, .ref qt_plan, .ref qt_start, .int g33, .int g34, .int g49, .int g50])), (qt_text, .inr (5, [.ref qt_text_bytes, .int it_text_length])), (qt_text_bytes, .inl (cB, 400, .inl ft_text_bytes))] H := hP
      refine lv_aload_n hx hb dX2_takeRhythm_33 rfl (lv_at hl 0 rfl) ?_
      refine va_get (ci := 2) (v := .int g33) (C := RX2) (T := TX2) (N := 7) hx hb hts hiX2 hown hK hP 0 rfl rfl 3 (by decide) fl37 (fun _ h9 => h9) rfl dX2_takeRhythm_34 ?_
      refine lv_aload_n hx hb dX2_takeRhythm_37 rfl (lv_at hl 0 rfl) ?_
      refine va_get (ci := 2) (v := .int g34) (C := RX2) (T := TX2) (N := 7) hx hb hts hiX2 hown hK hP 0 rfl rfl 4 (by decide) fl84 (fun _ h9 => h9) rfl dX2_takeRhythm_38 ?_
      refine lv_isub hx hb dX2_takeRhythm_41 ?_
      refine lv_bipush (v := 6) hx hb dX2_takeRhythm_42 (by decide) ?_
      refine lv_icmp_le (tgt := 56) hx hb dX2_takeRhythm_44 (by decide) (fun c52 => ?_) (fun c52 => ?_)
      · have h := if_t c52 h
        refine lv_iconst (v := 0) hx hb dX2_takeRhythm_56 (by decide) ?_
        refine lv_istore_n (lv' := [(1, .int 0), (0, .ref qt)]) hx hb dX2_takeRhythm_57 rfl hl (by decide) rfl (fun ls hl => ?_)
        refine lv_aload_n hx hb dX2_takeRhythm_58 rfl (lv_at hl 1 rfl) ?_
        refine va_get (ci := 2) (v := .int g34) (C := RX2) (T := TX2) (N := 7) hx hb hts hiX2 hown hK hP 0 rfl rfl 4 (by decide) fl84 (fun _ h9 => h9) rfl dX2_takeRhythm_59 ?_
        refine lv_istore_n (lv' := [(2, .int g34), (1, .int 0), (0, .ref qt)]) hx hb dX2_takeRhythm_62 rfl hl (by decide) rfl (fun ls hl => ?_)
        obtain ⟨o53, ho53, h⟩ := bd_el h
        refine lp63 N 0 g34 g33 g34 g49 g50 _ _ _ o53 ho53 hP hS (lv_sub hl [2, 1, 0] rfl) (fun n54 g55 g56 eo H locs ls hP hS hl => ?_)
        subst eo
        refine lv_iload_n hx hb dX2_takeRhythm_135 rfl (lv_at hl 0 rfl) ?_
        cases h
        exact hret _ _ _ _ hP hS rfl dX2_takeRhythm_136
      · have h := if_f c52 h
        refine lv_aload_n hx hb dX2_takeRhythm_47 rfl (lv_at hl 0 rfl) ?_
        refine lv_iconst (v := 4) hx hb dX2_takeRhythm_48 (by decide) ?_
        refine lv_aload_n hx hb dX2_takeRhythm_49 rfl (lv_at hl 0 rfl) ?_
        refine va_get (ci := 2) (v := .int g34) (C := RX2) (T := TX2) (N := 7) hx hb hts hiX2 hown hK hP 0 rfl rfl 4 (by decide) fl84 (fun _ h9 => h9) rfl dX2_takeRhythm_50 ?_
        obtain ⟨⟨g57, g58⟩, hc59, h⟩ := bd_el h
        refine callVV (rest := []) ⟨hx, hb, hml, hown, hts⟩ (ctX2_fail l D cI cZ cB cS kK kV _ qt qt_text qt_plan qt_start g33 g34 g49 g50 4 g34 N g57 g58 hc59) (cwV 2 hts gX2_takeRhythm_X2_fail rfl rfl rfl (by decide +kernel) ⟨Nat.le_of_ble_eq_true rfl, Nat.le_of_ble_eq_true rfl⟩) hK hN hX hP (dF hD rfl) hS hA [0] rfl (by decide) rfl (va_recv hK hP (ci := 2) (q0 := 0) rfl rfl) rfl hl.1 rfl (Nat.le_of_ble_eq_true rfl) ⟨Nat.zero_le _, Nat.zero_le _⟩ dX2_takeRhythm_53 (fun H locs hP hS => ?_)
        have hP : va_P D vwCl [(qt, .inr (2, [.ref qt_text, .ref qt_plan, .ref qt_start, .int g33, .int g34, .int g57, .int g58])), (qt_text, .inr (5, [.ref qt_text_bytes, .int it_text_length])), (qt_text_bytes, .inl (cB, 400, .inl ft_text_bytes))] H := hP
        refine lv_iconst (v := 0) hx hb dX2_takeRhythm_56 (by decide) ?_
        refine lv_istore_n (lv' := [(1, .int 0), (0, .ref qt)]) hx hb dX2_takeRhythm_57 rfl hl (by decide) rfl (fun ls hl => ?_)
        refine lv_aload_n hx hb dX2_takeRhythm_58 rfl (lv_at hl 1 rfl) ?_
        refine va_get (ci := 2) (v := .int g34) (C := RX2) (T := TX2) (N := 7) hx hb hts hiX2 hown hK hP 0 rfl rfl 4 (by decide) fl84 (fun _ h9 => h9) rfl dX2_takeRhythm_59 ?_
        refine lv_istore_n (lv' := [(2, .int g34), (1, .int 0), (0, .ref qt)]) hx hb dX2_takeRhythm_62 rfl hl (by decide) rfl (fun ls hl => ?_)
        obtain ⟨o60, ho60, h⟩ := bd_el h
        refine lp63 N 0 g34 g33 g34 g57 g58 _ _ _ o60 ho60 hP hS (lv_sub hl [2, 1, 0] rfl) (fun n61 g62 g63 eo H locs ls hP hS hl => ?_)
        subst eo
        refine lv_iload_n hx hb dX2_takeRhythm_135 rfl (lv_at hl 0 rfl) ?_
        cases h
        exact hret _ _ _ _ hP hS rfl dX2_takeRhythm_136
  · have h := if_f c32 h
    refine lv_iconst (v := 0) hx hb dX2_takeRhythm_7 (by decide) ?_
    cases h
    exact hret _ _ _ _ hP hS rfl dX2_takeRhythm_8

def fX2_readKick (N : Nat) (it_at : Int32) (it_tokenAt : Int32) (it_fault : Int32) (it_faultAt : Int32) (it_plan_columns : Int32) (it_text_length : Int32) (ft_text_bytes : Nat → Int32) (ft_plan_rhythmLength : Nat → Int32) (ft_plan_rhythm : Nat → Int32) : Option (Int32 × Int32 × Int32 × Int32 × (Nat → Int32) × (Nat → Int32)) := bd (fX2_takeNumber N it_at it_tokenAt it_fault it_faultAt it_text_length ft_text_bytes 0 (it_plan_columns - 1)) fun (r1, g2, g3, g4, g5) => bd (fX1_hasRhythm N it_plan_columns ft_plan_rhythmLength r1) fun r7 => (if r7 = 0 then bd (fX2_takeRhythm N g2 g3 g4 g5 it_text_length ft_text_bytes) fun (r10, g11, g12, g13, g14) => lt (g11 - g12) fun n16 => bd (fX2_takeEnd N g11 g13 g14 it_text_length ft_text_bytes) fun (g17, g18, g19) => (if g18 = 0 then bd (fX1_setRhythm N it_plan_columns ft_plan_rhythm ft_plan_rhythmLength r1 r10 n16) fun (g22, g23) => some (g17, g12, g18, g19, g23, g22) else some (g17, g12, g18, g19, ft_plan_rhythmLength, ft_plan_rhythm)) else bd (fX2_fail N g4 g5 4 g3) fun (g25, g26) => bd (fX2_takeRhythm N g2 g3 g25 g26 it_text_length ft_text_bytes) fun (r28, g29, g30, g31, g32) => lt (g29 - g30) fun n34 => bd (fX2_takeEnd N g29 g31 g32 it_text_length ft_text_bytes) fun (g35, g36, g37) => (if g36 = 0 then bd (fX1_setRhythm N it_plan_columns ft_plan_rhythm ft_plan_rhythmLength r1 r28 n34) fun (g40, g41) => some (g35, g30, g36, g37, g41, g40) else some (g35, g30, g36, g37, ft_plan_rhythmLength, ft_plan_rhythm)))
set_option maxHeartbeats 4000000 in
set_option maxRecDepth 100000 in
theorem ctX2_readKick (l : Launch) (D : va_G) (cI cZ cB cS : ClassId) (kK kV : Nat → Nat) (sz : Nat) (qt qt_text qt_plan qt_start qt_plan_value qt_plan_weight qt_plan_slugWeight qt_plan_rhythm qt_plan_rhythmLength qt_plan_paidBy qt_text_bytes : Nat) (it_at : Int32) (it_tokenAt : Int32) (it_fault : Int32) (it_faultAt : Int32) (it_plan_kinds : Int32) (it_plan_columns : Int32) (it_plan_slugs : Int32) (it_text_length : Int32) (ft_text_bytes : Nat → Int32) (ft_plan_rhythmLength : Nat → Int32) (ft_plan_rhythm : Nat → Int32)  (N : Nat) (w_it_at : Int32) (w_it_tokenAt : Int32) (w_it_fault : Int32) (w_it_faultAt : Int32) (w_ft_plan_rhythmLength : Nat → Int32) (w_ft_plan_rhythm : Nat → Int32) (h : fX2_readKick N it_at it_tokenAt it_fault it_faultAt it_plan_columns it_text_length ft_text_bytes ft_plan_rhythmLength ft_plan_rhythm = some (w_it_at, w_it_tokenAt, w_it_fault, w_it_faultAt, w_ft_plan_rhythmLength, w_ft_plan_rhythm)) : CtV l yX2_readKick wsX2_readKick { frames := 4, cells := 0, slots := 0, locals := 84 } D (TY cI cZ cB cS) kK kV [.ref qt] [(qt, .inr (2, [.ref qt_text, .ref qt_plan, .ref qt_start, .int it_at, .int it_tokenAt, .int it_fault, .int it_faultAt])), (qt_plan, .inr (1, [.ref qt_plan_value, .ref qt_plan_weight, .ref qt_plan_slugWeight, .ref qt_plan_rhythm, .ref qt_plan_rhythmLength, .ref qt_plan_paidBy, .int it_plan_kinds, .int it_plan_columns, .int it_plan_slugs])), (qt_text, .inr (5, [.ref qt_text_bytes, .int it_text_length])), (qt_text_bytes, .inl (cB, 400, .inl ft_text_bytes)), (qt_plan_rhythmLength, .inl (cI, 5, .inl ft_plan_rhythmLength)), (qt_plan_rhythm, .inl (cI, 5, .inl ft_plan_rhythm))] [(qt, .inr (2, [.ref qt_text, .ref qt_plan, .ref qt_start, .int w_it_at, .int w_it_tokenAt, .int w_it_fault, .int w_it_faultAt])), (qt_plan, .inr (1, [.ref qt_plan_value, .ref qt_plan_weight, .ref qt_plan_slugWeight, .ref qt_plan_rhythm, .ref qt_plan_rhythmLength, .ref qt_plan_paidBy, .int it_plan_kinds, .int it_plan_columns, .int it_plan_slugs])), (qt_text, .inr (5, [.ref qt_text_bytes, .int it_text_length])), (qt_text_bytes, .inl (cB, 400, .inl ft_text_bytes)), (qt_plan_rhythmLength, .inl (cI, 5, .inl w_ft_plan_rhythmLength)), (qt_plan_rhythm, .inl (cI, 5, .inl w_ft_plan_rhythm))] sz := by
  refine mkV (cc := cX2_readKick) (maxL := 4) (own := RX2) (by decide) rfl rfl (Nat.le_of_ble_eq_true rfl) ?_
  intro p e s m below meth c A Z ls hx hb hml hown hts hK hN hX hP hD hA hS hret hl
  have hl : lv_has ls 4 [(0, .ref qt)] := hl
  have fl12 := hts (.fieldLink RX2 12 "SoupWall$Reader" "plan" "LSoupWall$Plan;") (by decide +kernel)
  have hiX2 : ∀ w ∈ wsX20, w ∈ wsX2_readKick := by decide +kernel
  have fl111 : (Cond.fieldLinkNest "SoupWall$Reader" 111 "SoupWall$Plan" "columns" "I" "SoupWall").before ([.ref qt] : List Value).toArray s = true := hN.f 7 rfl
  have hiX1 : ∀ w ∈ wsX10, w ∈ wsX2_readKick := by decide +kernel
  have fl37 := hts (.fieldLink RX2 37 "SoupWall$Reader" "at" "I") (by decide +kernel)
  have fl84 := hts (.fieldLink RX2 84 "SoupWall$Reader" "tokenAt" "I") (by decide +kernel)
  have fl40 := hts (.fieldLink RX2 40 "SoupWall$Reader" "fault" "I") (by decide +kernel)
  unfold fX2_readKick at h
  refine lv_aload_n hx hb dX2_readKick_0 rfl (lv_at hl 0 rfl) ?_
  refine lv_iconst (v := 0) hx hb dX2_readKick_1 (by decide) ?_
  refine lv_aload_n hx hb dX2_readKick_2 rfl (lv_at hl 0 rfl) ?_
  refine va_get (ci := 2) (v := .ref qt_plan) (C := RX2) (T := TX2) (N := 7) hx hb hts hiX2 hown hK hP 0 rfl rfl 1 (by decide) fl12 (fun _ h9 => h9) rfl dX2_readKick_3 ?_
  refine va_getN (ci := 1) (v := .int it_plan_columns) (C := RX1) (T := TX1) (N := 9) hx hb hts hiX1 hown hK hP 1 rfl rfl 7 (by decide) fl111 (fun _ h9 => h9) rfl dX2_readKick_6 ?_
  refine lv_iconst (v := 1) hx hb dX2_readKick_9 (by decide) ?_
  refine lv_isub hx hb dX2_readKick_10 ?_
  obtain ⟨⟨r1, g2, g3, g4, g5⟩, hc6, h⟩ := bd_el h
  refine callVI (rest := []) ⟨hx, hb, hml, hown, hts⟩ (ctX2_takeNumber l D cI cZ cB cS kK kV _ qt qt_text qt_plan qt_start qt_text_bytes it_at it_tokenAt it_fault it_faultAt it_text_length ft_text_bytes 0 (it_plan_columns - 1) N r1 g2 g3 g4 g5 hc6) (cwV 2 hts gX2_readKick_X2_takeNumber rfl rfl rfl (by decide +kernel) ⟨Nat.le_of_ble_eq_true rfl, Nat.le_of_ble_eq_true rfl⟩) hK hN hX hP (dF hD rfl) hS hA [0, 2, 3] rfl (by decide) rfl (va_recv hK hP (ci := 2) (q0 := 0) rfl rfl) rfl hl.1 rfl (Nat.le_of_ble_eq_true rfl) ⟨Nat.zero_le _, Nat.zero_le _⟩ dX2_readKick_11 (fun H locs hP hS => ?_)
  have hP : va_P D vwCl [(qt, .inr (2, [.ref qt_text, .ref qt_plan, .ref qt_start, .int g2, .int g3, .int g4, .int g5])), (qt_plan, .inr (1, [.ref qt_plan_value, .ref qt_plan_weight, .ref qt_plan_slugWeight, .ref qt_plan_rhythm, .ref qt_plan_rhythmLength, .ref qt_plan_paidBy, .int it_plan_kinds, .int it_plan_columns, .int it_plan_slugs])), (qt_text, .inr (5, [.ref qt_text_bytes, .int it_text_length])), (qt_text_bytes, .inl (cB, 400, .inl ft_text_bytes)), (qt_plan_rhythmLength, .inl (cI, 5, .inl ft_plan_rhythmLength)), (qt_plan_rhythm, .inl (cI, 5, .inl ft_plan_rhythm))] H := hP
  refine lv_istore_n (lv' := [(1, .int r1), (0, .ref qt)]) hx hb dX2_readKick_14 rfl hl (by decide) rfl (fun ls hl => ?_)
  refine lv_aload_n hx hb dX2_readKick_15 rfl (lv_at hl 1 rfl) ?_
  refine va_get (ci := 2) (v := .ref qt_plan) (C := RX2) (T := TX2) (N := 7) hx hb hts hiX2 hown hK hP 0 rfl rfl 1 (by decide) fl12 (fun _ h9 => h9) rfl dX2_readKick_16 ?_
  refine lv_iload_n hx hb dX2_readKick_19 rfl (lv_at hl 0 rfl) ?_
  obtain ⟨r7, hc8, h⟩ := bd_el h
  refine callVI (rest := []) ⟨hx, hb, hml, hown, hts⟩ (ctX1_hasRhythm l D cI cZ cB cS kK kV _ qt_plan qt_plan_value qt_plan_weight qt_plan_slugWeight qt_plan_rhythm qt_plan_rhythmLength qt_plan_paidBy it_plan_kinds it_plan_columns it_plan_slugs ft_plan_rhythmLength r1 N r7 hc8) (cwV 1 hts gX2_readKick_X1_hasRhythm rfl rfl rfl (by decide +kernel) ⟨Nat.le_of_ble_eq_true rfl, Nat.le_of_ble_eq_true rfl⟩) hK hN hX hP (dF hD rfl) hS hA [1, 4] rfl (by decide) rfl (va_recv hK hP (ci := 1) (q0 := 1) rfl rfl) rfl hl.1 rfl (Nat.le_of_ble_eq_true rfl) ⟨Nat.zero_le _, Nat.zero_le _⟩ dX2_readKick_20 (fun H locs hP hS => ?_)
  have hP : va_P D vwCl [(qt, .inr (2, [.ref qt_text, .ref qt_plan, .ref qt_start, .int g2, .int g3, .int g4, .int g5])), (qt_plan, .inr (1, [.ref qt_plan_value, .ref qt_plan_weight, .ref qt_plan_slugWeight, .ref qt_plan_rhythm, .ref qt_plan_rhythmLength, .ref qt_plan_paidBy, .int it_plan_kinds, .int it_plan_columns, .int it_plan_slugs])), (qt_text, .inr (5, [.ref qt_text_bytes, .int it_text_length])), (qt_text_bytes, .inl (cB, 400, .inl ft_text_bytes)), (qt_plan_rhythmLength, .inl (cI, 5, .inl ft_plan_rhythmLength)), (qt_plan_rhythm, .inl (cI, 5, .inl ft_plan_rhythm))] H := hP
  refine lv_if_eq (tgt := 35) hx hb dX2_readKick_23 (by decide) (fun c9 => ?_) (fun c9 => ?_)
  · have h := if_t c9 h
    refine lv_aload_n hx hb dX2_readKick_35 rfl (lv_at hl 1 rfl) ?_
    obtain ⟨⟨r10, g11, g12, g13, g14⟩, hc15, h⟩ := bd_el h
    refine callVI (rest := []) ⟨hx, hb, hml, hown, hts⟩ (ctX2_takeRhythm l D cI cZ cB cS kK kV _ qt qt_text qt_plan qt_start qt_text_bytes g2 g3 g4 g5 it_text_length ft_text_bytes N r10 g11 g12 g13 g14 hc15) (cwV 0 hts gX2_readKick_X2_takeRhythm rfl rfl rfl (by decide +kernel) ⟨Nat.le_of_ble_eq_true rfl, Nat.le_of_ble_eq_true rfl⟩) hK hN hX hP (dF hD rfl) hS hA [0, 2, 3] rfl (by decide) rfl (va_recv hK hP (ci := 2) (q0 := 0) rfl rfl) rfl hl.1 rfl (Nat.le_of_ble_eq_true rfl) ⟨Nat.zero_le _, Nat.zero_le _⟩ dX2_readKick_36 (fun H locs hP hS => ?_)
    have hP : va_P D vwCl [(qt, .inr (2, [.ref qt_text, .ref qt_plan, .ref qt_start, .int g11, .int g12, .int g13, .int g14])), (qt_plan, .inr (1, [.ref qt_plan_value, .ref qt_plan_weight, .ref qt_plan_slugWeight, .ref qt_plan_rhythm, .ref qt_plan_rhythmLength, .ref qt_plan_paidBy, .int it_plan_kinds, .int it_plan_columns, .int it_plan_slugs])), (qt_text, .inr (5, [.ref qt_text_bytes, .int it_text_length])), (qt_text_bytes, .inl (cB, 400, .inl ft_text_bytes)), (qt_plan_rhythmLength, .inl (cI, 5, .inl ft_plan_rhythmLength)), (qt_plan_rhythm, .inl (cI, 5, .inl ft_plan_rhythm))] H := hP
    refine lv_istore_n (lv' := [(2, .int r10), (1, .int r1), (0, .ref qt)]) hx hb dX2_readKick_39 rfl hl (by decide) rfl (fun ls hl => ?_)
    refine lv_aload_n hx hb dX2_readKick_40 rfl (lv_at hl 2 rfl) ?_
    refine va_get (ci := 2) (v := .int g11) (C := RX2) (T := TX2) (N := 7) hx hb hts hiX2 hown hK hP 0 rfl rfl 3 (by decide) fl37 (fun _ h9 => h9) rfl dX2_readKick_41 ?_
    refine lv_aload_n hx hb dX2_readKick_44 rfl (lv_at hl 2 rfl) ?_
    refine va_get (ci := 2) (v := .int g12) (C := RX2) (T := TX2) (N := 7) hx hb hts hiX2 hown hK hP 0 rfl rfl 4 (by decide) fl84 (fun _ h9 => h9) rfl dX2_readKick_45 ?_
    refine lv_isub hx hb dX2_readKick_48 ?_
    refine lv_topi (fun n16 en16 => ?_)
    have h := lt_at en16 h
    refine lv_istore_n (lv' := [(3, .int n16), (2, .int r10), (1, .int r1), (0, .ref qt)]) hx hb dX2_readKick_49 rfl hl (by decide) rfl (fun ls hl => ?_)
    refine lv_aload_n hx hb dX2_readKick_50 rfl (lv_at hl 3 rfl) ?_
    obtain ⟨⟨g17, g18, g19⟩, hc20, h⟩ := bd_el h
    refine callVV (rest := []) ⟨hx, hb, hml, hown, hts⟩ (ctX2_takeEnd l D cI cZ cB cS kK kV _ qt qt_text qt_plan qt_start qt_text_bytes g11 g12 g13 g14 it_text_length ft_text_bytes N g17 g18 g19 hc20) (cwV 0 hts gX2_readKick_X2_takeEnd rfl rfl rfl (by decide +kernel) ⟨Nat.le_of_ble_eq_true rfl, Nat.le_of_ble_eq_true rfl⟩) hK hN hX hP (dF hD rfl) hS hA [0, 2, 3] rfl (by decide) rfl (va_recv hK hP (ci := 2) (q0 := 0) rfl rfl) rfl hl.1 rfl (Nat.le_of_ble_eq_true rfl) ⟨Nat.zero_le _, Nat.zero_le _⟩ dX2_readKick_51 (fun H locs hP hS => ?_)
    have hP : va_P D vwCl [(qt, .inr (2, [.ref qt_text, .ref qt_plan, .ref qt_start, .int g17, .int g12, .int g18, .int g19])), (qt_plan, .inr (1, [.ref qt_plan_value, .ref qt_plan_weight, .ref qt_plan_slugWeight, .ref qt_plan_rhythm, .ref qt_plan_rhythmLength, .ref qt_plan_paidBy, .int it_plan_kinds, .int it_plan_columns, .int it_plan_slugs])), (qt_text, .inr (5, [.ref qt_text_bytes, .int it_text_length])), (qt_text_bytes, .inl (cB, 400, .inl ft_text_bytes)), (qt_plan_rhythmLength, .inl (cI, 5, .inl ft_plan_rhythmLength)), (qt_plan_rhythm, .inl (cI, 5, .inl ft_plan_rhythm))] H := hP
    refine lv_aload_n hx hb dX2_readKick_54 rfl (lv_at hl 3 rfl) ?_
    refine va_get (ci := 2) (v := .int g18) (C := RX2) (T := TX2) (N := 7) hx hb hts hiX2 hown hK hP 0 rfl rfl 5 (by decide) fl40 (fun _ h9 => h9) rfl dX2_readKick_55 ?_
    refine lv_if_ne (tgt := 71) hx hb dX2_readKick_58 (by decide) (fun c21 => ?_) (fun c21 => ?_)
    · have h := if_f c21 h
      cases h
      exact hret _ _ _ _ hP hS dX2_readKick_71
    · have h := if_t c21 h
      refine lv_aload_n hx hb dX2_readKick_61 rfl (lv_at hl 3 rfl) ?_
      refine va_get (ci := 2) (v := .ref qt_plan) (C := RX2) (T := TX2) (N := 7) hx hb hts hiX2 hown hK hP 0 rfl rfl 1 (by decide) fl12 (fun _ h9 => h9) rfl dX2_readKick_62 ?_
      refine lv_iload_n hx hb dX2_readKick_65 rfl (lv_at hl 2 rfl) ?_
      refine lv_iload_n hx hb dX2_readKick_66 rfl (lv_at hl 1 rfl) ?_
      refine lv_iload_n hx hb dX2_readKick_67 rfl (lv_at hl 0 rfl) ?_
      obtain ⟨⟨g22, g23⟩, hc24, h⟩ := bd_el h
      refine callVV (rest := []) ⟨hx, hb, hml, hown, hts⟩ (ctX1_setRhythm l D cI cZ cB cS kK kV _ qt_plan qt_plan_value qt_plan_weight qt_plan_slugWeight qt_plan_rhythm qt_plan_rhythmLength qt_plan_paidBy it_plan_kinds it_plan_columns it_plan_slugs ft_plan_rhythm ft_plan_rhythmLength r1 r10 n16 N g22 g23 hc24) (cwV 3 hts gX2_readKick_X1_setRhythm rfl rfl rfl (by decide +kernel) ⟨Nat.le_of_ble_eq_true rfl, Nat.le_of_ble_eq_true rfl⟩) hK hN hX hP (dF hD rfl) hS hA [1, 5, 4] rfl (by decide) rfl (va_recv hK hP (ci := 1) (q0 := 1) rfl rfl) rfl hl.1 rfl (Nat.le_of_ble_eq_true rfl) ⟨Nat.zero_le _, Nat.zero_le _⟩ dX2_readKick_68 (fun H locs hP hS => ?_)
      have hP : va_P D vwCl [(qt, .inr (2, [.ref qt_text, .ref qt_plan, .ref qt_start, .int g17, .int g12, .int g18, .int g19])), (qt_plan, .inr (1, [.ref qt_plan_value, .ref qt_plan_weight, .ref qt_plan_slugWeight, .ref qt_plan_rhythm, .ref qt_plan_rhythmLength, .ref qt_plan_paidBy, .int it_plan_kinds, .int it_plan_columns, .int it_plan_slugs])), (qt_text, .inr (5, [.ref qt_text_bytes, .int it_text_length])), (qt_text_bytes, .inl (cB, 400, .inl ft_text_bytes)), (qt_plan_rhythmLength, .inl (cI, 5, .inl g23)), (qt_plan_rhythm, .inl (cI, 5, .inl g22))] H := hP
      cases h
      exact hret _ _ _ _ hP hS dX2_readKick_71
  · have h := if_f c9 h
    refine lv_aload_n hx hb dX2_readKick_26 rfl (lv_at hl 1 rfl) ?_
    refine lv_iconst (v := 4) hx hb dX2_readKick_27 (by decide) ?_
    refine lv_aload_n hx hb dX2_readKick_28 rfl (lv_at hl 1 rfl) ?_
    refine va_get (ci := 2) (v := .int g3) (C := RX2) (T := TX2) (N := 7) hx hb hts hiX2 hown hK hP 0 rfl rfl 4 (by decide) fl84 (fun _ h9 => h9) rfl dX2_readKick_29 ?_
    obtain ⟨⟨g25, g26⟩, hc27, h⟩ := bd_el h
    refine callVV (rest := []) ⟨hx, hb, hml, hown, hts⟩ (ctX2_fail l D cI cZ cB cS kK kV _ qt qt_text qt_plan qt_start g2 g3 g4 g5 4 g3 N g25 g26 hc27) (cwV 2 hts gX2_readKick_X2_fail rfl rfl rfl (by decide +kernel) ⟨Nat.le_of_ble_eq_true rfl, Nat.le_of_ble_eq_true rfl⟩) hK hN hX hP (dF hD rfl) hS hA [0] rfl (by decide) rfl (va_recv hK hP (ci := 2) (q0 := 0) rfl rfl) rfl hl.1 rfl (Nat.le_of_ble_eq_true rfl) ⟨Nat.zero_le _, Nat.zero_le _⟩ dX2_readKick_32 (fun H locs hP hS => ?_)
    have hP : va_P D vwCl [(qt, .inr (2, [.ref qt_text, .ref qt_plan, .ref qt_start, .int g2, .int g3, .int g25, .int g26])), (qt_plan, .inr (1, [.ref qt_plan_value, .ref qt_plan_weight, .ref qt_plan_slugWeight, .ref qt_plan_rhythm, .ref qt_plan_rhythmLength, .ref qt_plan_paidBy, .int it_plan_kinds, .int it_plan_columns, .int it_plan_slugs])), (qt_text, .inr (5, [.ref qt_text_bytes, .int it_text_length])), (qt_text_bytes, .inl (cB, 400, .inl ft_text_bytes)), (qt_plan_rhythmLength, .inl (cI, 5, .inl ft_plan_rhythmLength)), (qt_plan_rhythm, .inl (cI, 5, .inl ft_plan_rhythm))] H := hP
    refine lv_aload_n hx hb dX2_readKick_35 rfl (lv_at hl 1 rfl) ?_
    obtain ⟨⟨r28, g29, g30, g31, g32⟩, hc33, h⟩ := bd_el h
    refine callVI (rest := []) ⟨hx, hb, hml, hown, hts⟩ (ctX2_takeRhythm l D cI cZ cB cS kK kV _ qt qt_text qt_plan qt_start qt_text_bytes g2 g3 g25 g26 it_text_length ft_text_bytes N r28 g29 g30 g31 g32 hc33) (cwV 0 hts gX2_readKick_X2_takeRhythm rfl rfl rfl (by decide +kernel) ⟨Nat.le_of_ble_eq_true rfl, Nat.le_of_ble_eq_true rfl⟩) hK hN hX hP (dF hD rfl) hS hA [0, 2, 3] rfl (by decide) rfl (va_recv hK hP (ci := 2) (q0 := 0) rfl rfl) rfl hl.1 rfl (Nat.le_of_ble_eq_true rfl) ⟨Nat.zero_le _, Nat.zero_le _⟩ dX2_readKick_36 (fun H locs hP hS => ?_)
    have hP : va_P D vwCl [(qt, .inr (2, [.ref qt_text, .ref qt_plan, .ref qt_start, .int g29, .int g30, .int g31, .int g32])), (qt_plan, .inr (1, [.ref qt_plan_value, .ref qt_plan_weight, .ref qt_plan_slugWeight, .ref qt_plan_rhythm, .ref qt_plan_rhythmLength, .ref qt_plan_paidBy, .int it_plan_kinds, .int it_plan_columns, .int it_plan_slugs])), (qt_text, .inr (5, [.ref qt_text_bytes, .int it_text_length])), (qt_text_bytes, .inl (cB, 400, .inl ft_text_bytes)), (qt_plan_rhythmLength, .inl (cI, 5, .inl ft_plan_rhythmLength)), (qt_plan_rhythm, .inl (cI, 5, .inl ft_plan_rhythm))] H := hP
    refine lv_istore_n (lv' := [(2, .int r28), (1, .int r1), (0, .ref qt)]) hx hb dX2_readKick_39 rfl hl (by decide) rfl (fun ls hl => ?_)
    refine lv_aload_n hx hb dX2_readKick_40 rfl (lv_at hl 2 rfl) ?_
    refine va_get (ci := 2) (v := .int g29) (C := RX2) (T := TX2) (N := 7) hx hb hts hiX2 hown hK hP 0 rfl rfl 3 (by decide) fl37 (fun _ h9 => h9) rfl dX2_readKick_41 ?_
    refine lv_aload_n hx hb dX2_readKick_44 rfl (lv_at hl 2 rfl) ?_
    refine va_get (ci := 2) (v := .int g30) (C := RX2) (T := TX2) (N := 7) hx hb hts hiX2 hown hK hP 0 rfl rfl 4 (by decide) fl84 (fun _ h9 => h9) rfl dX2_readKick_45 ?_
    refine lv_isub hx hb dX2_readKick_48 ?_
    refine lv_topi (fun n34 en34 => ?_)
    have h := lt_at en34 h
    refine lv_istore_n (lv' := [(3, .int n34), (2, .int r28), (1, .int r1), (0, .ref qt)]) hx hb dX2_readKick_49 rfl hl (by decide) rfl (fun ls hl => ?_)
    refine lv_aload_n hx hb dX2_readKick_50 rfl (lv_at hl 3 rfl) ?_
    obtain ⟨⟨g35, g36, g37⟩, hc38, h⟩ := bd_el h
    refine callVV (rest := []) ⟨hx, hb, hml, hown, hts⟩ (ctX2_takeEnd l D cI cZ cB cS kK kV _ qt qt_text qt_plan qt_start qt_text_bytes g29 g30 g31 g32 it_text_length ft_text_bytes N g35 g36 g37 hc38) (cwV 0 hts gX2_readKick_X2_takeEnd rfl rfl rfl (by decide +kernel) ⟨Nat.le_of_ble_eq_true rfl, Nat.le_of_ble_eq_true rfl⟩) hK hN hX hP (dF hD rfl) hS hA [0, 2, 3] rfl (by decide) rfl (va_recv hK hP (ci := 2) (q0 := 0) rfl rfl) rfl hl.1 rfl (Nat.le_of_ble_eq_true rfl) ⟨Nat.zero_le _, Nat.zero_le _⟩ dX2_readKick_51 (fun H locs hP hS => ?_)
    have hP : va_P D vwCl [(qt, .inr (2, [.ref qt_text, .ref qt_plan, .ref qt_start, .int g35, .int g30, .int g36, .int g37])), (qt_plan, .inr (1, [.ref qt_plan_value, .ref qt_plan_weight, .ref qt_plan_slugWeight, .ref qt_plan_rhythm, .ref qt_plan_rhythmLength, .ref qt_plan_paidBy, .int it_plan_kinds, .int it_plan_columns, .int it_plan_slugs])), (qt_text, .inr (5, [.ref qt_text_bytes, .int it_text_length])), (qt_text_bytes, .inl (cB, 400, .inl ft_text_bytes)), (qt_plan_rhythmLength, .inl (cI, 5, .inl ft_plan_rhythmLength)), (qt_plan_rhythm, .inl (cI, 5, .inl ft_plan_rhythm))] H := hP
    refine lv_aload_n hx hb dX2_readKick_54 rfl (lv_at hl 3 rfl) ?_
    refine va_get (ci := 2) (v := .int g36) (C := RX2) (T := TX2) (N := 7) hx hb hts hiX2 hown hK hP 0 rfl rfl 5 (by decide) fl40 (fun _ h9 => h9) rfl dX2_readKick_55 ?_
    refine lv_if_ne (tgt := 71) hx hb dX2_readKick_58 (by decide) (fun c39 => ?_) (fun c39 => ?_)
    · have h := if_f c39 h
      cases h
      exact hret _ _ _ _ hP hS dX2_readKick_71
    · have h := if_t c39 h
      refine lv_aload_n hx hb dX2_readKick_61 rfl (lv_at hl 3 rfl) ?_
      refine va_get (ci := 2) (v := .ref qt_plan) (C := RX2) (T := TX2) (N := 7) hx hb hts hiX2 hown hK hP 0 rfl rfl 1 (by decide) fl12 (fun _ h9 => h9) rfl dX2_readKick_62 ?_
      refine lv_iload_n hx hb dX2_readKick_65 rfl (lv_at hl 2 rfl) ?_
      refine lv_iload_n hx hb dX2_readKick_66 rfl (lv_at hl 1 rfl) ?_
      refine lv_iload_n hx hb dX2_readKick_67 rfl (lv_at hl 0 rfl) ?_
      obtain ⟨⟨g40, g41⟩, hc42, h⟩ := bd_el h
      refine callVV (rest := []) ⟨hx, hb, hml, hown, hts⟩ (ctX1_setRhythm l D cI cZ cB cS kK kV _ qt_plan qt_plan_value qt_plan_weight qt_plan_slugWeight qt_plan_rhythm qt_plan_rhythmLength qt_plan_paidBy it_plan_kinds it_plan_columns it_plan_slugs ft_plan_rhythm ft_plan_rhythmLength r1 r28 n34 N g40 g41 hc42) (cwV 3 hts gX2_readKick_X1_setRhythm rfl rfl rfl (by decide +kernel) ⟨Nat.le_of_ble_eq_true rfl, Nat.le_of_ble_eq_true rfl⟩) hK hN hX hP (dF hD rfl) hS hA [1, 5, 4] rfl (by decide) rfl (va_recv hK hP (ci := 1) (q0 := 1) rfl rfl) rfl hl.1 rfl (Nat.le_of_ble_eq_true rfl) ⟨Nat.zero_le _, Nat.zero_le _⟩ dX2_readKick_68 (fun H locs hP hS => ?_)
      have hP : va_P D vwCl [(qt, .inr (2, [.ref qt_text, .ref qt_plan, .ref qt_start, .int g35, .int g30, .int g36, .int g37])), (qt_plan, .inr (1, [.ref qt_plan_value, .ref qt_plan_weight, .ref qt_plan_slugWeight, .ref qt_plan_rhythm, .ref qt_plan_rhythmLength, .ref qt_plan_paidBy, .int it_plan_kinds, .int it_plan_columns, .int it_plan_slugs])), (qt_text, .inr (5, [.ref qt_text_bytes, .int it_text_length])), (qt_text_bytes, .inl (cB, 400, .inl ft_text_bytes)), (qt_plan_rhythmLength, .inl (cI, 5, .inl g41)), (qt_plan_rhythm, .inl (cI, 5, .inl g40))] H := hP
      cases h
      exact hret _ _ _ _ hP hS dX2_readKick_71
