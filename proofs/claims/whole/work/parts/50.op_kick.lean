set_option maxHeartbeats 4000000 in
set_option maxRecDepth 100000 in
theorem op_kick : ∀ (ix_faultAt : Int32) (ix_text_length : Int32) (fx_text_bytes : Nat → Int32) (ix_reader_at : Int32) (ix_reader_tokenAt : Int32) (ix_reader_fault : Int32) (ix_reader_faultAt : Int32) (ix_reader_plan_kinds : Int32) (ix_reader_plan_columns : Int32) (ix_reader_plan_slugs : Int32) (fx_reader_plan_value : Nat → Int32) (fx_reader_plan_weight : Nat → Int32) (fx_reader_plan_slugWeight : Nat → Int32) (fx_reader_plan_rhythm : Nat → Int32) (fx_reader_plan_rhythmLength : Nat → Int32) (fx_reader_plan_paidBy : Nat → Int32) (ix_reader_start_lost : Int32) (ix_reader_start_stamps : Int32) (ix_reader_start_sales : Int32) (ix_reader_start_damp : Int32) (ix_reader_start_worn : Int32) (ix_reader_start_seed : Int32) (fx_reader_start_tube : Nat → Int32) (fx_reader_start_goods : Nat → Int32) (fx_reader_start_stick : Nat → Int32) (fx_reader_start_kicks : Nat → Int32) (fx_reader_start_kickCount : Nat → Int32) (fx_reader_start_low : Nat → Int32) (fx_reader_start_high : Nat → Int32) (fx_reader_start_price : Nat → Int32) (fx_reader_start_wired : Nat → Int32) (fx_kept : Nat → Int32) (ix_buyers_count : Int32) (fx_buyers_column : Nat → Int32) (fx_buyers_kind : Nat → Int32) (fx_buyers_coins : Nat → Int32) (ix_tries_count : Int32) (fx_tries_row : Nat → Int32) (fx_tries_length : Nat → Int32) (fx_tries_free : Nat → Int32) (ix_trial_lost : Int32) (ix_trial_stamps : Int32) (ix_trial_sales : Int32) (ix_trial_damp : Int32) (ix_trial_worn : Int32) (ix_trial_seed : Int32) (fx_trial_tube : Nat → Int32) (fx_trial_goods : Nat → Int32) (fx_trial_stick : Nat → Int32) (fx_trial_kicks : Nat → Int32) (fx_trial_kickCount : Nat → Int32) (fx_trial_low : Nat → Int32) (fx_trial_high : Nat → Int32) (fx_trial_price : Nat → Int32) (fx_trial_wired : Nat → Int32) (ix_row_width : Int32) (ix_row_total : Int32) (fx_row_coins : Nat → Int32) (ix_plan_kinds : Int32) (ix_plan_columns : Int32) (ix_plan_slugs : Int32) (fx_plan_value : Nat → Int32) (fx_plan_weight : Nat → Int32) (fx_plan_slugWeight : Nat → Int32) (fx_plan_rhythm : Nat → Int32) (fx_plan_rhythmLength : Nat → Int32) (fx_plan_paidBy : Nat → Int32) (ix_now_lost : Int32) (ix_now_stamps : Int32) (ix_now_sales : Int32) (ix_now_damp : Int32) (ix_now_worn : Int32) (ix_now_seed : Int32) (fx_now_tube : Nat → Int32) (fx_now_goods : Nat → Int32) (fx_now_stick : Nat → Int32) (fx_now_kicks : Nat → Int32) (fx_now_kickCount : Nat → Int32) (fx_now_low : Nat → Int32) (fx_now_high : Nat → Int32) (fx_now_price : Nat → Int32) (fx_now_wired : Nat → Int32) (ix_images_0_lost : Int32) (ix_images_0_stamps : Int32) (ix_images_0_sales : Int32) (ix_images_0_damp : Int32) (ix_images_0_worn : Int32) (ix_images_0_seed : Int32) (fx_images_0_tube : Nat → Int32) (fx_images_0_goods : Nat → Int32) (fx_images_0_stick : Nat → Int32) (fx_images_0_kicks : Nat → Int32) (fx_images_0_kickCount : Nat → Int32) (fx_images_0_low : Nat → Int32) (fx_images_0_high : Nat → Int32) (fx_images_0_price : Nat → Int32) (fx_images_0_wired : Nat → Int32) (ix_images_1_lost : Int32) (ix_images_1_stamps : Int32) (ix_images_1_sales : Int32) (ix_images_1_damp : Int32) (ix_images_1_worn : Int32) (ix_images_1_seed : Int32) (fx_images_1_tube : Nat → Int32) (fx_images_1_goods : Nat → Int32) (fx_images_1_stick : Nat → Int32) (fx_images_1_kicks : Nat → Int32) (fx_images_1_kickCount : Nat → Int32) (fx_images_1_low : Nat → Int32) (fx_images_1_high : Nat → Int32) (fx_images_1_price : Nat → Int32) (fx_images_1_wired : Nat → Int32) (im_kinds : Int32) (im_columns : Int32) (im_slugs : Int32) (im_newKinds : Int32) (im_newColumns : Int32) (im_newSlugs : Int32) (im_rhythmTold : Int32) (im_textSize : Int32) (im_at : Int32) (im_first : Int32) (im_length : Int32) (im_faultOf : Int32) (im_fault : Int32) (im_buyerMany : Int32) (im_tryMany : Int32) (fm_w : Nat → Int32) (fm_isKept : Nat → Int32) (fm_value : Nat → Int32) (fm_weight : Nat → Int32) (fm_newTube : Nat → Int32) (fm_newPrice : Nat → Int32) (fm_newLow : Nat → Int32) (fm_newHigh : Nat → Int32) (fm_newGoods : Nat → Int32) (fm_rhythm : Nat → Int32) (fm_rhythmLong : Nat → Int32) (fm_slug : Nat → Int32) (fm_text : Nat → Int32) (fm_of : Nat → Int32) (fm_buyerColumn : Nat → Int32) (fm_buyerKind : Nat → Int32) (fm_buyerCoins : Nat → Int32) (fm_tryRow : Nat → Int32) (fm_tryLong : Nat → Int32) (fm_tryFree : Nat → Int32), REL ix_faultAt ix_text_length fx_text_bytes ix_reader_at ix_reader_tokenAt ix_reader_fault ix_reader_faultAt ix_reader_plan_kinds ix_reader_plan_columns ix_reader_plan_slugs fx_reader_plan_value fx_reader_plan_weight fx_reader_plan_slugWeight fx_reader_plan_rhythm fx_reader_plan_rhythmLength fx_reader_plan_paidBy ix_reader_start_lost ix_reader_start_stamps ix_reader_start_sales ix_reader_start_damp ix_reader_start_worn ix_reader_start_seed fx_reader_start_tube fx_reader_start_goods fx_reader_start_stick fx_reader_start_kicks fx_reader_start_kickCount fx_reader_start_low fx_reader_start_high fx_reader_start_price fx_reader_start_wired fx_kept ix_buyers_count fx_buyers_column fx_buyers_kind fx_buyers_coins ix_tries_count fx_tries_row fx_tries_length fx_tries_free ix_trial_lost ix_trial_stamps ix_trial_sales ix_trial_damp ix_trial_worn ix_trial_seed fx_trial_tube fx_trial_goods fx_trial_stick fx_trial_kicks fx_trial_kickCount fx_trial_low fx_trial_high fx_trial_price fx_trial_wired ix_row_width ix_row_total fx_row_coins ix_plan_kinds ix_plan_columns ix_plan_slugs fx_plan_value fx_plan_weight fx_plan_slugWeight fx_plan_rhythm fx_plan_rhythmLength fx_plan_paidBy ix_now_lost ix_now_stamps ix_now_sales ix_now_damp ix_now_worn ix_now_seed fx_now_tube fx_now_goods fx_now_stick fx_now_kicks fx_now_kickCount fx_now_low fx_now_high fx_now_price fx_now_wired ix_images_0_lost ix_images_0_stamps ix_images_0_sales ix_images_0_damp ix_images_0_worn ix_images_0_seed fx_images_0_tube fx_images_0_goods fx_images_0_stick fx_images_0_kicks fx_images_0_kickCount fx_images_0_low fx_images_0_high fx_images_0_price fx_images_0_wired ix_images_1_lost ix_images_1_stamps ix_images_1_sales ix_images_1_damp ix_images_1_worn ix_images_1_seed fx_images_1_tube fx_images_1_goods fx_images_1_stick fx_images_1_kicks fx_images_1_kickCount fx_images_1_low fx_images_1_high fx_images_1_price fx_images_1_wired im_kinds im_columns im_slugs im_newKinds im_newColumns im_newSlugs im_rhythmTold im_textSize im_at im_first im_length im_faultOf im_fault im_buyerMany im_tryMany fm_w fm_isKept fm_value fm_weight fm_newTube fm_newPrice fm_newLow fm_newHigh fm_newGoods fm_rhythm fm_rhythmLong fm_slug fm_text fm_of fm_buyerColumn fm_buyerKind fm_buyerCoins fm_tryRow fm_tryLong fm_tryFree → ∀ (N : Nat), FU ≤ N → ∀ (x1 : Int32) (x2 : Int32), ∃ (r : Int32) (w_fx_now_stick : Nat → Int32) (w_fx_now_kicks : Nat → Int32) (w_fx_now_kickCount : Nat → Int32) (w_fm_w : Nat → Int32), fX7_kick N ix_plan_columns fx_now_stick fx_now_kicks fx_now_kickCount fx_plan_rhythmLength fx_plan_rhythm x1 x2 = some (r, w_fx_now_stick, w_fx_now_kicks, w_fx_now_kickCount) ∧ fX8_kick N im_columns fm_w fm_rhythmLong fm_rhythm x1 x2 = some (r, w_fm_w) ∧ REL ix_faultAt ix_text_length fx_text_bytes ix_reader_at ix_reader_tokenAt ix_reader_fault ix_reader_faultAt ix_reader_plan_kinds ix_reader_plan_columns ix_reader_plan_slugs fx_reader_plan_value fx_reader_plan_weight fx_reader_plan_slugWeight fx_reader_plan_rhythm fx_reader_plan_rhythmLength fx_reader_plan_paidBy ix_reader_start_lost ix_reader_start_stamps ix_reader_start_sales ix_reader_start_damp ix_reader_start_worn ix_reader_start_seed fx_reader_start_tube fx_reader_start_goods fx_reader_start_stick fx_reader_start_kicks fx_reader_start_kickCount fx_reader_start_low fx_reader_start_high fx_reader_start_price fx_reader_start_wired fx_kept ix_buyers_count fx_buyers_column fx_buyers_kind fx_buyers_coins ix_tries_count fx_tries_row fx_tries_length fx_tries_free ix_trial_lost ix_trial_stamps ix_trial_sales ix_trial_damp ix_trial_worn ix_trial_seed fx_trial_tube fx_trial_goods fx_trial_stick fx_trial_kicks fx_trial_kickCount fx_trial_low fx_trial_high fx_trial_price fx_trial_wired ix_row_width ix_row_total fx_row_coins ix_plan_kinds ix_plan_columns ix_plan_slugs fx_plan_value fx_plan_weight fx_plan_slugWeight fx_plan_rhythm fx_plan_rhythmLength fx_plan_paidBy ix_now_lost ix_now_stamps ix_now_sales ix_now_damp ix_now_worn ix_now_seed fx_now_tube fx_now_goods w_fx_now_stick w_fx_now_kicks w_fx_now_kickCount fx_now_low fx_now_high fx_now_price fx_now_wired ix_images_0_lost ix_images_0_stamps ix_images_0_sales ix_images_0_damp ix_images_0_worn ix_images_0_seed fx_images_0_tube fx_images_0_goods fx_images_0_stick fx_images_0_kicks fx_images_0_kickCount fx_images_0_low fx_images_0_high fx_images_0_price fx_images_0_wired ix_images_1_lost ix_images_1_stamps ix_images_1_sales ix_images_1_damp ix_images_1_worn ix_images_1_seed fx_images_1_tube fx_images_1_goods fx_images_1_stick fx_images_1_kicks fx_images_1_kickCount fx_images_1_low fx_images_1_high fx_images_1_price fx_images_1_wired im_kinds im_columns im_slugs im_newKinds im_newColumns im_newSlugs im_rhythmTold im_textSize im_at im_first im_length im_faultOf im_fault im_buyerMany im_tryMany w_fm_w fm_isKept fm_value fm_weight fm_newTube fm_newPrice fm_newLow fm_newHigh fm_newGoods fm_rhythm fm_rhythmLong fm_slug fm_text fm_of fm_buyerColumn fm_buyerKind fm_buyerCoins fm_tryRow fm_tryLong fm_tryFree := by
  intro ix_faultAt ix_text_length fx_text_bytes ix_reader_at ix_reader_tokenAt ix_reader_fault ix_reader_faultAt ix_reader_plan_kinds ix_reader_plan_columns ix_reader_plan_slugs fx_reader_plan_value fx_reader_plan_weight fx_reader_plan_slugWeight fx_reader_plan_rhythm fx_reader_plan_rhythmLength fx_reader_plan_paidBy ix_reader_start_lost ix_reader_start_stamps ix_reader_start_sales ix_reader_start_damp ix_reader_start_worn ix_reader_start_seed fx_reader_start_tube fx_reader_start_goods fx_reader_start_stick fx_reader_start_kicks fx_reader_start_kickCount fx_reader_start_low fx_reader_start_high fx_reader_start_price fx_reader_start_wired fx_kept ix_buyers_count fx_buyers_column fx_buyers_kind fx_buyers_coins ix_tries_count fx_tries_row fx_tries_length fx_tries_free ix_trial_lost ix_trial_stamps ix_trial_sales ix_trial_damp ix_trial_worn ix_trial_seed fx_trial_tube fx_trial_goods fx_trial_stick fx_trial_kicks fx_trial_kickCount fx_trial_low fx_trial_high fx_trial_price fx_trial_wired ix_row_width ix_row_total fx_row_coins ix_plan_kinds ix_plan_columns ix_plan_slugs fx_plan_value fx_plan_weight fx_plan_slugWeight fx_plan_rhythm fx_plan_rhythmLength fx_plan_paidBy ix_now_lost ix_now_stamps ix_now_sales ix_now_damp ix_now_worn ix_now_seed fx_now_tube fx_now_goods fx_now_stick fx_now_kicks fx_now_kickCount fx_now_low fx_now_high fx_now_price fx_now_wired ix_images_0_lost ix_images_0_stamps ix_images_0_sales ix_images_0_damp ix_images_0_worn ix_images_0_seed fx_images_0_tube fx_images_0_goods fx_images_0_stick fx_images_0_kicks fx_images_0_kickCount fx_images_0_low fx_images_0_high fx_images_0_price fx_images_0_wired ix_images_1_lost ix_images_1_stamps ix_images_1_sales ix_images_1_damp ix_images_1_worn ix_images_1_seed fx_images_1_tube fx_images_1_goods fx_images_1_stick fx_images_1_kicks fx_images_1_kickCount fx_images_1_low fx_images_1_high fx_images_1_price fx_images_1_wired im_kinds im_columns im_slugs im_newKinds im_newColumns im_newSlugs im_rhythmTold im_textSize im_at im_first im_length im_faultOf im_fault im_buyerMany im_tryMany fm_w fm_isKept fm_value fm_weight fm_newTube fm_newPrice fm_newLow fm_newHigh fm_newGoods fm_rhythm fm_rhythmLong fm_slug fm_text fm_of fm_buyerColumn fm_buyerKind fm_buyerCoins fm_tryRow fm_tryLong fm_tryFree hR N hN x1 x2
  obtain ⟨K, C, S, cu, cg, mu, mg, hT, hPl, hNow, hk0, hk1, hB, hTr, hF⟩ := hR
  have hPl0 := hPl
  obtain ⟨⟨hK5, hC5, hS5⟩, ⟨rfl, rfl, rfl⟩, ⟨rfl, rfl, rfl⟩, hval, hslug, hrhy, hpay⟩ := hPl
  have img : ∀ (w2 : Nat → Int32), (∀ j, 60 ≤ j → w2 j = fm_w j) → ((fx_kept 0 = 0 ∧ fm_isKept 0 = 0) ∨ (fx_kept 0 = 1 ∧ fm_isKept 0 = 1 ∧ RSt K C fx_plan_rhythmLength cu cg mu mg fx_images_0_tube fx_images_0_goods fx_images_0_stick fx_images_0_kicks fx_images_0_kickCount fx_images_0_low fx_images_0_high fx_images_0_price fx_images_0_wired ix_images_0_lost ix_images_0_stamps ix_images_0_sales ix_images_0_damp ix_images_0_worn ix_images_0_seed w2 120)) ∧ ((fx_kept 1 = 0 ∧ fm_isKept 1 = 0) ∨ (fx_kept 1 = 1 ∧ fm_isKept 1 = 1 ∧ RSt K C fx_plan_rhythmLength cu cg mu mg fx_images_1_tube fx_images_1_goods fx_images_1_stick fx_images_1_kicks fx_images_1_kickCount fx_images_1_low fx_images_1_high fx_images_1_price fx_images_1_wired ix_images_1_lost ix_images_1_stamps ix_images_1_sales ix_images_1_damp ix_images_1_worn ix_images_1_seed w2 180)) := by
    intro w2 hw2
    refine ⟨hk0.imp id (fun h => ⟨h.1, h.2.1, h.2.2.cong hK5 hC5 (fun j _ => hw2 _ (by omega))⟩), hk1.imp id (fun h => ⟨h.1, h.2.1, h.2.2.cong hK5 hC5 (fun j _ => hw2 _ (by omega))⟩)⟩
  rcases p_ran N C hC5 x1 with ⟨-, a1, -, a2, -⟩ | ⟨c, hc, rfl, a1, -, a2, -⟩
  · refine ⟨(-1000000001), fx_now_stick, fx_now_kicks, fx_now_kickCount, fm_w, ?_, ?_, ⟨K, C, S, cu, cg, mu, mg, hT, hPl0, hNow, hk0, hk1, hB, hTr, hF⟩⟩
    · unfold fX7_kick
      rw [a1]
      rfl
    · unfold fX8_kick
      rw [a2]
      rfl
  obtain ⟨e5, hs5⟩ := hNow.2.2.2.2.1 c hc
  obtain ⟨m0, b0, hm1, hm6, hb0, eL, eML, eR, eMR⟩ := hrhy c hc
  obtain ⟨m, n, b, e1, hm, hn6, hb, e4n, e4k, e20, e15, ez⟩ := hNow.2.2.2.2.2.2.2.2.1 c hc
  obtain rfl : m = m0 := (nI_eq (by omega) (by omega)).mp (e1.symm.trans eL)
  have q5 : ∀ a : Option (Int32 × (Nat → Int32) × (Nat → Int32) × (Nat → Int32)), ck (nI c) 5 a = a := fun a => ck_nI (by omega) (by decide) a
  have q5' : ∀ a : Option ((Nat → Int32) × (Nat → Int32) × (Nat → Int32)), ck (nI c) 5 a = a := fun a => ck_nI (by omega) (by decide) a
  have q10 : ∀ a : Option (Int32 × (Nat → Int32)), ck (nI c) 10 a = a := fun a => ck_nI (by omega) (by decide) a
  have hcl : (nI c).toNatClampNeg = c := nI_clamp (by omega)
  have m10 : ∀ a : Option (Int32 × (Nat → Int32)), ck (10 + nI c) 240 a = a := fun a => ck_at (nI_add 10 c) (by omega) (by decide) a
  have l10 : Int32.toNatClampNeg (10 + nI c) = 0 + 10 + c := (cl_add (a := 10) (b := c) (by omega)).trans (by omega)
  have m15 : ∀ a : Option (Int32 × (Nat → Int32)), ck (15 + nI c) 240 a = a := fun a => ck_at (nI_add 15 c) (by omega) (by decide) a
  have l15 : Int32.toNatClampNeg (15 + nI c) = 0 + 15 + c := (cl_add (a := 15) (b := c) (by omega)).trans (by omega)
  have m20 : ∀ a : Option (Int32 × (Nat → Int32)), ck (20 + nI c) 240 a = a := fun a => ck_at (nI_add 20 c) (by omega) (by decide) a
  have l20 : Int32.toNatClampNeg (20 + nI c) = 0 + 20 + c := (cl_add (a := 20) (b := c) (by omega)).trans (by omega)
  have hj0 : fX4_isJammed N fx_now_stick (nI c) = (if fx_now_stick c < 10 then some 0 else some 1) := by
    unfold fX4_isJammed
    rw [ck_nI (by omega) (by decide), hcl]
  have hcase : x2 = 0 ∨ x2 = 1 ∨ ((¬ x2 = 0 ∧ ¬ x2 = 1) ∧ ¬ ((0 : Int64).toInt ≤ x2.toInt ∧ x2.toInt ≤ (1 : Int64).toInt)) := by
    rw [eq32 x2 0, eq32 x2 1]
    show x2.toInt = 0 ∨ x2.toInt = 1 ∨ ((¬ x2.toInt = 0 ∧ ¬ x2.toInt = 1) ∧ ¬ (0 ≤ x2.toInt ∧ x2.toInt ≤ 1))
    omega
  rcases hcase with rfl | rfl | ⟨ho, hi⟩
  rotate_right
  · refine ⟨(-1000000002), fx_now_stick, fx_now_kicks, fx_now_kickCount, fm_w, ?_, ?_, ⟨K, C, S, cu, cg, mu, mg, hT, hPl0, hNow, hk0, hk1, hB, hTr, hF⟩⟩
    · unfold fX7_kick
      rw [a1, bd_s, if_neg (show ¬ (1 : Int32) = 0 by decide), if_neg ho.1, if_neg ho.2]
    · unfold fX8_kick
      rw [a2, bd_s, if_neg (show ¬ (1 : Int32) = 0 by decide), p_in, bd_s, wide, if_neg hi]
      rfl
  all_goals by_cases q : fx_now_stick c < 10
  · have q' : ¬ 10 ≤ fx_now_stick c := by rw [lt32] at q; rw [le32]; omega
    have hjam : fX4_isJammed N fx_now_stick (nI c) = some 0 := by rw [hj0, if_pos q]
    have hin : fX8_in N (Int32.toInt64 0) 0 1 = some 1 := by rw [p_in]; rfl
    refine ⟨(-1000000003), fx_now_stick, fx_now_kicks, fx_now_kickCount, fm_w, ?_, ?_, ⟨K, C, S, cu, cg, mu, mg, hT, hPl0, hNow, hk0, hk1, hB, hTr, hF⟩⟩
    · unfold fX7_kick
      rw [a1, bd_s, if_neg (show ¬ (1 : Int32) = 0 by decide), if_pos (show (0 : Int32) = 0 from rfl), hjam, bd_s, if_pos rfl]
    · unfold fX8_kick
      rw [a2, bd_s, if_neg (show ¬ (1 : Int32) = 0 by decide), hin, bd_s, if_neg (show ¬ (1 : Int32) = 0 by decide), m10, l10, e5, if_neg q']
  · have q' : 10 ≤ fx_now_stick c := by rw [lt32] at q; rw [le32]; omega
    have hjam : fX4_isJammed N fx_now_stick (nI c) = some 1 := by rw [hj0, if_neg q]
    have hin : fX8_in N (Int32.toInt64 0) 0 1 = some 1 := by rw [p_in]; rfl
    have hadd : fX4_addKick N fx_now_kicks fx_now_kickCount (nI c) 0 = some (upd fx_now_kicks c (nI ((2 * b + 0) % 64)), upd fx_now_kickCount c (nI (min 6 (n + 1)))) := by
      unfold fX4_addKick
      rw [ck_nI (by omega) (by decide), hcl, e4k, e4n, lt_e, lt_e, show ((nI b <<< ((1 : Int32) &&& 31)) ||| 0) &&& 63 = nI ((2 * b + 0) % 64) from k_add b hb 0 (by decide), nI_1]
      by_cases q6 : n + 1 < 6
      · rw [if_pos (show nI (n + 1) < 6 from (s_lt (b := 6) (by omega) (by decide)).mpr q6), Nat.min_eq_right (show n + 1 ≤ 6 by omega)]
      · rw [if_neg (show ¬ nI (n + 1) < 6 from fun z => q6 ((s_lt (b := 6) (by omega) (by decide)).mp z)), Nat.min_eq_left (show 6 ≤ n + 1 by omega)]
        rfl
    have hb' : ((2 * b + 0) % 64) < 64 := Nat.mod_lt _ (by decide)
    have hrhyt : fX1_isRhythm N fx_plan_rhythmLength fx_plan_rhythm (nI c) (nI ((2 * b + 0) % 64)) (nI (min 6 (n + 1))) = some (if m ≤ (min 6 (n + 1)) ∧ ((2 * b + 0) % 64) % 2 ^ m = b0 then 1 else 0) := by
      unfold fX1_isRhythm
      rw [ck_nI (by omega) (by decide), hcl, e1, lt_e, k_mask m (by omega) _ hb', eR]
      have hmod : ((2 * b + 0) % 64) % 2 ^ m < 2 ^ m := Nat.mod_lt _ (Nat.pow_pos (by decide))
      have hpw : 2 ^ m ≤ 64 := Nat.pow_le_pow_right (n := 2) (by decide) hm
      by_cases r1 : (min 6 (n + 1)) < m
      · rw [if_pos ((s_lt (by omega) (by omega)).mpr r1), if_neg (fun z => by omega)]
      · rw [if_neg (fun z => r1 ((s_lt (by omega) (by omega)).mp z))]
        by_cases r2 : ((2 * b + 0) % 64) % 2 ^ m = b0
        · rw [if_pos (by rw [r2]), if_pos ⟨by omega, r2⟩]
        · rw [if_neg (fun z => r2 ((nI_eq (by omega) (by omega)).mp z)), if_neg (fun z => r2 z.2)]
    have hrv : nI (rev m ((2 * b + 0) % 64)) = fm_rhythm c ↔ ((2 * b + 0) % 64) % 2 ^ m = b0 := by
      have hv1 := rev_lt m ((2 * b + 0) % 64)
      have hv2 := rev_lt m b0
      have hpw : 2 ^ m ≤ 64 := Nat.pow_le_pow_right (n := 2) (by decide) hm
      rw [eMR, nI_eq (by omega) (by omega), rev_iff, Nat.mod_eq_of_lt hb0]
    by_cases r1 : m ≤ n
    · have r1' : nI m ≤ nI (min n m) := (s_le (by omega) (by omega)).mpr (by omega)
      have en : min (min 6 (n + 1)) m = m := by omega
      by_cases r2 : ((2 * b + 0) % 64) % 2 ^ m = b0
      · have hw := img (upd (upd (upd (upd (upd fm_w (0 + 15 + c) (nI (rev m ((2 * b + 0) % 64)))) (0 + 20 + c) (nI m)) (0 + 10 + c) 0) (0 + 15 + c) 0) (0 + 20 + c) 0) (fun j hj => by rw [upd_ne (by omega), upd_ne (by omega), upd_ne (by omega), upd_ne (by omega), upd_ne (by omega)])
        refine ⟨1, upd fx_now_stick c 0, upd (upd fx_now_kicks c (nI ((2 * b + 0) % 64))) c 0, upd (upd fx_now_kickCount c (nI (min 6 (n + 1)))) c 0, upd (upd (upd (upd (upd fm_w (0 + 15 + c) (nI (rev m ((2 * b + 0) % 64)))) (0 + 20 + c) (nI m)) (0 + 10 + c) 0) (0 + 15 + c) 0) (0 + 20 + c) 0, ?_, ?_, ⟨K, C, S, cu, cg, mu, mg, hT, hPl0, RSt.kickU hNow hK5 hC5 hc (fun z hz => ⟨upd_ne hz, (upd_ne hz).trans (upd_ne hz), (upd_ne hz).trans (upd_ne hz)⟩) (fun z z1 z2 z3 => by rw [upd_ne z3, upd_ne z2, upd_ne z1, upd_ne z3, upd_ne z2]) ⟨by rw [upd_ne (by omega), upd_ne (by omega), upd_at, upd_at], by rw [upd_at]; exact ⟨0, by omega, by omega, rfl⟩⟩ ⟨m, 0, 0, e1, hm, by omega, by omega, upd_at _ _ _, upd_at _ _ _, by rw [upd_at, Nat.zero_min]; rfl, by rw [upd_ne (by omega), upd_at, rev_0]; rfl, fun _ => ⟨rfl, rfl⟩⟩, hw.1, hw.2, hB, hTr, hF⟩⟩
        · unfold fX7_kick
          rw [a1, bd_s, if_neg (show ¬ (1 : Int32) = 0 by decide), if_pos (show (0 : Int32) = 0 from rfl), hjam, bd_s, if_neg (show ¬ (1 : Int32) = 0 by decide), hadd, bd_s]
          dsimp only
          rw [q5, hcl, upd_at, upd_at, hrhyt, bd_s]
          rw [if_pos (show m ≤ (min 6 (n + 1)) ∧ ((2 * b + 0) % 64) % 2 ^ m = b0 from ⟨by omega, r2⟩), if_neg (show ¬ (1 : Int32) = 0 by decide)]
          unfold fX4_setFree
          rw [q5', hcl]
          rfl
        · unfold fX8_kick
          rw [a2, bd_s, if_neg (show ¬ (1 : Int32) = 0 by decide), hin, bd_s, if_neg (show ¬ (1 : Int32) = 0 by decide), m10, l10, e5, if_pos q', q10, lt_e, hcl, eML, m15, lt_e, l15, e15, show ((nI (rev m b) ||| ((0 : Int32) <<< (nI m &&& 31))) >>> ((1 : Int32) &&& 31)) = nI (rev m ((2 * b + 0) % 64)) from k_rev m (by omega) b hb 0 (by decide), m20, l20, upd_ne (show 0 + 20 + c ≠ 0 + 15 + c by omega), e20]
          rw [if_pos r1', upd_at, if_neg (fun z => absurd ((s_lt (by omega) (by omega)).mp z) (by omega)), upd_ne (show 0 + 15 + c ≠ 0 + 20 + c by omega), upd_at, if_pos (hrv.mpr r2)]
      · have hw := img (upd (upd fm_w (0 + 15 + c) (nI (rev m ((2 * b + 0) % 64)))) (0 + 20 + c) (nI m)) (fun j hj => by rw [upd_ne (by omega), upd_ne (by omega)])
        refine ⟨0, fx_now_stick, upd fx_now_kicks c (nI ((2 * b + 0) % 64)), upd fx_now_kickCount c (nI (min 6 (n + 1))), upd (upd fm_w (0 + 15 + c) (nI (rev m ((2 * b + 0) % 64)))) (0 + 20 + c) (nI m), ?_, ?_, ⟨K, C, S, cu, cg, mu, mg, hT, hPl0, RSt.kickU hNow hK5 hC5 hc (fun z hz => ⟨rfl, upd_ne hz, upd_ne hz⟩) (fun z z1 z2 z3 => by rw [upd_ne z3, upd_ne z2]) ⟨by rw [upd_ne (by omega), upd_ne (by omega)]; exact e5, hs5⟩ ⟨m, (min 6 (n + 1)), ((2 * b + 0) % 64), e1, hm, by omega, by omega, upd_at _ _ _, upd_at _ _ _, by rw [upd_at, en], by rw [upd_ne (by omega), upd_at], fun z => absurd z q⟩, hw.1, hw.2, hB, hTr, hF⟩⟩
        · unfold fX7_kick
          rw [a1, bd_s, if_neg (show ¬ (1 : Int32) = 0 by decide), if_pos (show (0 : Int32) = 0 from rfl), hjam, bd_s, if_neg (show ¬ (1 : Int32) = 0 by decide), hadd, bd_s]
          dsimp only
          rw [q5, hcl, upd_at, upd_at, hrhyt, bd_s]
          rw [if_neg (show ¬ (m ≤ (min 6 (n + 1)) ∧ ((2 * b + 0) % 64) % 2 ^ m = b0) from fun z => r2 z.2), if_pos rfl]
        · unfold fX8_kick
          rw [a2, bd_s, if_neg (show ¬ (1 : Int32) = 0 by decide), hin, bd_s, if_neg (show ¬ (1 : Int32) = 0 by decide), m10, l10, e5, if_pos q', q10, lt_e, hcl, eML, m15, lt_e, l15, e15, show ((nI (rev m b) ||| ((0 : Int32) <<< (nI m &&& 31))) >>> ((1 : Int32) &&& 31)) = nI (rev m ((2 * b + 0) % 64)) from k_rev m (by omega) b hb 0 (by decide), m20, l20, upd_ne (show 0 + 20 + c ≠ 0 + 15 + c by omega), e20]
          rw [if_pos r1', upd_at, if_neg (fun z => absurd ((s_lt (by omega) (by omega)).mp z) (by omega)), upd_ne (show 0 + 15 + c ≠ 0 + 20 + c by omega), upd_at, if_neg (fun z => r2 (hrv.mp z))]
    · have r1' : ¬ nI m ≤ nI (min n m) := fun z => by have := (s_le (by omega) (by omega)).mp z; omega
      have en : min (min 6 (n + 1)) m = n + 1 := by omega
      have en2 : nI (min n m) + 1 = nI (n + 1) := by rw [nI_1, show min n m = n by omega]
      by_cases r3 : n + 1 < m
      · have hw := img (upd (upd fm_w (0 + 15 + c) (nI (rev m ((2 * b + 0) % 64)))) (0 + 20 + c) (nI (n + 1))) (fun j hj => by rw [upd_ne (by omega), upd_ne (by omega)])
        refine ⟨0, fx_now_stick, upd fx_now_kicks c (nI ((2 * b + 0) % 64)), upd fx_now_kickCount c (nI (min 6 (n + 1))), upd (upd fm_w (0 + 15 + c) (nI (rev m ((2 * b + 0) % 64)))) (0 + 20 + c) (nI (n + 1)), ?_, ?_, ⟨K, C, S, cu, cg, mu, mg, hT, hPl0, RSt.kickU hNow hK5 hC5 hc (fun z hz => ⟨rfl, upd_ne hz, upd_ne hz⟩) (fun z z1 z2 z3 => by rw [upd_ne z3, upd_ne z2]) ⟨by rw [upd_ne (by omega), upd_ne (by omega)]; exact e5, hs5⟩ ⟨m, (min 6 (n + 1)), ((2 * b + 0) % 64), e1, hm, by omega, by omega, upd_at _ _ _, upd_at _ _ _, by rw [upd_at, en], by rw [upd_ne (by omega), upd_at], fun z => absurd z q⟩, hw.1, hw.2, hB, hTr, hF⟩⟩
        · unfold fX7_kick
          rw [a1, bd_s, if_neg (show ¬ (1 : Int32) = 0 by decide), if_pos (show (0 : Int32) = 0 from rfl), hjam, bd_s, if_neg (show ¬ (1 : Int32) = 0 by decide), hadd, bd_s]
          dsimp only
          rw [q5, hcl, upd_at, upd_at, hrhyt, bd_s]
          rw [if_neg (show ¬ (m ≤ (min 6 (n + 1)) ∧ ((2 * b + 0) % 64) % 2 ^ m = b0) from fun z => by omega), if_pos rfl]
        · unfold fX8_kick
          rw [a2, bd_s, if_neg (show ¬ (1 : Int32) = 0 by decide), hin, bd_s, if_neg (show ¬ (1 : Int32) = 0 by decide), m10, l10, e5, if_pos q', q10, lt_e, hcl, eML, m15, lt_e, l15, e15, show ((nI (rev m b) ||| ((0 : Int32) <<< (nI m &&& 31))) >>> ((1 : Int32) &&& 31)) = nI (rev m ((2 * b + 0) % 64)) from k_rev m (by omega) b hb 0 (by decide), m20, l20, upd_ne (show 0 + 20 + c ≠ 0 + 15 + c by omega), e20]
          rw [if_neg r1', lt_e, en2, upd_at, if_pos ((s_lt (by omega) (by omega)).mpr r3)]
      · have r3' : ¬ nI (n + 1) < nI m := fun z => r3 ((s_lt (by omega) (by omega)).mp z)
        by_cases r2 : ((2 * b + 0) % 64) % 2 ^ m = b0
        · have hw := img (upd (upd (upd (upd (upd fm_w (0 + 15 + c) (nI (rev m ((2 * b + 0) % 64)))) (0 + 20 + c) (nI (n + 1))) (0 + 10 + c) 0) (0 + 15 + c) 0) (0 + 20 + c) 0) (fun j hj => by rw [upd_ne (by omega), upd_ne (by omega), upd_ne (by omega), upd_ne (by omega), upd_ne (by omega)])
          refine ⟨1, upd fx_now_stick c 0, upd (upd fx_now_kicks c (nI ((2 * b + 0) % 64))) c 0, upd (upd fx_now_kickCount c (nI (min 6 (n + 1)))) c 0, upd (upd (upd (upd (upd fm_w (0 + 15 + c) (nI (rev m ((2 * b + 0) % 64)))) (0 + 20 + c) (nI (n + 1))) (0 + 10 + c) 0) (0 + 15 + c) 0) (0 + 20 + c) 0, ?_, ?_, ⟨K, C, S, cu, cg, mu, mg, hT, hPl0, RSt.kickU hNow hK5 hC5 hc (fun z hz => ⟨upd_ne hz, (upd_ne hz).trans (upd_ne hz), (upd_ne hz).trans (upd_ne hz)⟩) (fun z z1 z2 z3 => by rw [upd_ne z3, upd_ne z2, upd_ne z1, upd_ne z3, upd_ne z2]) ⟨by rw [upd_ne (by omega), upd_ne (by omega), upd_at, upd_at], by rw [upd_at]; exact ⟨0, by omega, by omega, rfl⟩⟩ ⟨m, 0, 0, e1, hm, by omega, by omega, upd_at _ _ _, upd_at _ _ _, by rw [upd_at, Nat.zero_min]; rfl, by rw [upd_ne (by omega), upd_at, rev_0]; rfl, fun _ => ⟨rfl, rfl⟩⟩, hw.1, hw.2, hB, hTr, hF⟩⟩
          · unfold fX7_kick
            rw [a1, bd_s, if_neg (show ¬ (1 : Int32) = 0 by decide), if_pos (show (0 : Int32) = 0 from rfl), hjam, bd_s, if_neg (show ¬ (1 : Int32) = 0 by decide), hadd, bd_s]
            dsimp only
            rw [q5, hcl, upd_at, upd_at, hrhyt, bd_s]
            rw [if_pos (show m ≤ (min 6 (n + 1)) ∧ ((2 * b + 0) % 64) % 2 ^ m = b0 from ⟨by omega, r2⟩), if_neg (show ¬ (1 : Int32) = 0 by decide)]
            unfold fX4_setFree
            rw [q5', hcl]
            rfl
          · unfold fX8_kick
            rw [a2, bd_s, if_neg (show ¬ (1 : Int32) = 0 by decide), hin, bd_s, if_neg (show ¬ (1 : Int32) = 0 by decide), m10, l10, e5, if_pos q', q10, lt_e, hcl, eML, m15, lt_e, l15, e15, show ((nI (rev m b) ||| ((0 : Int32) <<< (nI m &&& 31))) >>> ((1 : Int32) &&& 31)) = nI (rev m ((2 * b + 0) % 64)) from k_rev m (by omega) b hb 0 (by decide), m20, l20, upd_ne (show 0 + 20 + c ≠ 0 + 15 + c by omega), e20]
            rw [if_neg r1', lt_e, en2, upd_at, if_neg r3', upd_ne (show 0 + 15 + c ≠ 0 + 20 + c by omega), upd_at, if_pos (hrv.mpr r2)]
        · have hw := img (upd (upd fm_w (0 + 15 + c) (nI (rev m ((2 * b + 0) % 64)))) (0 + 20 + c) (nI (n + 1))) (fun j hj => by rw [upd_ne (by omega), upd_ne (by omega)])
          refine ⟨0, fx_now_stick, upd fx_now_kicks c (nI ((2 * b + 0) % 64)), upd fx_now_kickCount c (nI (min 6 (n + 1))), upd (upd fm_w (0 + 15 + c) (nI (rev m ((2 * b + 0) % 64)))) (0 + 20 + c) (nI (n + 1)), ?_, ?_, ⟨K, C, S, cu, cg, mu, mg, hT, hPl0, RSt.kickU hNow hK5 hC5 hc (fun z hz => ⟨rfl, upd_ne hz, upd_ne hz⟩) (fun z z1 z2 z3 => by rw [upd_ne z3, upd_ne z2]) ⟨by rw [upd_ne (by omega), upd_ne (by omega)]; exact e5, hs5⟩ ⟨m, (min 6 (n + 1)), ((2 * b + 0) % 64), e1, hm, by omega, by omega, upd_at _ _ _, upd_at _ _ _, by rw [upd_at, en], by rw [upd_ne (by omega), upd_at], fun z => absurd z q⟩, hw.1, hw.2, hB, hTr, hF⟩⟩
          · unfold fX7_kick
            rw [a1, bd_s, if_neg (show ¬ (1 : Int32) = 0 by decide), if_pos (show (0 : Int32) = 0 from rfl), hjam, bd_s, if_neg (show ¬ (1 : Int32) = 0 by decide), hadd, bd_s]
            dsimp only
            rw [q5, hcl, upd_at, upd_at, hrhyt, bd_s]
            rw [if_neg (show ¬ (m ≤ (min 6 (n + 1)) ∧ ((2 * b + 0) % 64) % 2 ^ m = b0) from fun z => r2 z.2), if_pos rfl]
          · unfold fX8_kick
            rw [a2, bd_s, if_neg (show ¬ (1 : Int32) = 0 by decide), hin, bd_s, if_neg (show ¬ (1 : Int32) = 0 by decide), m10, l10, e5, if_pos q', q10, lt_e, hcl, eML, m15, lt_e, l15, e15, show ((nI (rev m b) ||| ((0 : Int32) <<< (nI m &&& 31))) >>> ((1 : Int32) &&& 31)) = nI (rev m ((2 * b + 0) % 64)) from k_rev m (by omega) b hb 0 (by decide), m20, l20, upd_ne (show 0 + 20 + c ≠ 0 + 15 + c by omega), e20]
            rw [if_neg r1', lt_e, en2, upd_at, if_neg r3', upd_ne (show 0 + 15 + c ≠ 0 + 20 + c by omega), upd_at, if_neg (fun z => r2 (hrv.mp z))]
  · have q' : ¬ 10 ≤ fx_now_stick c := by rw [lt32] at q; rw [le32]; omega
    have hjam : fX4_isJammed N fx_now_stick (nI c) = some 0 := by rw [hj0, if_pos q]
    have hin : fX8_in N (Int32.toInt64 1) 0 1 = some 1 := by rw [p_in]; rfl
    refine ⟨(-1000000003), fx_now_stick, fx_now_kicks, fx_now_kickCount, fm_w, ?_, ?_, ⟨K, C, S, cu, cg, mu, mg, hT, hPl0, hNow, hk0, hk1, hB, hTr, hF⟩⟩
    · unfold fX7_kick
      rw [a1, bd_s, if_neg (show ¬ (1 : Int32) = 0 by decide), if_neg (show ¬ (1 : Int32) = 0 by decide), if_pos (show (1 : Int32) = 1 from rfl), hjam, bd_s, if_pos rfl]
    · unfold fX8_kick
      rw [a2, bd_s, if_neg (show ¬ (1 : Int32) = 0 by decide), hin, bd_s, if_neg (show ¬ (1 : Int32) = 0 by decide), m10, l10, e5, if_neg q']
  · have q' : 10 ≤ fx_now_stick c := by rw [lt32] at q; rw [le32]; omega
    have hjam : fX4_isJammed N fx_now_stick (nI c) = some 1 := by rw [hj0, if_neg q]
    have hin : fX8_in N (Int32.toInt64 1) 0 1 = some 1 := by rw [p_in]; rfl
    have hadd : fX4_addKick N fx_now_kicks fx_now_kickCount (nI c) 1 = some (upd fx_now_kicks c (nI ((2 * b + 1) % 64)), upd fx_now_kickCount c (nI (min 6 (n + 1)))) := by
      unfold fX4_addKick
      rw [ck_nI (by omega) (by decide), hcl, e4k, e4n, lt_e, lt_e, show ((nI b <<< ((1 : Int32) &&& 31)) ||| 1) &&& 63 = nI ((2 * b + 1) % 64) from k_add b hb 1 (by decide), nI_1]
      by_cases q6 : n + 1 < 6
      · rw [if_pos (show nI (n + 1) < 6 from (s_lt (b := 6) (by omega) (by decide)).mpr q6), Nat.min_eq_right (show n + 1 ≤ 6 by omega)]
      · rw [if_neg (show ¬ nI (n + 1) < 6 from fun z => q6 ((s_lt (b := 6) (by omega) (by decide)).mp z)), Nat.min_eq_left (show 6 ≤ n + 1 by omega)]
        rfl
    have hb' : ((2 * b + 1) % 64) < 64 := Nat.mod_lt _ (by decide)
    have hrhyt : fX1_isRhythm N fx_plan_rhythmLength fx_plan_rhythm (nI c) (nI ((2 * b + 1) % 64)) (nI (min 6 (n + 1))) = some (if m ≤ (min 6 (n + 1)) ∧ ((2 * b + 1) % 64) % 2 ^ m = b0 then 1 else 0) := by
      unfold fX1_isRhythm
      rw [ck_nI (by omega) (by decide), hcl, e1, lt_e, k_mask m (by omega) _ hb', eR]
      have hmod : ((2 * b + 1) % 64) % 2 ^ m < 2 ^ m := Nat.mod_lt _ (Nat.pow_pos (by decide))
      have hpw : 2 ^ m ≤ 64 := Nat.pow_le_pow_right (n := 2) (by decide) hm
      by_cases r1 : (min 6 (n + 1)) < m
      · rw [if_pos ((s_lt (by omega) (by omega)).mpr r1), if_neg (fun z => by omega)]
      · rw [if_neg (fun z => r1 ((s_lt (by omega) (by omega)).mp z))]
        by_cases r2 : ((2 * b + 1) % 64) % 2 ^ m = b0
        · rw [if_pos (by rw [r2]), if_pos ⟨by omega, r2⟩]
        · rw [if_neg (fun z => r2 ((nI_eq (by omega) (by omega)).mp z)), if_neg (fun z => r2 z.2)]
    have hrv : nI (rev m ((2 * b + 1) % 64)) = fm_rhythm c ↔ ((2 * b + 1) % 64) % 2 ^ m = b0 := by
      have hv1 := rev_lt m ((2 * b + 1) % 64)
      have hv2 := rev_lt m b0
      have hpw : 2 ^ m ≤ 64 := Nat.pow_le_pow_right (n := 2) (by decide) hm
      rw [eMR, nI_eq (by omega) (by omega), rev_iff, Nat.mod_eq_of_lt hb0]
    by_cases r1 : m ≤ n
    · have r1' : nI m ≤ nI (min n m) := (s_le (by omega) (by omega)).mpr (by omega)
      have en : min (min 6 (n + 1)) m = m := by omega
      by_cases r2 : ((2 * b + 1) % 64) % 2 ^ m = b0
      · have hw := img (upd (upd (upd (upd (upd fm_w (0 + 15 + c) (nI (rev m ((2 * b + 1) % 64)))) (0 + 20 + c) (nI m)) (0 + 10 + c) 0) (0 + 15 + c) 0) (0 + 20 + c) 0) (fun j hj => by rw [upd_ne (by omega), upd_ne (by omega), upd_ne (by omega), upd_ne (by omega), upd_ne (by omega)])
        refine ⟨1, upd fx_now_stick c 0, upd (upd fx_now_kicks c (nI ((2 * b + 1) % 64))) c 0, upd (upd fx_now_kickCount c (nI (min 6 (n + 1)))) c 0, upd (upd (upd (upd (upd fm_w (0 + 15 + c) (nI (rev m ((2 * b + 1) % 64)))) (0 + 20 + c) (nI m)) (0 + 10 + c) 0) (0 + 15 + c) 0) (0 + 20 + c) 0, ?_, ?_, ⟨K, C, S, cu, cg, mu, mg, hT, hPl0, RSt.kickU hNow hK5 hC5 hc (fun z hz => ⟨upd_ne hz, (upd_ne hz).trans (upd_ne hz), (upd_ne hz).trans (upd_ne hz)⟩) (fun z z1 z2 z3 => by rw [upd_ne z3, upd_ne z2, upd_ne z1, upd_ne z3, upd_ne z2]) ⟨by rw [upd_ne (by omega), upd_ne (by omega), upd_at, upd_at], by rw [upd_at]; exact ⟨0, by omega, by omega, rfl⟩⟩ ⟨m, 0, 0, e1, hm, by omega, by omega, upd_at _ _ _, upd_at _ _ _, by rw [upd_at, Nat.zero_min]; rfl, by rw [upd_ne (by omega), upd_at, rev_0]; rfl, fun _ => ⟨rfl, rfl⟩⟩, hw.1, hw.2, hB, hTr, hF⟩⟩
        · unfold fX7_kick
          rw [a1, bd_s, if_neg (show ¬ (1 : Int32) = 0 by decide), if_neg (show ¬ (1 : Int32) = 0 by decide), if_pos (show (1 : Int32) = 1 from rfl), hjam, bd_s, if_neg (show ¬ (1 : Int32) = 0 by decide), hadd, bd_s]
          dsimp only
          rw [q5, hcl, upd_at, upd_at, hrhyt, bd_s]
          rw [if_pos (show m ≤ (min 6 (n + 1)) ∧ ((2 * b + 1) % 64) % 2 ^ m = b0 from ⟨by omega, r2⟩), if_neg (show ¬ (1 : Int32) = 0 by decide)]
          unfold fX4_setFree
          rw [q5', hcl]
          rfl
        · unfold fX8_kick
          rw [a2, bd_s, if_neg (show ¬ (1 : Int32) = 0 by decide), hin, bd_s, if_neg (show ¬ (1 : Int32) = 0 by decide), m10, l10, e5, if_pos q', q10, lt_e, hcl, eML, m15, lt_e, l15, e15, show ((nI (rev m b) ||| ((1 : Int32) <<< (nI m &&& 31))) >>> ((1 : Int32) &&& 31)) = nI (rev m ((2 * b + 1) % 64)) from k_rev m (by omega) b hb 1 (by decide), m20, l20, upd_ne (show 0 + 20 + c ≠ 0 + 15 + c by omega), e20]
          rw [if_pos r1', upd_at, if_neg (fun z => absurd ((s_lt (by omega) (by omega)).mp z) (by omega)), upd_ne (show 0 + 15 + c ≠ 0 + 20 + c by omega), upd_at, if_pos (hrv.mpr r2)]
      · have hw := img (upd (upd fm_w (0 + 15 + c) (nI (rev m ((2 * b + 1) % 64)))) (0 + 20 + c) (nI m)) (fun j hj => by rw [upd_ne (by omega), upd_ne (by omega)])
        refine ⟨0, fx_now_stick, upd fx_now_kicks c (nI ((2 * b + 1) % 64)), upd fx_now_kickCount c (nI (min 6 (n + 1))), upd (upd fm_w (0 + 15 + c) (nI (rev m ((2 * b + 1) % 64)))) (0 + 20 + c) (nI m), ?_, ?_, ⟨K, C, S, cu, cg, mu, mg, hT, hPl0, RSt.kickU hNow hK5 hC5 hc (fun z hz => ⟨rfl, upd_ne hz, upd_ne hz⟩) (fun z z1 z2 z3 => by rw [upd_ne z3, upd_ne z2]) ⟨by rw [upd_ne (by omega), upd_ne (by omega)]; exact e5, hs5⟩ ⟨m, (min 6 (n + 1)), ((2 * b + 1) % 64), e1, hm, by omega, by omega, upd_at _ _ _, upd_at _ _ _, by rw [upd_at, en], by rw [upd_ne (by omega), upd_at], fun z => absurd z q⟩, hw.1, hw.2, hB, hTr, hF⟩⟩
        · unfold fX7_kick
          rw [a1, bd_s, if_neg (show ¬ (1 : Int32) = 0 by decide), if_neg (show ¬ (1 : Int32) = 0 by decide), if_pos (show (1 : Int32) = 1 from rfl), hjam, bd_s, if_neg (show ¬ (1 : Int32) = 0 by decide), hadd, bd_s]
          dsimp only
          rw [q5, hcl, upd_at, upd_at, hrhyt, bd_s]
          rw [if_neg (show ¬ (m ≤ (min 6 (n + 1)) ∧ ((2 * b + 1) % 64) % 2 ^ m = b0) from fun z => r2 z.2), if_pos rfl]
        · unfold fX8_kick
          rw [a2, bd_s, if_neg (show ¬ (1 : Int32) = 0 by decide), hin, bd_s, if_neg (show ¬ (1 : Int32) = 0 by decide), m10, l10, e5, if_pos q', q10, lt_e, hcl, eML, m15, lt_e, l15, e15, show ((nI (rev m b) ||| ((1 : Int32) <<< (nI m &&& 31))) >>> ((1 : Int32) &&& 31)) = nI (rev m ((2 * b + 1) % 64)) from k_rev m (by omega) b hb 1 (by decide), m20, l20, upd_ne (show 0 + 20 + c ≠ 0 + 15 + c by omega), e20]
          rw [if_pos r1', upd_at, if_neg (fun z => absurd ((s_lt (by omega) (by omega)).mp z) (by omega)), upd_ne (show 0 + 15 + c ≠ 0 + 20 + c by omega), upd_at, if_neg (fun z => r2 (hrv.mp z))]
    · have r1' : ¬ nI m ≤ nI (min n m) := fun z => by have := (s_le (by omega) (by omega)).mp z; omega
      have en : min (min 6 (n + 1)) m = n + 1 := by omega
      have en2 : nI (min n m) + 1 = nI (n + 1) := by rw [nI_1, show min n m = n by omega]
      by_cases r3 : n + 1 < m
      · have hw := img (upd (upd fm_w (0 + 15 + c) (nI (rev m ((2 * b + 1) % 64)))) (0 + 20 + c) (nI (n + 1))) (fun j hj => by rw [upd_ne (by omega), upd_ne (by omega)])
        refine ⟨0, fx_now_stick, upd fx_now_kicks c (nI ((2 * b + 1) % 64)), upd fx_now_kickCount c (nI (min 6 (n + 1))), upd (upd fm_w (0 + 15 + c) (nI (rev m ((2 * b + 1) % 64)))) (0 + 20 + c) (nI (n + 1)), ?_, ?_, ⟨K, C, S, cu, cg, mu, mg, hT, hPl0, RSt.kickU hNow hK5 hC5 hc (fun z hz => ⟨rfl, upd_ne hz, upd_ne hz⟩) (fun z z1 z2 z3 => by rw [upd_ne z3, upd_ne z2]) ⟨by rw [upd_ne (by omega), upd_ne (by omega)]; exact e5, hs5⟩ ⟨m, (min 6 (n + 1)), ((2 * b + 1) % 64), e1, hm, by omega, by omega, upd_at _ _ _, upd_at _ _ _, by rw [upd_at, en], by rw [upd_ne (by omega), upd_at], fun z => absurd z q⟩, hw.1, hw.2, hB, hTr, hF⟩⟩
        · unfold fX7_kick
          rw [a1, bd_s, if_neg (show ¬ (1 : Int32) = 0 by decide), if_neg (show ¬ (1 : Int32) = 0 by decide), if_pos (show (1 : Int32) = 1 from rfl), hjam, bd_s, if_neg (show ¬ (1 : Int32) = 0 by decide), hadd, bd_s]
          dsimp only
          rw [q5, hcl, upd_at, upd_at, hrhyt, bd_s]
          rw [if_neg (show ¬ (m ≤ (min 6 (n + 1)) ∧ ((2 * b + 1) % 64) % 2 ^ m = b0) from fun z => by omega), if_pos rfl]
        · unfold fX8_kick
          rw [a2, bd_s, if_neg (show ¬ (1 : Int32) = 0 by decide), hin, bd_s, if_neg (show ¬ (1 : Int32) = 0 by decide), m10, l10, e5, if_pos q', q10, lt_e, hcl, eML, m15, lt_e, l15, e15, show ((nI (rev m b) ||| ((1 : Int32) <<< (nI m &&& 31))) >>> ((1 : Int32) &&& 31)) = nI (rev m ((2 * b + 1) % 64)) from k_rev m (by omega) b hb 1 (by decide), m20, l20, upd_ne (show 0 + 20 + c ≠ 0 + 15 + c by omega), e20]
          rw [if_neg r1', lt_e, en2, upd_at, if_pos ((s_lt (by omega) (by omega)).mpr r3)]
      · have r3' : ¬ nI (n + 1) < nI m := fun z => r3 ((s_lt (by omega) (by omega)).mp z)
        by_cases r2 : ((2 * b + 1) % 64) % 2 ^ m = b0
        · have hw := img (upd (upd (upd (upd (upd fm_w (0 + 15 + c) (nI (rev m ((2 * b + 1) % 64)))) (0 + 20 + c) (nI (n + 1))) (0 + 10 + c) 0) (0 + 15 + c) 0) (0 + 20 + c) 0) (fun j hj => by rw [upd_ne (by omega), upd_ne (by omega), upd_ne (by omega), upd_ne (by omega), upd_ne (by omega)])
          refine ⟨1, upd fx_now_stick c 0, upd (upd fx_now_kicks c (nI ((2 * b + 1) % 64))) c 0, upd (upd fx_now_kickCount c (nI (min 6 (n + 1)))) c 0, upd (upd (upd (upd (upd fm_w (0 + 15 + c) (nI (rev m ((2 * b + 1) % 64)))) (0 + 20 + c) (nI (n + 1))) (0 + 10 + c) 0) (0 + 15 + c) 0) (0 + 20 + c) 0, ?_, ?_, ⟨K, C, S, cu, cg, mu, mg, hT, hPl0, RSt.kickU hNow hK5 hC5 hc (fun z hz => ⟨upd_ne hz, (upd_ne hz).trans (upd_ne hz), (upd_ne hz).trans (upd_ne hz)⟩) (fun z z1 z2 z3 => by rw [upd_ne z3, upd_ne z2, upd_ne z1, upd_ne z3, upd_ne z2]) ⟨by rw [upd_ne (by omega), upd_ne (by omega), upd_at, upd_at], by rw [upd_at]; exact ⟨0, by omega, by omega, rfl⟩⟩ ⟨m, 0, 0, e1, hm, by omega, by omega, upd_at _ _ _, upd_at _ _ _, by rw [upd_at, Nat.zero_min]; rfl, by rw [upd_ne (by omega), upd_at, rev_0]; rfl, fun _ => ⟨rfl, rfl⟩⟩, hw.1, hw.2, hB, hTr, hF⟩⟩
          · unfold fX7_kick
            rw [a1, bd_s, if_neg (show ¬ (1 : Int32) = 0 by decide), if_neg (show ¬ (1 : Int32) = 0 by decide), if_pos (show (1 : Int32) = 1 from rfl), hjam, bd_s, if_neg (show ¬ (1 : Int32) = 0 by decide), hadd, bd_s]
            dsimp only
            rw [q5, hcl, upd_at, upd_at, hrhyt, bd_s]
            rw [if_pos (show m ≤ (min 6 (n + 1)) ∧ ((2 * b + 1) % 64) % 2 ^ m = b0 from ⟨by omega, r2⟩), if_neg (show ¬ (1 : Int32) = 0 by decide)]
            unfold fX4_setFree
            rw [q5', hcl]
            rfl
          · unfold fX8_kick
            rw [a2, bd_s, if_neg (show ¬ (1 : Int32) = 0 by decide), hin, bd_s, if_neg (show ¬ (1 : Int32) = 0 by decide), m10, l10, e5, if_pos q', q10, lt_e, hcl, eML, m15, lt_e, l15, e15, show ((nI (rev m b) ||| ((1 : Int32) <<< (nI m &&& 31))) >>> ((1 : Int32) &&& 31)) = nI (rev m ((2 * b + 1) % 64)) from k_rev m (by omega) b hb 1 (by decide), m20, l20, upd_ne (show 0 + 20 + c ≠ 0 + 15 + c by omega), e20]
            rw [if_neg r1', lt_e, en2, upd_at, if_neg r3', upd_ne (show 0 + 15 + c ≠ 0 + 20 + c by omega), upd_at, if_pos (hrv.mpr r2)]
        · have hw := img (upd (upd fm_w (0 + 15 + c) (nI (rev m ((2 * b + 1) % 64)))) (0 + 20 + c) (nI (n + 1))) (fun j hj => by rw [upd_ne (by omega), upd_ne (by omega)])
          refine ⟨0, fx_now_stick, upd fx_now_kicks c (nI ((2 * b + 1) % 64)), upd fx_now_kickCount c (nI (min 6 (n + 1))), upd (upd fm_w (0 + 15 + c) (nI (rev m ((2 * b + 1) % 64)))) (0 + 20 + c) (nI (n + 1)), ?_, ?_, ⟨K, C, S, cu, cg, mu, mg, hT, hPl0, RSt.kickU hNow hK5 hC5 hc (fun z hz => ⟨rfl, upd_ne hz, upd_ne hz⟩) (fun z z1 z2 z3 => by rw [upd_ne z3, upd_ne z2]) ⟨by rw [upd_ne (by omega), upd_ne (by omega)]; exact e5, hs5⟩ ⟨m, (min 6 (n + 1)), ((2 * b + 1) % 64), e1, hm, by omega, by omega, upd_at _ _ _, upd_at _ _ _, by rw [upd_at, en], by rw [upd_ne (by omega), upd_at], fun z => absurd z q⟩, hw.1, hw.2, hB, hTr, hF⟩⟩
          · unfold fX7_kick
            rw [a1, bd_s, if_neg (show ¬ (1 : Int32) = 0 by decide), if_neg (show ¬ (1 : Int32) = 0 by decide), if_pos (show (1 : Int32) = 1 from rfl), hjam, bd_s, if_neg (show ¬ (1 : Int32) = 0 by decide), hadd, bd_s]
            dsimp only
            rw [q5, hcl, upd_at, upd_at, hrhyt, bd_s]
            rw [if_neg (show ¬ (m ≤ (min 6 (n + 1)) ∧ ((2 * b + 1) % 64) % 2 ^ m = b0) from fun z => r2 z.2), if_pos rfl]
          · unfold fX8_kick
            rw [a2, bd_s, if_neg (show ¬ (1 : Int32) = 0 by decide), hin, bd_s, if_neg (show ¬ (1 : Int32) = 0 by decide), m10, l10, e5, if_pos q', q10, lt_e, hcl, eML, m15, lt_e, l15, e15, show ((nI (rev m b) ||| ((1 : Int32) <<< (nI m &&& 31))) >>> ((1 : Int32) &&& 31)) = nI (rev m ((2 * b + 1) % 64)) from k_rev m (by omega) b hb 1 (by decide), m20, l20, upd_ne (show 0 + 20 + c ≠ 0 + 15 + c by omega), e20]
            rw [if_neg r1', lt_e, en2, upd_at, if_neg r3', upd_ne (show 0 + 15 + c ≠ 0 + 20 + c by omega), upd_at, if_neg (fun z => r2 (hrv.mp z))]

