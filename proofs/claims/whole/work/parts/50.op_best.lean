set_option maxHeartbeats 4000000 in
set_option maxRecDepth 100000 in
theorem op_best : ∀ (ix_faultAt : Int32) (ix_text_length : Int32) (fx_text_bytes : Nat → Int32) (ix_reader_at : Int32) (ix_reader_tokenAt : Int32) (ix_reader_fault : Int32) (ix_reader_faultAt : Int32) (ix_reader_plan_kinds : Int32) (ix_reader_plan_columns : Int32) (ix_reader_plan_slugs : Int32) (fx_reader_plan_value : Nat → Int32) (fx_reader_plan_weight : Nat → Int32) (fx_reader_plan_slugWeight : Nat → Int32) (fx_reader_plan_rhythm : Nat → Int32) (fx_reader_plan_rhythmLength : Nat → Int32) (fx_reader_plan_paidBy : Nat → Int32) (ix_reader_start_lost : Int32) (ix_reader_start_stamps : Int32) (ix_reader_start_sales : Int32) (ix_reader_start_damp : Int32) (ix_reader_start_worn : Int32) (ix_reader_start_seed : Int32) (fx_reader_start_tube : Nat → Int32) (fx_reader_start_goods : Nat → Int32) (fx_reader_start_stick : Nat → Int32) (fx_reader_start_kicks : Nat → Int32) (fx_reader_start_kickCount : Nat → Int32) (fx_reader_start_low : Nat → Int32) (fx_reader_start_high : Nat → Int32) (fx_reader_start_price : Nat → Int32) (fx_reader_start_wired : Nat → Int32) (fx_kept : Nat → Int32) (ix_buyers_count : Int32) (fx_buyers_column : Nat → Int32) (fx_buyers_kind : Nat → Int32) (fx_buyers_coins : Nat → Int32) (ix_tries_count : Int32) (fx_tries_row : Nat → Int32) (fx_tries_length : Nat → Int32) (fx_tries_free : Nat → Int32) (ix_trial_lost : Int32) (ix_trial_stamps : Int32) (ix_trial_sales : Int32) (ix_trial_damp : Int32) (ix_trial_worn : Int32) (ix_trial_seed : Int32) (fx_trial_tube : Nat → Int32) (fx_trial_goods : Nat → Int32) (fx_trial_stick : Nat → Int32) (fx_trial_kicks : Nat → Int32) (fx_trial_kickCount : Nat → Int32) (fx_trial_low : Nat → Int32) (fx_trial_high : Nat → Int32) (fx_trial_price : Nat → Int32) (fx_trial_wired : Nat → Int32) (ix_row_width : Int32) (ix_row_total : Int32) (fx_row_coins : Nat → Int32) (ix_plan_kinds : Int32) (ix_plan_columns : Int32) (ix_plan_slugs : Int32) (fx_plan_value : Nat → Int32) (fx_plan_weight : Nat → Int32) (fx_plan_slugWeight : Nat → Int32) (fx_plan_rhythm : Nat → Int32) (fx_plan_rhythmLength : Nat → Int32) (fx_plan_paidBy : Nat → Int32) (ix_now_lost : Int32) (ix_now_stamps : Int32) (ix_now_sales : Int32) (ix_now_damp : Int32) (ix_now_worn : Int32) (ix_now_seed : Int32) (fx_now_tube : Nat → Int32) (fx_now_goods : Nat → Int32) (fx_now_stick : Nat → Int32) (fx_now_kicks : Nat → Int32) (fx_now_kickCount : Nat → Int32) (fx_now_low : Nat → Int32) (fx_now_high : Nat → Int32) (fx_now_price : Nat → Int32) (fx_now_wired : Nat → Int32) (ix_images_0_lost : Int32) (ix_images_0_stamps : Int32) (ix_images_0_sales : Int32) (ix_images_0_damp : Int32) (ix_images_0_worn : Int32) (ix_images_0_seed : Int32) (fx_images_0_tube : Nat → Int32) (fx_images_0_goods : Nat → Int32) (fx_images_0_stick : Nat → Int32) (fx_images_0_kicks : Nat → Int32) (fx_images_0_kickCount : Nat → Int32) (fx_images_0_low : Nat → Int32) (fx_images_0_high : Nat → Int32) (fx_images_0_price : Nat → Int32) (fx_images_0_wired : Nat → Int32) (ix_images_1_lost : Int32) (ix_images_1_stamps : Int32) (ix_images_1_sales : Int32) (ix_images_1_damp : Int32) (ix_images_1_worn : Int32) (ix_images_1_seed : Int32) (fx_images_1_tube : Nat → Int32) (fx_images_1_goods : Nat → Int32) (fx_images_1_stick : Nat → Int32) (fx_images_1_kicks : Nat → Int32) (fx_images_1_kickCount : Nat → Int32) (fx_images_1_low : Nat → Int32) (fx_images_1_high : Nat → Int32) (fx_images_1_price : Nat → Int32) (fx_images_1_wired : Nat → Int32) (im_kinds : Int32) (im_columns : Int32) (im_slugs : Int32) (im_newKinds : Int32) (im_newColumns : Int32) (im_newSlugs : Int32) (im_rhythmTold : Int32) (im_textSize : Int32) (im_at : Int32) (im_first : Int32) (im_length : Int32) (im_faultOf : Int32) (im_fault : Int32) (im_buyerMany : Int32) (im_tryMany : Int32) (fm_w : Nat → Int32) (fm_isKept : Nat → Int32) (fm_value : Nat → Int32) (fm_weight : Nat → Int32) (fm_newTube : Nat → Int32) (fm_newPrice : Nat → Int32) (fm_newLow : Nat → Int32) (fm_newHigh : Nat → Int32) (fm_newGoods : Nat → Int32) (fm_rhythm : Nat → Int32) (fm_rhythmLong : Nat → Int32) (fm_slug : Nat → Int32) (fm_text : Nat → Int32) (fm_of : Nat → Int32) (fm_buyerColumn : Nat → Int32) (fm_buyerKind : Nat → Int32) (fm_buyerCoins : Nat → Int32) (fm_tryRow : Nat → Int32) (fm_tryLong : Nat → Int32) (fm_tryFree : Nat → Int32), REL ix_faultAt ix_text_length fx_text_bytes ix_reader_at ix_reader_tokenAt ix_reader_fault ix_reader_faultAt ix_reader_plan_kinds ix_reader_plan_columns ix_reader_plan_slugs fx_reader_plan_value fx_reader_plan_weight fx_reader_plan_slugWeight fx_reader_plan_rhythm fx_reader_plan_rhythmLength fx_reader_plan_paidBy ix_reader_start_lost ix_reader_start_stamps ix_reader_start_sales ix_reader_start_damp ix_reader_start_worn ix_reader_start_seed fx_reader_start_tube fx_reader_start_goods fx_reader_start_stick fx_reader_start_kicks fx_reader_start_kickCount fx_reader_start_low fx_reader_start_high fx_reader_start_price fx_reader_start_wired fx_kept ix_buyers_count fx_buyers_column fx_buyers_kind fx_buyers_coins ix_tries_count fx_tries_row fx_tries_length fx_tries_free ix_trial_lost ix_trial_stamps ix_trial_sales ix_trial_damp ix_trial_worn ix_trial_seed fx_trial_tube fx_trial_goods fx_trial_stick fx_trial_kicks fx_trial_kickCount fx_trial_low fx_trial_high fx_trial_price fx_trial_wired ix_row_width ix_row_total fx_row_coins ix_plan_kinds ix_plan_columns ix_plan_slugs fx_plan_value fx_plan_weight fx_plan_slugWeight fx_plan_rhythm fx_plan_rhythmLength fx_plan_paidBy ix_now_lost ix_now_stamps ix_now_sales ix_now_damp ix_now_worn ix_now_seed fx_now_tube fx_now_goods fx_now_stick fx_now_kicks fx_now_kickCount fx_now_low fx_now_high fx_now_price fx_now_wired ix_images_0_lost ix_images_0_stamps ix_images_0_sales ix_images_0_damp ix_images_0_worn ix_images_0_seed fx_images_0_tube fx_images_0_goods fx_images_0_stick fx_images_0_kicks fx_images_0_kickCount fx_images_0_low fx_images_0_high fx_images_0_price fx_images_0_wired ix_images_1_lost ix_images_1_stamps ix_images_1_sales ix_images_1_damp ix_images_1_worn ix_images_1_seed fx_images_1_tube fx_images_1_goods fx_images_1_stick fx_images_1_kicks fx_images_1_kickCount fx_images_1_low fx_images_1_high fx_images_1_price fx_images_1_wired im_kinds im_columns im_slugs im_newKinds im_newColumns im_newSlugs im_rhythmTold im_textSize im_at im_first im_length im_faultOf im_fault im_buyerMany im_tryMany fm_w fm_isKept fm_value fm_weight fm_newTube fm_newPrice fm_newLow fm_newHigh fm_newGoods fm_rhythm fm_rhythmLong fm_slug fm_text fm_of fm_buyerColumn fm_buyerKind fm_buyerCoins fm_tryRow fm_tryLong fm_tryFree → ∀ (N : Nat), FU ≤ N → ∀ (x1 : Int32), ∃ (r : Int32) , fX7_best N ix_plan_kinds ix_plan_slugs fx_plan_slugWeight ix_now_worn fx_plan_weight x1 = some r ∧ fX8_best N im_kinds im_slugs fm_weight fm_w fm_slug x1 = some r ∧ REL ix_faultAt ix_text_length fx_text_bytes ix_reader_at ix_reader_tokenAt ix_reader_fault ix_reader_faultAt ix_reader_plan_kinds ix_reader_plan_columns ix_reader_plan_slugs fx_reader_plan_value fx_reader_plan_weight fx_reader_plan_slugWeight fx_reader_plan_rhythm fx_reader_plan_rhythmLength fx_reader_plan_paidBy ix_reader_start_lost ix_reader_start_stamps ix_reader_start_sales ix_reader_start_damp ix_reader_start_worn ix_reader_start_seed fx_reader_start_tube fx_reader_start_goods fx_reader_start_stick fx_reader_start_kicks fx_reader_start_kickCount fx_reader_start_low fx_reader_start_high fx_reader_start_price fx_reader_start_wired fx_kept ix_buyers_count fx_buyers_column fx_buyers_kind fx_buyers_coins ix_tries_count fx_tries_row fx_tries_length fx_tries_free ix_trial_lost ix_trial_stamps ix_trial_sales ix_trial_damp ix_trial_worn ix_trial_seed fx_trial_tube fx_trial_goods fx_trial_stick fx_trial_kicks fx_trial_kickCount fx_trial_low fx_trial_high fx_trial_price fx_trial_wired ix_row_width ix_row_total fx_row_coins ix_plan_kinds ix_plan_columns ix_plan_slugs fx_plan_value fx_plan_weight fx_plan_slugWeight fx_plan_rhythm fx_plan_rhythmLength fx_plan_paidBy ix_now_lost ix_now_stamps ix_now_sales ix_now_damp ix_now_worn ix_now_seed fx_now_tube fx_now_goods fx_now_stick fx_now_kicks fx_now_kickCount fx_now_low fx_now_high fx_now_price fx_now_wired ix_images_0_lost ix_images_0_stamps ix_images_0_sales ix_images_0_damp ix_images_0_worn ix_images_0_seed fx_images_0_tube fx_images_0_goods fx_images_0_stick fx_images_0_kicks fx_images_0_kickCount fx_images_0_low fx_images_0_high fx_images_0_price fx_images_0_wired ix_images_1_lost ix_images_1_stamps ix_images_1_sales ix_images_1_damp ix_images_1_worn ix_images_1_seed fx_images_1_tube fx_images_1_goods fx_images_1_stick fx_images_1_kicks fx_images_1_kickCount fx_images_1_low fx_images_1_high fx_images_1_price fx_images_1_wired im_kinds im_columns im_slugs im_newKinds im_newColumns im_newSlugs im_rhythmTold im_textSize im_at im_first im_length im_faultOf im_fault im_buyerMany im_tryMany fm_w fm_isKept fm_value fm_weight fm_newTube fm_newPrice fm_newLow fm_newHigh fm_newGoods fm_rhythm fm_rhythmLong fm_slug fm_text fm_of fm_buyerColumn fm_buyerKind fm_buyerCoins fm_tryRow fm_tryLong fm_tryFree := by
  intro ix_faultAt ix_text_length fx_text_bytes ix_reader_at ix_reader_tokenAt ix_reader_fault ix_reader_faultAt ix_reader_plan_kinds ix_reader_plan_columns ix_reader_plan_slugs fx_reader_plan_value fx_reader_plan_weight fx_reader_plan_slugWeight fx_reader_plan_rhythm fx_reader_plan_rhythmLength fx_reader_plan_paidBy ix_reader_start_lost ix_reader_start_stamps ix_reader_start_sales ix_reader_start_damp ix_reader_start_worn ix_reader_start_seed fx_reader_start_tube fx_reader_start_goods fx_reader_start_stick fx_reader_start_kicks fx_reader_start_kickCount fx_reader_start_low fx_reader_start_high fx_reader_start_price fx_reader_start_wired fx_kept ix_buyers_count fx_buyers_column fx_buyers_kind fx_buyers_coins ix_tries_count fx_tries_row fx_tries_length fx_tries_free ix_trial_lost ix_trial_stamps ix_trial_sales ix_trial_damp ix_trial_worn ix_trial_seed fx_trial_tube fx_trial_goods fx_trial_stick fx_trial_kicks fx_trial_kickCount fx_trial_low fx_trial_high fx_trial_price fx_trial_wired ix_row_width ix_row_total fx_row_coins ix_plan_kinds ix_plan_columns ix_plan_slugs fx_plan_value fx_plan_weight fx_plan_slugWeight fx_plan_rhythm fx_plan_rhythmLength fx_plan_paidBy ix_now_lost ix_now_stamps ix_now_sales ix_now_damp ix_now_worn ix_now_seed fx_now_tube fx_now_goods fx_now_stick fx_now_kicks fx_now_kickCount fx_now_low fx_now_high fx_now_price fx_now_wired ix_images_0_lost ix_images_0_stamps ix_images_0_sales ix_images_0_damp ix_images_0_worn ix_images_0_seed fx_images_0_tube fx_images_0_goods fx_images_0_stick fx_images_0_kicks fx_images_0_kickCount fx_images_0_low fx_images_0_high fx_images_0_price fx_images_0_wired ix_images_1_lost ix_images_1_stamps ix_images_1_sales ix_images_1_damp ix_images_1_worn ix_images_1_seed fx_images_1_tube fx_images_1_goods fx_images_1_stick fx_images_1_kicks fx_images_1_kickCount fx_images_1_low fx_images_1_high fx_images_1_price fx_images_1_wired im_kinds im_columns im_slugs im_newKinds im_newColumns im_newSlugs im_rhythmTold im_textSize im_at im_first im_length im_faultOf im_fault im_buyerMany im_tryMany fm_w fm_isKept fm_value fm_weight fm_newTube fm_newPrice fm_newLow fm_newHigh fm_newGoods fm_rhythm fm_rhythmLong fm_slug fm_text fm_of fm_buyerColumn fm_buyerKind fm_buyerCoins fm_tryRow fm_tryLong fm_tryFree hR N hN x1
  obtain ⟨K, C, S, cu, cg, mu, mg, hT, hPl, hNow, hk0, hk1, hB, hTr, hF⟩ := hR
  have hPl0 := hPl
  obtain ⟨⟨hK5, hC5, hS5⟩, ⟨rfl, rfl, rfl⟩, ⟨rfl, rfl, rfl⟩, hval, hslug, hrhy, hpay⟩ := hPl
  have hN9 : 200000 ≤ N := hN
  have hnum : NUM K S ix_now_worn fx_plan_weight fx_plan_slugWeight (fun k => (fx_plan_weight k - ix_now_worn).toNatClampNeg) (fun i => (fx_plan_slugWeight i).toNatClampNeg) := by
    obtain ⟨-, wn, -, hwn, ewn⟩ := hNow.2.2.2.2.2.2.2.2.2.2.2.2.2.1
    refine ⟨hK5, hS5, fun k hk => ?_, fun i hi => ?_⟩
    · obtain ⟨-, -, -, q, hq1, hq2, eq⟩ := hval k hk
      show fx_plan_weight k - ix_now_worn = nI (fx_plan_weight k - ix_now_worn).toNatClampNeg ∧ 1 ≤ (fx_plan_weight k - ix_now_worn).toNatClampNeg ∧ (fx_plan_weight k - ix_now_worn).toNatClampNeg ≤ 99
      rw [eq, ewn, s_sub (by omega), nI_clamp (by omega)]
      exact ⟨rfl, by omega, by omega⟩
    · obtain ⟨-, q, hq1, hq2, eq⟩ := hslug i hi
      show fx_plan_slugWeight i = nI (fx_plan_slugWeight i).toNatClampNeg ∧ 1 ≤ (fx_plan_slugWeight i).toNatClampNeg ∧ (fx_plan_slugWeight i).toNatClampNeg ≤ 99
      rw [eq, nI_clamp (by omega)]
      exact ⟨rfl, by omega, by omega⟩
  by_cases hv : 0 ≤ x1.toInt ∧ x1.toInt ≤ 2
  · have v1 : ¬ x1 < 0 := by rw [lt32]; show ¬ x1.toInt < 0; omega
    have v2 : x1 ≤ 2 := by rw [le32]; show x1.toInt ≤ 2; omega
    have v3 : (0 : Int64).toInt ≤ x1.toInt ∧ x1.toInt ≤ (2 : Int64).toInt := hv
    by_cases hk : K = 0
    · subst hk
      refine ⟨(-1), ?_, ?_, ⟨0, C, S, cu, cg, mu, mg, hT, hPl0, hNow, hk0, hk1, hB, hTr, hF⟩⟩
      · unfold fX7_best
        rw [if_neg v1, if_pos v2, if_pos (show nI 0 = 0 from rfl)]
      · unfold fX8_best
        obtain ⟨g, rfl⟩ : ∃ g, N = g + 1 := ⟨N - 1, by omega⟩
        rw [p_in, bd_s, wide, if_pos v3, if_neg (by decide), fX8_best_L25_s, if_neg (by decide), if_pos (show nI 0 ≤ 0 by decide), bd_s]
        dsimp only
        rw [ite_self, ite_self]
    · have hk' : ¬ nI K = 0 := nI_ne0 (by omega) (by omega)
      obtain ⟨r, e1, hr, c1, c2, c3⟩ := x_best N (by omega) hnum
      obtain ⟨r', y2, y3, y4, k1, k2, k3, k4, k5⟩ := m_L25 N (by omega) hNow (mslug := fm_slug) (fun k hk => (hval k hk).2.2.1) (fun i hi => (hslug i hi).1) hnum (by omega) x1 99 0 N 0 (-1) (-1) (-1) (by omega) (by omega) (.inl ⟨rfl, rfl, rfl, rfl⟩)
      have hle : r ≤ r' := by
        rcases c3 with c3 | ⟨a, b, ha, hab, hb, c3⟩
        · omega
        · have z := k3 (b - a) a (by omega) ha (by omega)
          rw [show a + (b - a) = b by omega] at z
          omega
      have hge : r' ≤ r := by
        rcases k4 with k4 | ⟨a, b, ha, hab, hb, k4⟩
        · omega
        · rw [k4]; exact dom hnum c1 c2 ha hab hb
      obtain rfl : r' = r := by omega
      have eM : fX8_best N (nI K) (nI S) fm_weight fm_w fm_slug x1 = (if x1 = 0 then some y2 else (if x1 = 1 then some y3 else some y4)) := by
        unfold fX8_best
        rw [p_in, bd_s, wide, if_pos v3, if_neg (show ¬ (1 : Int32) = 0 by decide), show fX8_best_L25 N N x1 (-1) (-1) (-1) 0 (nI K) (nI S) fm_weight fm_w fm_slug = _ from k1, bd_s]
      rcases k5 with ⟨rfl, rfl, rfl, h0⟩ | ⟨a0, b0, n0, rfl, rfl, rfl, g1, g2, g3, g4, g5, -⟩
      · refine ⟨(-1), ?_, ?_, ⟨K, C, S, cu, cg, mu, mg, hT, hPl0, hNow, hk0, hk1, hB, hTr, hF⟩⟩
        · unfold fX7_best
          rw [if_neg v1, if_pos v2, if_neg hk', e1, bd_s, if_pos (show enc r' = -1 from by rw [h0]; rfl)]
        · rw [eM, ite_self, ite_self]
      · have he : enc r' = nI r' := by unfold enc; rw [if_neg (by omega)]
        have hne : ¬ nI r' = -1 := by rw [eq32, nIt r' (by omega)]; show ¬ ((r' : Nat) : Int) = -1; omega
        have q1 : nI r' / 100 = nI (r' / 100) := s_div (b := 100) (by omega) (by decide)
        have q2 : nI (r' / 100) / 100 = nI (r' / 100 / 100) := s_div (b := 100) (by omega) (by decide)
        have q3 : nI (r' / 100) * 100 = nI (r' / 100 * 100) := s_mul _ 100
        have q4 : nI (r' / 100 / 100) * 100 = nI (r' / 100 / 100 * 100) := s_mul _ 100
        have d1 : (99 : Int32) - (nI r' - nI r' / 100 * 100) = nI a0 := by
          rw [q1, q3, s_sub (by omega), show (99 : Int32) - nI (r' - r' / 100 * 100) = nI (99 - (r' - r' / 100 * 100)) from s_sub (a := 99) (by omega)]
          congr 1
          omega
        have d2 : nI a0 + 99 - (nI r' / 100 - nI r' / 100 / 100 * 100) = nI b0 := by
          rw [q1, q2, q4, s_sub (by omega), show nI a0 + 99 = nI (a0 + 99) from nI_add a0 99, s_sub (by omega)]
          congr 1
          omega
        have d3 : nI r' / 10000 = nI n0 := by
          rw [show nI r' / 10000 = nI (r' / 10000) from s_div (b := 10000) (by omega) (by decide)]
          congr 1
          omega
        have eX : fX7_best N (nI K) (nI S) fx_plan_slugWeight ix_now_worn fx_plan_weight x1 = (if x1 = 0 then some (nI a0) else (if x1 = 1 then some (nI b0) else some (nI n0))) := by
          unfold fX7_best
          rw [if_neg v1, if_pos v2, if_neg hk', e1, bd_s, he, if_neg hne, lt_e, d1, lt_e, d2, lt_e, d3]
        obtain ⟨z, ez⟩ : ∃ z, (if x1 = 0 then some (nI a0) else (if x1 = 1 then some (nI b0) else some (nI n0))) = some z := ite_some ⟨_, rfl⟩ (ite_some ⟨_, rfl⟩ ⟨_, rfl⟩)
        exact ⟨z, eX.trans ez, eM.trans ez, K, C, S, cu, cg, mu, mg, hT, hPl0, hNow, hk0, hk1, hB, hTr, hF⟩
  · refine ⟨(-1000000002), ?_, ?_, ⟨K, C, S, cu, cg, mu, mg, hT, hPl0, hNow, hk0, hk1, hB, hTr, hF⟩⟩
    · unfold fX7_best
      by_cases h0 : x1 < 0
      · rw [if_pos h0]
      · rw [if_neg h0, if_neg (by rw [le32]; rw [lt32] at h0; show ¬ x1.toInt ≤ 2; have h0 : ¬ x1.toInt < 0 := h0; omega)]
    · unfold fX8_best
      rw [p_in, bd_s, wide, if_neg (show ¬ ((0 : Int64).toInt ≤ x1.toInt ∧ x1.toInt ≤ (2 : Int64).toInt) from hv)]
      rfl
