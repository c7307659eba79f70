theorem b_bit : ∀ T : Nat, T < 256 → ∀ k : Nat, k < 8 → ((((nI T >>> (nI k &&& 31)) &&& 1) = 1) ↔ (T.testBit k = true)) := by
  intro T hT k hk
  have h : ∀ T : Fin 256, ∀ k : Fin 8, (((nI T.val >>> (nI k.val &&& 31)) &&& 1) = 1) = (T.val.testBit k.val = true) := by decide +kernel
  have h2 := h ⟨T, hT⟩ ⟨k, hk⟩
  simp only [] at h2
  rw [h2]
set_option maxHeartbeats 4000000 in
theorem p_come (N : Nat) (hN : 100 ≤ N) {K C : Nat} {rlen cu cg mu mg kicks kcnt low high price wired : Nat → Int32} {damp worn seed : Int32} (hK : K ≤ 5) (hC : C ≤ 5) {value weight paid mvalue mweight : Nat → Int32} (hval : ∀ k, k < K → mvalue k = value k ∧ isN (value k) 1 99 ∧ mweight k = weight k ∧ isN (weight k) 10 99) (hpay : RPay K value paid) {n : Nat} (hn : n ≤ 8) {col kind coins mcol mkind mcoins : Nat → Int32} (hb : ∀ i, i < n → (mcol i = col i ∧ ∃ c : Nat, c < C ∧ col i = nI c) ∧ (mkind i = kind i ∧ ∃ k : Nat, k < K ∧ kind i = nI k) ∧ mcoins i = coins i ∧ isN (coins i) 1 99) {T : Nat} (hT : T < 256) : ∀ (d i f acc : Nat) (lost stamps sales : Int32) (stick goods tube w : Nat → Int32), i + d = n → d < f → acc ≤ 10000 * i → RSt K C rlen cu cg mu mg tube goods stick kicks kcnt low high price wired lost stamps sales damp worn seed w 60 → ∃ (lost' stamps' sales' : Int32) (stick' goods' tube' w' : Nat → Int32), RSt K C rlen cu cg mu mg tube' goods' stick' kicks kcnt low high price wired lost' stamps' sales' damp worn seed w' 60 ∧ (∀ j, (j < 60 ∨ 120 ≤ j) → w' j = w j) ∧ ((fX7_buyersServed_L2 N f (nI T) (nI i) (nI n) col kind coins (nI K) lost stamps sales damp worn value price wired stick weight low high goods tube paid = some (.inr (0, lost', stamps', sales', stick', goods', tube')) ∧ fX8_come_L4 N f (nI T) (nI acc) (nI i) (nI K) (nI n) mcol mkind mcoins w mweight mvalue = some (.inr ((-1), w'))) ∨ (∃ acc' : Nat, acc ≤ acc' ∧ acc' ≤ 80000 ∧ fX7_buyersServed_L2 N f (nI T) (nI i) (nI n) col kind coins (nI K) lost stamps sales damp worn value price wired stick weight low high goods tube paid = some (.inl (lost', stamps', sales', stick', goods', tube')) ∧ fX8_come_L4 N f (nI T) (nI acc) (nI i) (nI K) (nI n) mcol mkind mcoins w mweight mvalue = some (.inl (nI acc', w')))) := by
  intro d
  induction d with
  | zero =>
    intro i f acc lost stamps sales stick goods tube w hi hf ha hS
    obtain ⟨f, rfl⟩ : ∃ g, f = g + 1 := ⟨f - 1, by omega⟩
    refine ⟨lost, stamps, sales, stick, goods, tube, w, hS, fun _ _ => rfl, .inr ⟨acc, Nat.le_refl _, by omega, ?_, ?_⟩⟩
    · rw [fX7_buyersServed_L2_s, if_pos (nI_le (by omega) (by omega))]
    · rw [fX8_come_L4_s, if_pos (nI_le (by omega) (by omega))]
  | succ d ih =>
    intro i f acc lost stamps sales stick goods tube w hi hf ha hS
    obtain ⟨f, rfl⟩ : ∃ g, f = g + 1 := ⟨f - 1, by omega⟩
    rw [fX7_buyersServed_L2_s, fX8_come_L4_s, if_neg (nI_ge (by omega) (by omega)), if_neg (nI_ge (by omega) (by omega)), b_has N T hT i (by omega), bd_s]
    by_cases ht : T.testBit i = true
    · rw [if_pos ((b_bit T hT i (by omega)).mpr ht), if_pos ht, if_neg (by decide), ck_nI (by omega) (by decide), nI_clamp (by omega)]
      obtain ⟨⟨ec, c, hc, e1⟩, ⟨ek, k, hk, e2⟩, em, m, hm1, hm2, e3⟩ := hb i (by omega)
      have eX : ∀ z, fX1_sell N (nI K) lost stamps sales damp worn value price wired stick weight low high goods tube paid (nI c) (nI k) (nI m) = some z → fX7_sellToBuyer N col kind coins (nI K) lost stamps sales damp worn value price wired stick weight low high goods tube paid (nI i) = some z := by
        intro z hz
        unfold fX7_sellToBuyer
        rw [ck_nI (by omega) (by decide), nI_clamp (by omega), e1, e2, e3, hz, bd_s]
      obtain ⟨-, s⟩ := p_sell N (by omega) hS hK hC (by decide) hval hpay hc hk ⟨hm1, hm2⟩
      rw [ec, ek, em, e1, e2, e3]
      rcases s with ⟨s1, s2⟩ | ⟨pd, lf, l', st', sa', sk', g', t', w', e, he, s1, s2, s3, hS', hw, -⟩
      · refine ⟨lost, stamps, sales, stick, goods, tube, w, hS, fun _ _ => rfl, .inl ⟨?_, ?_⟩⟩
        · rw [eX _ s1, bd_s]
          rfl
        · rw [show fX8_canBuy N w mweight mvalue 60 (nI c) (nI k) (nI m) = some 0 from s2, bd_s]
          rfl
      · obtain ⟨l2, st2, sa2, sk2, g2, t2, w2, hS2, ho2, hor⟩ := ih (i + 1) f (acc + lf) l' st' sa' sk' g' t' w' (by omega) (by omega) (by omega) hS'
        refine ⟨l2, st2, sa2, sk2, g2, t2, w2, hS2, fun j hj => (ho2 j hj).trans (hw j (by omega)), ?_⟩
        have hpd : ¬ (nI pd = -1000000003) := by
          rw [eq32, nIt pd (by omega)]
          show ¬ ((pd : Int) = -1000000003)
          omega
        rw [eX _ s1, bd_s]
        dsimp only
        rw [if_neg hpd, lt_e, nI_1, show fX8_canBuy N w mweight mvalue 60 (nI c) (nI k) (nI m) = some 1 from s2, bd_s, if_neg (show ¬ (1 : Int32) = 0 by decide), show fX8_sell N (nI K) w mvalue 60 (nI c) (nI k) (nI m) = some (nI lf, w') from s3, bd_s]
        dsimp only
        rw [lt_e, lt_e, nI_add]
        rcases hor with h | ⟨acc', h1, h2, h3, h4⟩
        · exact .inl h
        · exact .inr ⟨acc', by omega, h2, h3, h4⟩
    · rw [if_neg (fun z => ht ((b_bit T hT i (by omega)).mp z)), if_neg ht, if_pos rfl, lt_e, lt_e, nI_1]
      exact ih (i + 1) f acc lost stamps sales stick goods tube w (by omega) (by omega) (by omega) hS
/-- all buyers of a set, on both sides -/
theorem p_served (N : Nat) (hN : 100 ≤ N) {K C : Nat} {rlen cu cg mu mg tube goods stick kicks kcnt low high price wired : Nat → Int32} {lost stamps sales damp worn seed : Int32} {w : Nat → Int32} (hS : RSt K C rlen cu cg mu mg tube goods stick kicks kcnt low high price wired lost stamps sales damp worn seed w 60) (hK : K ≤ 5) (hC : C ≤ 5) {value weight paid mvalue mweight : Nat → Int32} (hval : ∀ k, k < K → mvalue k = value k ∧ isN (value k) 1 99 ∧ mweight k = weight k ∧ isN (weight k) 10 99) (hpay : RPay K value paid) {n : Nat} (hn : n ≤ 8) {col kind coins mcol mkind mcoins : Nat → Int32} (hb : ∀ i, i < n → (mcol i = col i ∧ ∃ c : Nat, c < C ∧ col i = nI c) ∧ (mkind i = kind i ∧ ∃ k : Nat, k < K ∧ kind i = nI k) ∧ mcoins i = coins i ∧ isN (coins i) 1 99) {T : Nat} (hT : T < 256) : ∃ (lost' stamps' sales' : Int32) (stick' goods' tube' w' : Nat → Int32), RSt K C rlen cu cg mu mg tube' goods' stick' kicks kcnt low high price wired lost' stamps' sales' damp worn seed w' 60 ∧ (∀ j, (j < 60 ∨ 120 ≤ j) → w' j = w j) ∧ ((fX7_buyersServed N (nI n) col kind coins (nI K) lost stamps sales damp worn value price wired stick weight low high goods tube paid (nI T) = some (0, lost', stamps', sales', stick', goods', tube') ∧ fX8_come N (nI K) (nI n) mcol mkind mcoins w mweight mvalue (nI T) = some ((-1), w')) ∨ (∃ acc' : Nat, acc' ≤ 80000 ∧ fX7_buyersServed N (nI n) col kind coins (nI K) lost stamps sales damp worn value price wired stick weight low high goods tube paid (nI T) = some (1, lost', stamps', sales', stick', goods', tube') ∧ fX8_come N (nI K) (nI n) mcol mkind mcoins w mweight mvalue (nI T) = some (nI acc', w'))) := by
  obtain ⟨l2, st2, sa2, sk2, g2, t2, w2, hS2, ho2, hor⟩ := p_come N hN hK hC hval hpay hn hb hT n 0 N 0 lost stamps sales stick goods tube w (by omega) (by omega) (by omega) hS
  refine ⟨l2, st2, sa2, sk2, g2, t2, w2, hS2, ho2, ?_⟩
  unfold fX7_buyersServed fX8_come
  rcases hor with ⟨h1, h2⟩ | ⟨acc', h1, h2, h3, h4⟩
  · left
    rw [show fX7_buyersServed_L2 N N (nI T) 0 (nI n) col kind coins (nI K) lost stamps sales damp worn value price wired stick weight low high goods tube paid = _ from h1, show fX8_come_L4 N N (nI T) 0 0 (nI K) (nI n) mcol mkind mcoins w mweight mvalue = _ from h2]
    exact ⟨rfl, rfl⟩
  · right
    refine ⟨acc', h2, ?_⟩
    rw [show fX7_buyersServed_L2 N N (nI T) 0 (nI n) col kind coins (nI K) lost stamps sales damp worn value price wired stick weight low high goods tube paid = _ from h3, show fX8_come_L4 N N (nI T) 0 0 (nI K) (nI n) mcol mkind mcoins w mweight mvalue = _ from h4]
    exact ⟨rfl, rfl⟩
