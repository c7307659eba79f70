/-! the loops that find the row -/
set_option maxHeartbeats 4000000 in
theorem fr30_few (N : Nat) (hN : 1000 ≤ N) {K : Nat} (hK : K ≤ 5) {P : Nat → Prop} {n_lost n_stamps n_sales n_damp n_worn n_seed bcnt : Int32} {n_tube n_price n_wired n_stick n_low n_high n_goods n_kicks n_kcnt value weight paid bcol bkind bcoins : Nat → Int32} {x1 : Int32} (hx1 : ¬ x1 = -1) (hT : ∀ (c : Nat) (coins tt : Nat → Int32), c < 9 ^ K → (∀ k, k < 5 → coins k = nI (rowC K c k)) → (P c → ∃ tt', fX7_rowBuysAt N (nI K) coins value tt n_worn n_tube weight n_low n_high n_price paid x1 = some (1, tt')) ∧ (¬ P c → ∃ tt', fX7_rowBuysAt N (nI K) coins value tt n_worn n_tube weight n_low n_high n_price paid x1 = some (0, tt'))) (x3 x4 total : Int32) : ∀ (L : List Nat) (i f : Nat) (more : Int32) (coins : Nat → Int32) (t_lost t_stamps t_sales t_damp t_worn t_seed : Int32) (t_tube t_price t_wired t_stick t_low t_high t_goods t_kicks t_kcnt : Nat → Int32), okL K L = true → (∀ c, c ∈ L → c < 9 ^ K) → i + L.length ≤ 600 → L.length < f → (L = [] → more = 0) → (∀ c rest, L = c :: rest → more = 1 ∧ (∀ k, k < 5 → coins k = nI (rowC K c k))) → (∃ c, c ∈ L ∧ P c ∧ (∀ x, x ∈ L → P x → c ≤ x) ∧ ∃ (coins' : Nat → Int32) (r_lost r_stamps r_sales r_damp r_worn r_seed : Int32) (r_tube r_price r_wired r_stick r_low r_high r_goods r_kicks r_kcnt : Nat → Int32), (∀ k, k < 5 → coins' k = nI (rowC K c k)) ∧ fX7_findRow_L30 N f x1 x3 x4 more (nI i) (nI K) (nI K) total coins value t_lost t_stamps t_sales t_damp t_worn t_seed t_tube n_lost n_stamps n_sales n_damp n_worn n_seed n_tube weight n_low n_high n_price paid bcnt bcol bkind bcoins t_price t_wired t_stick t_low t_high t_goods n_goods n_stick t_kicks n_kicks t_kcnt n_kcnt n_wired = some (.inr (1, nI K, total, coins', r_lost, r_stamps, r_sales, r_damp, r_worn, r_seed, r_tube, r_price, r_wired, r_stick, r_low, r_high, r_goods, r_kicks, r_kcnt))) ∨ ((∀ x, x ∈ L → ¬ P x) ∧ ∃ (coins' : Nat → Int32) (r_lost r_stamps r_sales r_damp r_worn r_seed : Int32) (r_tube r_price r_wired r_stick r_low r_high r_goods r_kicks r_kcnt : Nat → Int32), fX7_findRow_L30 N f x1 x3 x4 more (nI i) (nI K) (nI K) total coins value t_lost t_stamps t_sales t_damp t_worn t_seed t_tube n_lost n_stamps n_sales n_damp n_worn n_seed n_tube weight n_low n_high n_price paid bcnt bcol bkind bcoins t_price t_wired t_stick t_low t_high t_goods n_goods n_stick t_kicks n_kicks t_kcnt n_kcnt n_wired = some (.inl (coins', r_lost, r_stamps, r_sales, r_damp, r_worn, r_seed, r_tube, r_price, r_wired, r_stick, r_low, r_high, r_goods, r_kicks, r_kcnt))) := by
  intro L
  induction L with
  | nil =>
    intro i f more coins t_lost t_stamps t_sales t_damp t_worn t_seed t_tube t_price t_wired t_stick t_low t_high t_goods t_kicks t_kcnt hok hL hi hf h0 h1
    obtain ⟨f, rfl⟩ : ∃ g, f = g + 1 := ⟨f - 1, by omega⟩
    have hi : i + 0 ≤ 600 := hi
    right
    refine ⟨fun x hx => absurd hx List.not_mem_nil, coins, t_lost, t_stamps, t_sales, t_damp, t_worn, t_seed, t_tube, t_price, t_wired, t_stick, t_low, t_high, t_goods, t_kicks, t_kcnt, ?_⟩
    rw [fX7_findRow_L30_s, if_neg (show ¬ (1000 : Int32) ≤ nI i from fun z => by have := (s_le (a := 1000) (by decide) (by omega)).mp z; omega), if_pos (h0 rfl)]
  | cons c rest ih =>
    intro i f more coins t_lost t_stamps t_sales t_damp t_worn t_seed t_tube t_price t_wired t_stick t_low t_high t_goods t_kicks t_kcnt hok hL hi hf h0 h1
    obtain ⟨f, rfl⟩ : ∃ g, f = g + 1 := ⟨f - 1, by omega⟩
    have hi : i + (rest.length + 1) ≤ 600 := hi
    have hf : rest.length + 1 < f + 1 := hf
    obtain ⟨hm, hrow⟩ := h1 c rest rfl
    have hT' := hT c coins t_tube (hL c List.mem_cons_self) hrow
    rw [fX7_findRow_L30_s, if_neg (show ¬ (1000 : Int32) ≤ nI i from fun z => by have := (s_le (a := 1000) (by decide) (by omega)).mp z; omega), if_neg (show ¬ more = 0 from by rw [hm]; decide), if_neg hx1]
    by_cases hP : P c
    · obtain ⟨tt', e⟩ := hT'.1 hP
      left
      refine ⟨c, List.mem_cons_self, hP, fun x hx _ => ?_, coins, t_lost, t_stamps, t_sales, t_damp, t_worn, t_seed, tt', t_price, t_wired, t_stick, t_low, t_high, t_goods, t_kicks, t_kcnt, hrow, ?_⟩
      · rcases List.mem_cons.mp hx with hx | hx
        · rw [hx]; exact Nat.le_refl _
        · exact Nat.le_of_lt (okL_lt rest c hok x hx)
      · rw [e, bd_s]
        dsimp only
        rw [if_neg (show ¬ (1 : Int32) = 0 by decide)]
    · obtain ⟨tt', e⟩ := hT'.2 hP
      rw [e, bd_s]
      dsimp only
      rw [if_pos (show (0 : Int32) = 0 from rfl)]
      have hxn := x_next N (by omega) hK (r := rowC K c) (coins := coins) (fun k hk => ⟨hrow k hk, Nat.le_trans (rowC_le K c k) (by decide)⟩)
      cases rest with
      | nil =>
        have hn : nxtR K (rowC K c) = none := Option.isNone_iff_eq_none.mp hok
        obtain ⟨g, eg⟩ := hxn.1 hn
        rw [eg, bd_s]
        dsimp only
        rw [lt_e, nI_1]
        rcases ih (i + 1) f 0 g t_lost t_stamps t_sales t_damp t_worn t_seed tt' t_price t_wired t_stick t_low t_high t_goods t_kicks t_kcnt rfl (fun x hx => absurd hx List.not_mem_nil) (by show i + 1 + 0 ≤ 600; omega) (by show 0 < f; omega) (fun _ => rfl) (fun c r hz => by cases hz) with ⟨c2, hc2, -⟩ | ⟨-, hr⟩
        · exact absurd hc2 List.not_mem_nil
        · right
          refine ⟨fun x hx => ?_, hr⟩
          rw [List.mem_singleton.mp hx]
          exact hP
      | cons c' rest' =>
        have hok2 : (eqO (nxtR K (rowC K c)) (rowC K c') && decide (c < c') && okL K (c' :: rest')) = true := hok
        simp only [Bool.and_eq_true, decide_eq_true_eq] at hok2
        obtain ⟨⟨hE, -⟩, hok3⟩ := hok2
        obtain ⟨r', hr', hrr⟩ : ∃ r', nxtR K (rowC K c) = some r' ∧ eqR r' (rowC K c') = true := by
          cases hz : nxtR K (rowC K c) with
          | none => rw [hz] at hE; exact absurd hE Bool.false_ne_true
          | some r' => rw [hz] at hE; exact ⟨r', rfl, hE⟩
        obtain ⟨g, eg, hg⟩ := hxn.2 r' hr'
        rw [eg, bd_s]
        dsimp only
        rw [lt_e, nI_1]
        have hi2 : i + 1 + (c' :: rest').length ≤ 600 := by omega
        rcases ih (i + 1) f 1 g t_lost t_stamps t_sales t_damp t_worn t_seed tt' t_price t_wired t_stick t_low t_high t_goods t_kicks t_kcnt hok3 (fun x hx => hL x (List.mem_cons_of_mem _ hx)) hi2 (by omega) (fun hz => by cases hz) (fun c2 r2 hz => by
          cases hz
          exact ⟨rfl, fun k hk => by rw [hg k hk, eqR_t hrr k hk]⟩) with ⟨c2, hc2, hP2, hm2, hr⟩ | ⟨hn2, hr⟩
        · left
          refine ⟨c2, List.mem_cons_of_mem _ hc2, hP2, fun x hx hPx => ?_, hr⟩
          rcases List.mem_cons.mp hx with hx | hx
          · rw [hx] at hPx; exact absurd hPx hP
          · exact hm2 x hx hPx
        · right
          refine ⟨fun x hx => ?_, hr⟩
          rcases List.mem_cons.mp hx with hx | hx
          · rw [hx]; exact hP
          · exact hn2 x hx
set_option maxHeartbeats 4000000 in
theorem fr3_few (N : Nat) (hN : 1000 ≤ N) {K most : Nat} (hK : K ≤ 5) (hmost : most ≤ 8) {P : Nat → Prop} {n_lost n_stamps n_sales n_damp n_worn n_seed bcnt : Int32} {n_tube n_price n_wired n_stick n_low n_high n_goods n_kicks n_kcnt value weight paid bcol bkind bcoins : Nat → Int32} {x1 : Int32} (hx1 : ¬ x1 = -1) (hT : ∀ (c : Nat) (coins tt : Nat → Int32), c < 9 ^ K → (∀ k, k < 5 → coins k = nI (rowC K c k)) → (P c → ∃ tt', fX7_rowBuysAt N (nI K) coins value tt n_worn n_tube weight n_low n_high n_price paid x1 = some (1, tt')) ∧ (¬ P c → ∃ tt', fX7_rowBuysAt N (nI K) coins value tt n_worn n_tube weight n_low n_high n_price paid x1 = some (0, tt'))) : ∀ (d t f : Nat) (width total : Int32) (coins : Nat → Int32) (t_lost t_stamps t_sales t_damp t_worn t_seed : Int32) (t_tube t_price t_wired t_stick t_low t_high t_goods t_kicks t_kcnt : Nat → Int32), t + d = most + 1 → d < f → (∃ c, c < 9 ^ K ∧ t ≤ sC K c ∧ sC K c ≤ most ∧ P c ∧ (∀ x, x < 9 ^ K → t ≤ sC K x → sC K x ≤ most → P x → sC K c < sC K x ∨ (sC K c = sC K x ∧ c ≤ x)) ∧ ∃ (width' : Int32) (coins' : Nat → Int32) (r_lost r_stamps r_sales r_damp r_worn r_seed : Int32) (r_tube r_price r_wired r_stick r_low r_high r_goods r_kicks r_kcnt : Nat → Int32), (∀ k, k < 5 → coins' k = nI (rowC K c k)) ∧ fX7_findRow_L3 N f x1 (nI most) (nI t) (nI K) width total coins value t_lost t_stamps t_sales t_damp t_worn t_seed t_tube n_lost n_stamps n_sales n_damp n_worn n_seed n_tube weight n_low n_high n_price paid bcnt bcol bkind bcoins t_price t_wired t_stick t_low t_high t_goods n_goods n_stick t_kicks n_kicks t_kcnt n_kcnt n_wired = some (.inr (1, width', nI (sC K c), coins', r_lost, r_stamps, r_sales, r_damp, r_worn, r_seed, r_tube, r_price, r_wired, r_stick, r_low, r_high, r_goods, r_kicks, r_kcnt))) ∨ ((∀ x, x < 9 ^ K → t ≤ sC K x → sC K x ≤ most → ¬ P x) ∧ ∃ (width' total' : Int32) (coins' : Nat → Int32) (r_lost r_stamps r_sales r_damp r_worn r_seed : Int32) (r_tube r_price r_wired r_stick r_low r_high r_goods r_kicks r_kcnt : Nat → Int32), fX7_findRow_L3 N f x1 (nI most) (nI t) (nI K) width total coins value t_lost t_stamps t_sales t_damp t_worn t_seed t_tube n_lost n_stamps n_sales n_damp n_worn n_seed n_tube weight n_low n_high n_price paid bcnt bcol bkind bcoins t_price t_wired t_stick t_low t_high t_goods n_goods n_stick t_kicks n_kicks t_kcnt n_kcnt n_wired = some (.inl (width', total', coins', r_lost, r_stamps, r_sales, r_damp, r_worn, r_seed, r_tube, r_price, r_wired, r_stick, r_low, r_high, r_goods, r_kicks, r_kcnt))) := by
  intro d
  induction d with
  | zero =>
    intro t f width total coins t_lost t_stamps t_sales t_damp t_worn t_seed t_tube t_price t_wired t_stick t_low t_high t_goods t_kicks t_kcnt ht hf
    obtain ⟨f, rfl⟩ : ∃ g, f = g + 1 := ⟨f - 1, by omega⟩
    right
    refine ⟨fun x _ h1 h2 => by omega, width, total, coins, t_lost, t_stamps, t_sales, t_damp, t_worn, t_seed, t_tube, t_price, t_wired, t_stick, t_low, t_high, t_goods, t_kicks, t_kcnt, ?_⟩
    rw [fX7_findRow_L3_s, if_pos ((s_lt (by omega) (by omega)).mpr (by omega))]
  | succ d ih =>
    intro t f width total coins t_lost t_stamps t_sales t_damp t_worn t_seed t_tube t_price t_wired t_stick t_low t_high t_goods t_kicks t_kcnt ht hf
    obtain ⟨f, rfl⟩ : ∃ g, f = g + 1 := ⟨f - 1, by omega⟩
    obtain ⟨more, g, e1, e2, e3, e4⟩ := x_start N (by omega) hK (t := t) (by omega) width total coins
    obtain ⟨g1, g2, g3, g4, g5⟩ := good_t hK (t := t) (by omega)
    have hL0 : clL K t = [] → more = 0 := fun hz => by
      refine Classical.byContradiction (fun hz2 => ?_)
      obtain ⟨c, rest, h1, -⟩ := g5 (fun hz3 => hz2 (e2 hz3))
      rw [hz] at h1
      cases h1
    have hL1 : ∀ c rest, clL K t = c :: rest → more = 1 ∧ (∀ k, k < 5 → g k = nI (rowC K c k)) := fun c rest hz => by
      have hz2 : ¬ (K = 0 ∧ t ≠ 0) := fun hz3 => by
        rw [g4 hz3.1 hz3.2] at hz
        cases hz
      obtain ⟨c0, rest0, h1, h2⟩ := g5 hz2
      rw [hz] at h1
      cases h1
      exact ⟨e3 hz2, fun k hk => by rw [e4 k hk, h2 k hk]⟩
    rw [fX7_findRow_L3_s, if_neg (fun z => by have := (s_lt (by omega) (by omega)).mp z; omega), e1, bd_s]
    dsimp only
    rcases fr30_few N hN hK hx1 hT (nI most) (nI t) (nI t) (clL K t) 0 N more g t_lost t_stamps t_sales t_damp t_worn t_seed t_tube t_price t_wired t_stick t_low t_high t_goods t_kicks t_kcnt g1 (fun c hc => (g3 c hc).1) (by omega) (by omega) hL0 hL1 with ⟨c, hc, hP, hm, coins', r_lost, r_stamps, r_sales, r_damp, r_worn, r_seed, r_tube, r_price, r_wired, r_stick, r_low, r_high, r_goods, r_kicks, r_kcnt, hrow, er⟩ | ⟨hn, coins', r_lost, r_stamps, r_sales, r_damp, r_worn, r_seed, r_tube, r_price, r_wired, r_stick, r_low, r_high, r_goods, r_kicks, r_kcnt, er⟩
    · left
      have hs := (g3 c hc).2
      refine ⟨c, (g3 c hc).1, by omega, by omega, hP, fun x hx h1 h2 hPx => ?_, nI K, coins', r_lost, r_stamps, r_sales, r_damp, r_worn, r_seed, r_tube, r_price, r_wired, r_stick, r_low, r_high, r_goods, r_kicks, r_kcnt, hrow, ?_⟩
      · by_cases q : sC K x = t
        · exact .inr ⟨by omega, hm x (mem_cl K t x hx q (by omega)) hPx⟩
        · left; omega
      · rw [show fX7_findRow_L30 N N x1 (nI most) (nI t) more 0 (nI K) (nI K) (nI t) g value t_lost t_stamps t_sales t_damp t_worn t_seed t_tube n_lost n_stamps n_sales n_damp n_worn n_seed n_tube weight n_low n_high n_price paid bcnt bcol bkind bcoins t_price t_wired t_stick t_low t_high t_goods n_goods n_stick t_kicks n_kicks t_kcnt n_kcnt n_wired = _ from er, bd_s]
        dsimp only
        rw [hs]
    · rw [show fX7_findRow_L30 N N x1 (nI most) (nI t) more 0 (nI K) (nI K) (nI t) g value t_lost t_stamps t_sales t_damp t_worn t_seed t_tube n_lost n_stamps n_sales n_damp n_worn n_seed n_tube weight n_low n_high n_price paid bcnt bcol bkind bcoins t_price t_wired t_stick t_low t_high t_goods n_goods n_stick t_kicks n_kicks t_kcnt n_kcnt n_wired = _ from er, bd_s]
      dsimp only
      rw [lt_e, nI_1]
      have hnt : ∀ x, x < 9 ^ K → sC K x = t → ¬ P x := fun x hx hxt => hn x (mem_cl K t x hx hxt (by omega))
      rcases ih (t + 1) f (nI K) (nI t) coins' r_lost r_stamps r_sales r_damp r_worn r_seed r_tube r_price r_wired r_stick r_low r_high r_goods r_kicks r_kcnt (by omega) (by omega) with ⟨c, h1, h2, h3, h4, h5, h6⟩ | ⟨h1, h2⟩
      · left
        refine ⟨c, h1, by omega, h3, h4, fun x hx hx1 hx2 hPx => ?_, h6⟩
        by_cases q : sC K x = t
        · exact absurd hPx (hnt x hx q)
        · exact h5 x hx (by omega) hx2 hPx
      · right
        refine ⟨fun x hx hx1 hx2 => ?_, h2⟩
        by_cases q : sC K x = t
        · exact hnt x hx q
        · exact h1 x hx (by omega) hx2
set_option maxHeartbeats 4000000 in
theorem fr30_fill (N : Nat) (hN : 1000 ≤ N) {K : Nat} (hK : K ≤ 5) {P : Nat → Prop} {n_lost n_stamps n_sales n_damp n_worn n_seed bcnt : Int32} {n_tube n_price n_wired n_stick n_low n_high n_goods n_kicks n_kcnt value weight paid bcol bkind bcoins : Nat → Int32} {x1 : Int32} (hx1 : x1 = -1) (hT : ∀ (c : Nat) (coins : Nat → Int32) (t_lost t_stamps t_sales t_damp t_worn t_seed : Int32) (t_tube t_price t_wired t_stick t_low t_high t_goods t_kicks t_kcnt : Nat → Int32), c < 9 ^ K → (∀ k, k < 5 → coins k = nI (rowC K c k)) → (P c → ∃ (r_lost r_stamps r_sales r_damp r_worn r_seed : Int32) (r_tube r_price r_wired r_stick r_low r_high r_goods r_kicks r_kcnt : Nat → Int32), fX7_rowServesBuyers N (nI K) t_lost t_stamps t_sales t_damp t_worn t_seed t_tube coins bcnt bcol bkind bcoins value t_price t_wired t_stick weight t_low t_high t_goods paid n_lost n_stamps n_sales n_damp n_worn n_seed n_tube n_goods n_stick t_kicks n_kicks t_kcnt n_kcnt n_low n_high n_price n_wired = some (1, r_lost, r_stamps, r_sales, r_damp, r_worn, r_seed, r_tube, r_price, r_wired, r_stick, r_low, r_high, r_goods, r_kicks, r_kcnt)) ∧ (¬ P c → ∃ (r_lost r_stamps r_sales r_damp r_worn r_seed : Int32) (r_tube r_price r_wired r_stick r_low r_high r_goods r_kicks r_kcnt : Nat → Int32), fX7_rowServesBuyers N (nI K) t_lost t_stamps t_sales t_damp t_worn t_seed t_tube coins bcnt bcol bkind bcoins value t_price t_wired t_stick weight t_low t_high t_goods paid n_lost n_stamps n_sales n_damp n_worn n_seed n_tube n_goods n_stick t_kicks n_kicks t_kcnt n_kcnt n_low n_high n_price n_wired = some (0, r_lost, r_stamps, r_sales, r_damp, r_worn, r_seed, r_tube, r_price, r_wired, r_stick, r_low, r_high, r_goods, r_kicks, r_kcnt))) (x3 x4 total : Int32) : ∀ (L : List Nat) (i f : Nat) (more : Int32) (coins : Nat → Int32) (t_lost t_stamps t_sales t_damp t_worn t_seed : Int32) (t_tube t_price t_wired t_stick t_low t_high t_goods t_kicks t_kcnt : Nat → Int32), okL K L = true → (∀ c, c ∈ L → c < 9 ^ K) → i + L.length ≤ 600 → L.length < f → (L = [] → more = 0) → (∀ c rest, L = c :: rest → more = 1 ∧ (∀ k, k < 5 → coins k = nI (rowC K c k))) → (∃ c, c ∈ L ∧ P c ∧ (∀ x, x ∈ L → P x → c ≤ x) ∧ ∃ (coins' : Nat → Int32) (r_lost r_stamps r_sales r_damp r_worn r_seed : Int32) (r_tube r_price r_wired r_stick r_low r_high r_goods r_kicks r_kcnt : Nat → Int32), (∀ k, k < 5 → coins' k = nI (rowC K c k)) ∧ fX7_findRow_L30 N f x1 x3 x4 more (nI i) (nI K) (nI K) total coins value t_lost t_stamps t_sales t_damp t_worn t_seed t_tube n_lost n_stamps n_sales n_damp n_worn n_seed n_tube weight n_low n_high n_price paid bcnt bcol bkind bcoins t_price t_wired t_stick t_low t_high t_goods n_goods n_stick t_kicks n_kicks t_kcnt n_kcnt n_wired = some (.inr (1, nI K, total, coins', r_lost, r_stamps, r_sales, r_damp, r_worn, r_seed, r_tube, r_price, r_wired, r_stick, r_low, r_high, r_goods, r_kicks, r_kcnt))) ∨ ((∀ x, x ∈ L → ¬ P x) ∧ ∃ (coins' : Nat → Int32) (r_lost r_stamps r_sales r_damp r_worn r_seed : Int32) (r_tube r_price r_wired r_stick r_low r_high r_goods r_kicks r_kcnt : Nat → Int32), fX7_findRow_L30 N f x1 x3 x4 more (nI i) (nI K) (nI K) total coins value t_lost t_stamps t_sales t_damp t_worn t_seed t_tube n_lost n_stamps n_sales n_damp n_worn n_seed n_tube weight n_low n_high n_price paid bcnt bcol bkind bcoins t_price t_wired t_stick t_low t_high t_goods n_goods n_stick t_kicks n_kicks t_kcnt n_kcnt n_wired = some (.inl (coins', r_lost, r_stamps, r_sales, r_damp, r_worn, r_seed, r_tube, r_price, r_wired, r_stick, r_low, r_high, r_goods, r_kicks, r_kcnt))) := by
  intro L
  induction L with
  | nil =>
    intro i f more coins t_lost t_stamps t_sales t_damp t_worn t_seed t_tube t_price t_wired t_stick t_low t_high t_goods t_kicks t_kcnt hok hL hi hf h0 h1
    obtain ⟨f, rfl⟩ : ∃ g, f = g + 1 := ⟨f - 1, by omega⟩
    have hi : i + 0 ≤ 600 := hi
    right
    refine ⟨fun x hx => absurd hx List.not_mem_nil, coins, t_lost, t_stamps, t_sales, t_damp, t_worn, t_seed, t_tube, t_price, t_wired, t_stick, t_low, t_high, t_goods, t_kicks, t_kcnt, ?_⟩
    rw [fX7_findRow_L30_s, if_neg (show ¬ (1000 : Int32) ≤ nI i from fun z => by have := (s_le (a := 1000) (by decide) (by omega)).mp z; omega), if_pos (h0 rfl)]
  | cons c rest ih =>
    intro i f more coins t_lost t_stamps t_sales t_damp t_worn t_seed t_tube t_price t_wired t_stick t_low t_high t_goods t_kicks t_kcnt hok hL hi hf h0 h1
    obtain ⟨f, rfl⟩ : ∃ g, f = g + 1 := ⟨f - 1, by omega⟩
    have hi : i + (rest.length + 1) ≤ 600 := hi
    have hf : rest.length + 1 < f + 1 := hf
    obtain ⟨hm, hrow⟩ := h1 c rest rfl
    have hT' := hT c coins t_lost t_stamps t_sales t_damp t_worn t_seed t_tube t_price t_wired t_stick t_low t_high t_goods t_kicks t_kcnt (hL c List.mem_cons_self) hrow
    rw [fX7_findRow_L30_s, if_neg (show ¬ (1000 : Int32) ≤ nI i from fun z => by have := (s_le (a := 1000) (by decide) (by omega)).mp z; omega), if_neg (show ¬ more = 0 from by rw [hm]; decide), if_pos hx1]
    by_cases hP : P c
    · obtain ⟨s_lost, s_stamps, s_sales, s_damp, s_worn, s_seed, s_tube, s_price, s_wired, s_stick, s_low, s_high, s_goods, s_kicks, s_kcnt, e⟩ := hT'.1 hP
      left
      refine ⟨c, List.mem_cons_self, hP, fun x hx _ => ?_, coins, s_lost, s_stamps, s_sales, s_damp, s_worn, s_seed, s_tube, s_price, s_wired, s_stick, s_low, s_high, s_goods, s_kicks, s_kcnt, hrow, ?_⟩
      · rcases List.mem_cons.mp hx with hx | hx
        · rw [hx]; exact Nat.le_refl _
        · exact Nat.le_of_lt (okL_lt rest c hok x hx)
      · rw [e, bd_s]
        dsimp only
        rw [if_neg (show ¬ (1 : Int32) = 0 by decide)]
    · obtain ⟨s_lost, s_stamps, s_sales, s_damp, s_worn, s_seed, s_tube, s_price, s_wired, s_stick, s_low, s_high, s_goods, s_kicks, s_kcnt, e⟩ := hT'.2 hP
      rw [e, bd_s]
      dsimp only
      rw [if_pos (show (0 : Int32) = 0 from rfl)]
      have hxn := x_next N (by omega) hK (r := rowC K c) (coins := coins) (fun k hk => ⟨hrow k hk, Nat.le_trans (rowC_le K c k) (by decide)⟩)
      cases rest with
      | nil =>
        have hn : nxtR K (rowC K c) = none := Option.isNone_iff_eq_none.mp hok
        obtain ⟨g, eg⟩ := hxn.1 hn
        rw [eg, bd_s]
        dsimp only
        rw [lt_e, nI_1]
        rcases ih (i + 1) f 0 g s_lost s_stamps s_sales s_damp s_worn s_seed s_tube s_price s_wired s_stick s_low s_high s_goods s_kicks s_kcnt rfl (fun x hx => absurd hx List.not_mem_nil) (by show i + 1 + 0 ≤ 600; omega) (by show 0 < f; omega) (fun _ => rfl) (fun c r hz => by cases hz) with ⟨c2, hc2, -⟩ | ⟨-, hr⟩
        · exact absurd hc2 List.not_mem_nil
        · right
          refine ⟨fun x hx => ?_, hr⟩
          rw [List.mem_singleton.mp hx]
          exact hP
      | cons c' rest' =>
        have hok2 : (eqO (nxtR K (rowC K c)) (rowC K c') && decide (c < c') && okL K (c' :: rest')) = true := hok
        simp only [Bool.and_eq_true, decide_eq_true_eq] at hok2
        obtain ⟨⟨hE, -⟩, hok3⟩ := hok2
        obtain ⟨r', hr', hrr⟩ : ∃ r', nxtR K (rowC K c) = some r' ∧ eqR r' (rowC K c') = true := by
          cases hz : nxtR K (rowC K c) with
          | none => rw [hz] at hE; exact absurd hE Bool.false_ne_true
          | some r' => rw [hz] at hE; exact ⟨r', rfl, hE⟩
        obtain ⟨g, eg, hg⟩ := hxn.2 r' hr'
        rw [eg, bd_s]
        dsimp only
        rw [lt_e, nI_1]
        have hi2 : i + 1 + (c' :: rest').length ≤ 600 := by omega
        rcases ih (i + 1) f 1 g s_lost s_stamps s_sales s_damp s_worn s_seed s_tube s_price s_wired s_stick s_low s_high s_goods s_kicks s_kcnt hok3 (fun x hx => hL x (List.mem_cons_of_mem _ hx)) hi2 (by omega) (fun hz => by cases hz) (fun c2 r2 hz => by
          cases hz
          exact ⟨rfl, fun k hk => by rw [hg k hk, eqR_t hrr k hk]⟩) with ⟨c2, hc2, hP2, hm2, hr⟩ | ⟨hn2, hr⟩
        · left
          refine ⟨c2, List.mem_cons_of_mem _ hc2, hP2, fun x hx hPx => ?_, hr⟩
          rcases List.mem_cons.mp hx with hx | hx
          · rw [hx] at hPx; exact absurd hPx hP
          · exact hm2 x hx hPx
        · right
          refine ⟨fun x hx => ?_, hr⟩
          rcases List.mem_cons.mp hx with hx | hx
          · rw [hx]; exact hP
          · exact hn2 x hx
set_option maxHeartbeats 4000000 in
theorem fr3_fill (N : Nat) (hN : 1000 ≤ N) {K most : Nat} (hK : K ≤ 5) (hmost : most ≤ 8) {P : Nat → Prop} {n_lost n_stamps n_sales n_damp n_worn n_seed bcnt : Int32} {n_tube n_price n_wired n_stick n_low n_high n_goods n_kicks n_kcnt value weight paid bcol bkind bcoins : Nat → Int32} {x1 : Int32} (hx1 : x1 = -1) (hT : ∀ (c : Nat) (coins : Nat → Int32) (t_lost t_stamps t_sales t_damp t_worn t_seed : Int32) (t_tube t_price t_wired t_stick t_low t_high t_goods t_kicks t_kcnt : Nat → Int32), c < 9 ^ K → (∀ k, k < 5 → coins k = nI (rowC K c k)) → (P c → ∃ (r_lost r_stamps r_sales r_damp r_worn r_seed : Int32) (r_tube r_price r_wired r_stick r_low r_high r_goods r_kicks r_kcnt : Nat → Int32), fX7_rowServesBuyers N (nI K) t_lost t_stamps t_sales t_damp t_worn t_seed t_tube coins bcnt bcol bkind bcoins value t_price t_wired t_stick weight t_low t_high t_goods paid n_lost n_stamps n_sales n_damp n_worn n_seed n_tube n_goods n_stick t_kicks n_kicks t_kcnt n_kcnt n_low n_high n_price n_wired = some (1, r_lost, r_stamps, r_sales, r_damp, r_worn, r_seed, r_tube, r_price, r_wired, r_stick, r_low, r_high, r_goods, r_kicks, r_kcnt)) ∧ (¬ P c → ∃ (r_lost r_stamps r_sales r_damp r_worn r_seed : Int32) (r_tube r_price r_wired r_stick r_low r_high r_goods r_kicks r_kcnt : Nat → Int32), fX7_rowServesBuyers N (nI K) t_lost t_stamps t_sales t_damp t_worn t_seed t_tube coins bcnt bcol bkind bcoins value t_price t_wired t_stick weight t_low t_high t_goods paid n_lost n_stamps n_sales n_damp n_worn n_seed n_tube n_goods n_stick t_kicks n_kicks t_kcnt n_kcnt n_low n_high n_price n_wired = some (0, r_lost, r_stamps, r_sales, r_damp, r_worn, r_seed, r_tube, r_price, r_wired, r_stick, r_low, r_high, r_goods, r_kicks, r_kcnt))) : ∀ (d t f : Nat) (width total : Int32) (coins : Nat → Int32) (t_lost t_stamps t_sales t_damp t_worn t_seed : Int32) (t_tube t_price t_wired t_stick t_low t_high t_goods t_kicks t_kcnt : Nat → Int32), t + d = most + 1 → d < f → (∃ c, c < 9 ^ K ∧ t ≤ sC K c ∧ sC K c ≤ most ∧ P c ∧ (∀ x, x < 9 ^ K → t ≤ sC K x → sC K x ≤ most → P x → sC K c < sC K x ∨ (sC K c = sC K x ∧ c ≤ x)) ∧ ∃ (width' : Int32) (coins' : Nat → Int32) (r_lost r_stamps r_sales r_damp r_worn r_seed : Int32) (r_tube r_price r_wired r_stick r_low r_high r_goods r_kicks r_kcnt : Nat → Int32), (∀ k, k < 5 → coins' k = nI (rowC K c k)) ∧ fX7_findRow_L3 N f x1 (nI most) (nI t) (nI K) width total coins value t_lost t_stamps t_sales t_damp t_worn t_seed t_tube n_lost n_stamps n_sales n_damp n_worn n_seed n_tube weight n_low n_high n_price paid bcnt bcol bkind bcoins t_price t_wired t_stick t_low t_high t_goods n_goods n_stick t_kicks n_kicks t_kcnt n_kcnt n_wired = some (.inr (1, width', nI (sC K c), coins', r_lost, r_stamps, r_sales, r_damp, r_worn, r_seed, r_tube, r_price, r_wired, r_stick, r_low, r_high, r_goods, r_kicks, r_kcnt))) ∨ ((∀ x, x < 9 ^ K → t ≤ sC K x → sC K x ≤ most → ¬ P x) ∧ ∃ (width' total' : Int32) (coins' : Nat → Int32) (r_lost r_stamps r_sales r_damp r_worn r_seed : Int32) (r_tube r_price r_wired r_stick r_low r_high r_goods r_kicks r_kcnt : Nat → Int32), fX7_findRow_L3 N f x1 (nI most) (nI t) (nI K) width total coins value t_lost t_stamps t_sales t_damp t_worn t_seed t_tube n_lost n_stamps n_sales n_damp n_worn n_seed n_tube weight n_low n_high n_price paid bcnt bcol bkind bcoins t_price t_wired t_stick t_low t_high t_goods n_goods n_stick t_kicks n_kicks t_kcnt n_kcnt n_wired = some (.inl (width', total', coins', r_lost, r_stamps, r_sales, r_damp, r_worn, r_seed, r_tube, r_price, r_wired, r_stick, r_low, r_high, r_goods, r_kicks, r_kcnt))) := by
  intro d
  induction d with
  | zero =>
    intro t f width total coins t_lost t_stamps t_sales t_damp t_worn t_seed t_tube t_price t_wired t_stick t_low t_high t_goods t_kicks t_kcnt ht hf
    obtain ⟨f, rfl⟩ : ∃ g, f = g + 1 := ⟨f - 1, by omega⟩
    right
    refine ⟨fun x _ h1 h2 => by omega, width, total, coins, t_lost, t_stamps, t_sales, t_damp, t_worn, t_seed, t_tube, t_price, t_wired, t_stick, t_low, t_high, t_goods, t_kicks, t_kcnt, ?_⟩
    rw [fX7_findRow_L3_s, if_pos ((s_lt (by omega) (by omega)).mpr (by omega))]
  | succ d ih =>
    intro t f width total coins t_lost t_stamps t_sales t_damp t_worn t_seed t_tube t_price t_wired t_stick t_low t_high t_goods t_kicks t_kcnt ht hf
    obtain ⟨f, rfl⟩ : ∃ g, f = g + 1 := ⟨f - 1, by omega⟩
    obtain ⟨more, g, e1, e2, e3, e4⟩ := x_start N (by omega) hK (t := t) (by omega) width total coins
    obtain ⟨g1, g2, g3, g4, g5⟩ := good_t hK (t := t) (by omega)
    have hL0 : clL K t = [] → more = 0 := fun hz => by
      refine Classical.byContradiction (fun hz2 => ?_)
      obtain ⟨c, rest, h1, -⟩ := g5 (fun hz3 => hz2 (e2 hz3))
      rw [hz] at h1
      cases h1
    have hL1 : ∀ c rest, clL K t = c :: rest → more = 1 ∧ (∀ k, k < 5 → g k = nI (rowC K c k)) := fun c rest hz => by
      have hz2 : ¬ (K = 0 ∧ t ≠ 0) := fun hz3 => by
        rw [g4 hz3.1 hz3.2] at hz
        cases hz
      obtain ⟨c0, rest0, h1, h2⟩ := g5 hz2
      rw [hz] at h1
      cases h1
      exact ⟨e3 hz2, fun k hk => by rw [e4 k hk, h2 k hk]⟩
    rw [fX7_findRow_L3_s, if_neg (fun z => by have := (s_lt (by omega) (by omega)).mp z; omega), e1, bd_s]
    dsimp only
    rcases fr30_fill N hN hK hx1 hT (nI most) (nI t) (nI t) (clL K t) 0 N more g t_lost t_stamps t_sales t_damp t_worn t_seed t_tube t_price t_wired t_stick t_low t_high t_goods t_kicks t_kcnt g1 (fun c hc => (g3 c hc).1) (by omega) (by omega) hL0 hL1 with ⟨c, hc, hP, hm, coins', r_lost, r_stamps, r_sales, r_damp, r_worn, r_seed, r_tube, r_price, r_wired, r_stick, r_low, r_high, r_goods, r_kicks, r_kcnt, hrow, er⟩ | ⟨hn, coins', r_lost, r_stamps, r_sales, r_damp, r_worn, r_seed, r_tube, r_price, r_wired, r_stick, r_low, r_high, r_goods, r_kicks, r_kcnt, er⟩
    · left
      have hs := (g3 c hc).2
      refine ⟨c, (g3 c hc).1, by omega, by omega, hP, fun x hx h1 h2 hPx => ?_, nI K, coins', r_lost, r_stamps, r_sales, r_damp, r_worn, r_seed, r_tube, r_price, r_wired, r_stick, r_low, r_high, r_goods, r_kicks, r_kcnt, hrow, ?_⟩
      · by_cases q : sC K x = t
        · exact .inr ⟨by omega, hm x (mem_cl K t x hx q (by omega)) hPx⟩
        · left; omega
      · rw [show fX7_findRow_L30 N N x1 (nI most) (nI t) more 0 (nI K) (nI K) (nI t) g value t_lost t_stamps t_sales t_damp t_worn t_seed t_tube n_lost n_stamps n_sales n_damp n_worn n_seed n_tube weight n_low n_high n_price paid bcnt bcol bkind bcoins t_price t_wired t_stick t_low t_high t_goods n_goods n_stick t_kicks n_kicks t_kcnt n_kcnt n_wired = _ from er, bd_s]
        dsimp only
        rw [hs]
    · rw [show fX7_findRow_L30 N N x1 (nI most) (nI t) more 0 (nI K) (nI K) (nI t) g value t_lost t_stamps t_sales t_damp t_worn t_seed t_tube n_lost n_stamps n_sales n_damp n_worn n_seed n_tube weight n_low n_high n_price paid bcnt bcol bkind bcoins t_price t_wired t_stick t_low t_high t_goods n_goods n_stick t_kicks n_kicks t_kcnt n_kcnt n_wired = _ from er, bd_s]
      dsimp only
      rw [lt_e, nI_1]
      have hnt : ∀ x, x < 9 ^ K → sC K x = t → ¬ P x := fun x hx hxt => hn x (mem_cl K t x hx hxt (by omega))
      rcases ih (t + 1) f (nI K) (nI t) coins' r_lost r_stamps r_sales r_damp r_worn r_seed r_tube r_price r_wired r_stick r_low r_high r_goods r_kicks r_kcnt (by omega) (by omega) with ⟨c, h1, h2, h3, h4, h5, h6⟩ | ⟨h1, h2⟩
      · left
        refine ⟨c, h1, by omega, h3, h4, fun x hx hx1 hx2 hPx => ?_, h6⟩
        by_cases q : sC K x = t
        · exact absurd hPx (hnt x hx q)
        · exact h5 x hx (by omega) hx2 hPx
      · right
        refine ⟨fun x hx hx1 hx2 => ?_, h2⟩
        by_cases q : sC K x = t
        · exact hnt x hx q
        · exact h1 x hx (by omega) hx2
set_option maxHeartbeats 4000000 in
theorem m_few (N : Nat) (hN : 100 ≤ N) {K : Nat} (hK : K ≤ 5) {Q : Nat → Prop} {mvalue mweight w0 : Nat → Int32} {x1 : Int32} (x2 : Int32) (hT : ∀ (c : Nat) (fo w : Nat → Int32), c < 9 ^ K → (∀ k, k < K → fo k = nI (rowC K c k)) → (∀ j, (j < 60 ∨ 120 ≤ j) → w j = w0 j) → (Q c → ∃ w', fX8_gets N (nI K) fo mvalue w mweight x1 = some (1, w') ∧ (∀ j, (j < 60 ∨ 120 ≤ j) → w' j = w0 j)) ∧ (¬ Q c → ∃ w', fX8_gets N (nI K) fo mvalue w mweight x1 = some (0, w') ∧ (∀ j, (j < 60 ∨ 120 ≤ j) → w' j = w0 j))) : ∀ (d c f : Nat) (best cs : Int32) (g w : Nat → Int32), c + d = 9 ^ K → d < f → (∀ j, (j < 60 ∨ 120 ≤ j) → w j = w0 j) → (∃ cm : Nat, cs = nI cm ∧ ((best = -1 ∧ cm = 8 + 1 ∧ ∀ x, x < c → 1 ≤ sC K x → sC K x ≤ 8 → ¬ Q x) ∨ ∃ b : Nat, b < c ∧ best = nI b ∧ cm = sC K b ∧ 1 ≤ sC K b ∧ sC K b ≤ 8 ∧ Q b ∧ ∀ x, x < c → 1 ≤ sC K x → sC K x ≤ 8 → Q x → sC K b < sC K x ∨ (sC K b = sC K x ∧ b ≤ x))) → ∃ (best' : Int32) (g' w' : Nat → Int32), fX8_fewest_L33 N f x1 x2 best cs (nI c) (nI K) g mvalue w mweight = some (best', g', w') ∧ (∀ j, (j < 60 ∨ 120 ≤ j) → w' j = w0 j) ∧ ((best' = -1 ∧ ∀ x, x < 9 ^ K → 1 ≤ sC K x → sC K x ≤ 8 → ¬ Q x) ∨ ∃ b : Nat, b < 9 ^ K ∧ best' = nI b ∧ 1 ≤ sC K b ∧ sC K b ≤ 8 ∧ Q b ∧ ∀ x, x < 9 ^ K → 1 ≤ sC K x → sC K x ≤ 8 → Q x → sC K b < sC K x ∨ (sC K b = sC K x ∧ b ≤ x)) := by
  have h9 := p9 hK
  intro d
  induction d with
  | zero =>
    intro c f best cs g w hc hf hw hI
    obtain ⟨f, rfl⟩ : ∃ g, f = g + 1 := ⟨f - 1, by omega⟩
    refine ⟨best, g, w, ?_, hw, ?_⟩
    · rw [fX8_fewest_L33_s, m_codes N (by omega) hK, bd_s, if_pos (nI_le (by omega) (by omega))]
    · obtain ⟨cn, -, hI⟩ := hI
      rw [show c = 9 ^ K by omega] at hI
      rcases hI with ⟨h1, -, h2⟩ | ⟨b, h1, h2, -, h3⟩
      · exact .inl ⟨h1, h2⟩
      · exact .inr ⟨b, h1, h2, h3⟩
  | succ d ih =>
    intro c f best cs g w hc hf hw hI
    obtain ⟨f, rfl⟩ : ∃ g, f = g + 1 := ⟨f - 1, by omega⟩
    obtain ⟨cn, rfl, hI⟩ := hI
    obtain ⟨g1, e1, e2⟩ := m_lay N (by omega) hK (c := c) (by omega) g
    have hs40 : sC K c ≤ 8 * K := sumG_le (fun k => rowC_le K c k) K 0
    have hcn1 : 1 ≤ cn ∧ cn ≤ 9 := by
      rcases hI with ⟨-, h1, -⟩ | ⟨b, -, -, h1, h2, h3, -⟩
      · omega
      · omega
    obtain ⟨hcn1, hcn9⟩ := hcn1
    rw [fX8_fewest_L33_s, m_codes N (by omega) hK, bd_s, if_neg (nI_ge (by omega) (by omega)), e1, bd_s]
    dsimp only
    have tst : ∀ (go : Bool), go = go := fun _ => rfl
    have hin : fX8_in N (Int32.toInt64 (nI (sC K c))) 1 (Int32.toInt64 (nI cn - 1)) = some (if 1 ≤ sC K c ∧ sC K c < cn then 1 else 0) := by
      rw [p_in, wide, wide, nIt _ (by omega), s_sub1 hcn1, nIt _ (by omega)]
      by_cases z : 1 ≤ sC K c ∧ sC K c < cn
      · rw [if_pos z, if_pos (show (1 : Int64).toInt ≤ ((sC K c : Nat) : Int) ∧ ((sC K c : Nat) : Int) ≤ ((cn - 1 : Nat) : Int) from ⟨by show (1 : Int) ≤ _; omega, by omega⟩)]
      · rw [if_neg z, if_neg (fun y => z ⟨by have y1 : (1 : Int) ≤ ((sC K c : Nat) : Int) := y.1; omega, by omega⟩)]
    have hskip : (¬ (1 ≤ sC K c ∧ sC K c < cn) ∨ ¬ Q c) → (∃ cm : Nat, (nI cn) = nI cm ∧ ((best = -1 ∧ cm = 8 + 1 ∧ ∀ x, x < (c + 1) → 1 ≤ sC K x → sC K x ≤ 8 → ¬ Q x) ∨ ∃ b : Nat, b < (c + 1) ∧ best = nI b ∧ cm = sC K b ∧ 1 ≤ sC K b ∧ sC K b ≤ 8 ∧ Q b ∧ ∀ x, x < (c + 1) → 1 ≤ sC K x → sC K x ≤ 8 → Q x → sC K b < sC K x ∨ (sC K b = sC K x ∧ b ≤ x))) := fun hz => by
      refine ⟨cn, rfl, ?_⟩
      rcases hI with ⟨h1, h2, h3⟩ | ⟨b, h1, h2, h3, h4, h5, h6, h7⟩
      · refine .inl ⟨h1, h2, fun x hx hx1 hx2 hQ => ?_⟩
        by_cases e : x = c
        · subst e
          rcases hz with hz | hz
          · exact hz ⟨hx1, by omega⟩
          · exact hz hQ
        · exact h3 x (by omega) hx1 hx2 hQ
      · refine .inr ⟨b, by omega, h2, h3, h4, h5, h6, fun x hx hx1 hx2 hQ => ?_⟩
        by_cases e : x = c
        · subst e
          rcases hz with hz | hz
          · omega
          · exact absurd hQ hz
        · exact h7 x (by omega) hx1 hx2 hQ
    by_cases q : 1 ≤ sC K c ∧ sC K c < cn
    · rw [hin, bd_s, if_pos q, if_neg (show ¬ (1 : Int32) = 0 by decide)]
      by_cases hQ : Q c
      · obtain ⟨w', t1, t2⟩ := (hT c g1 w (by omega) e2 hw).1 hQ
        rw [t1, bd_s]
        dsimp only
        rw [if_neg (show ¬ (1 : Int32) = 0 by decide), lt_e, nI_1]
        refine ih (c + 1) f (nI c) (nI (sC K c)) g1 w' (by omega) (by omega) t2 ⟨sC K c, rfl, .inr ⟨c, by omega, rfl, rfl, q.1, ?_, hQ, fun x hx hx1 hx2 hQx => ?_⟩⟩
        · rcases hI with ⟨-, h2, -⟩ | ⟨b, -, -, h3, -, h5, -, -⟩ <;> omega
        · by_cases e : x = c
          · subst e; exact .inr ⟨rfl, Nat.le_refl _⟩
          · rcases hI with ⟨-, -, h3⟩ | ⟨b, -, -, h3, -, -, -, h7⟩
            · exact absurd hQx (h3 x (by omega) hx1 hx2)
            · have := h7 x (by omega) hx1 hx2 hQx
              omega
      · obtain ⟨w', t1, t2⟩ := (hT c g1 w (by omega) e2 hw).2 hQ
        rw [t1, bd_s]
        dsimp only
        rw [if_pos (show (0 : Int32) = 0 from rfl), lt_e, nI_1]
        exact ih (c + 1) f best (nI cn) g1 w' (by omega) (by omega) t2 (hskip (.inr hQ))
    · rw [hin, bd_s, if_neg q, if_pos (show (0 : Int32) = 0 from rfl), lt_e, nI_1]
      exact ih (c + 1) f best (nI cn) g1 w (by omega) (by omega) hw (hskip (.inl q))
set_option maxHeartbeats 4000000 in
theorem m_fill (N : Nat) (hN : 100 ≤ N) {K : Nat} (hK : K ≤ 5) {Q : Nat → Prop} {mcol mkind mcoins mvalue mweight w0 : Nat → Int32} {bm : Int32} (x1 : Int32) (hT : ∀ (c : Nat) (fo w : Nat → Int32), c < 9 ^ K → (∀ k, k < K → fo k = nI (rowC K c k)) → (∀ j, (j < 60 ∨ 120 ≤ j) → w j = w0 j) → (Q c → ∃ w', fX8_serves N (nI K) bm w fo mcol mkind mcoins mweight mvalue = some (1, w') ∧ (∀ j, (j < 60 ∨ 120 ≤ j) → w' j = w0 j)) ∧ (¬ Q c → ∃ w', fX8_serves N (nI K) bm w fo mcol mkind mcoins mweight mvalue = some (0, w') ∧ (∀ j, (j < 60 ∨ 120 ≤ j) → w' j = w0 j))) : ∀ (d c f : Nat) (best cs : Int32) (g w : Nat → Int32), c + d = 9 ^ K → d < f → (∀ j, (j < 60 ∨ 120 ≤ j) → w j = w0 j) → (∃ cm : Nat, cs = nI cm ∧ ((best = -1 ∧ cm = 5 + 1 ∧ ∀ x, x < c → 0 ≤ sC K x → sC K x ≤ 5 → ¬ Q x) ∨ ∃ b : Nat, b < c ∧ best = nI b ∧ cm = sC K b ∧ 0 ≤ sC K b ∧ sC K b ≤ 5 ∧ Q b ∧ ∀ x, x < c → 0 ≤ sC K x → sC K x ≤ 5 → Q x → sC K b < sC K x ∨ (sC K b = sC K x ∧ b ≤ x))) → ∃ (best' : Int32) (g' w' : Nat → Int32), fX8_fill_L24 N f x1 best cs (nI c) (nI K) bm g w mcol mkind mcoins mweight mvalue = some (best', g', w') ∧ (∀ j, (j < 60 ∨ 120 ≤ j) → w' j = w0 j) ∧ ((best' = -1 ∧ ∀ x, x < 9 ^ K → 0 ≤ sC K x → sC K x ≤ 5 → ¬ Q x) ∨ ∃ b : Nat, b < 9 ^ K ∧ best' = nI b ∧ 0 ≤ sC K b ∧ sC K b ≤ 5 ∧ Q b ∧ ∀ x, x < 9 ^ K → 0 ≤ sC K x → sC K x ≤ 5 → Q x → sC K b < sC K x ∨ (sC K b = sC K x ∧ b ≤ x)) := by
  have h9 := p9 hK
  intro d
  induction d with
  | zero =>
    intro c f best cs g w hc hf hw hI
    obtain ⟨f, rfl⟩ : ∃ g, f = g + 1 := ⟨f - 1, by omega⟩
    refine ⟨best, g, w, ?_, hw, ?_⟩
    · rw [fX8_fill_L24_s, m_codes N (by omega) hK, bd_s, if_pos (nI_le (by omega) (by omega))]
    · obtain ⟨cn, -, hI⟩ := hI
      rw [show c = 9 ^ K by omega] at hI
      rcases hI with ⟨h1, -, h2⟩ | ⟨b, h1, h2, -, h3⟩
      · exact .inl ⟨h1, h2⟩
      · exact .inr ⟨b, h1, h2, h3⟩
  | succ d ih =>
    intro c f best cs g w hc hf hw hI
    obtain ⟨f, rfl⟩ : ∃ g, f = g + 1 := ⟨f - 1, by omega⟩
    obtain ⟨cn, rfl, hI⟩ := hI
    obtain ⟨g1, e1, e2⟩ := m_lay N (by omega) hK (c := c) (by omega) g
    have hs40 : sC K c ≤ 8 * K := sumG_le (fun k => rowC_le K c k) K 0
    have hcn1 : 0 ≤ cn ∧ cn ≤ 9 := by
      rcases hI with ⟨-, h1, -⟩ | ⟨b, -, -, h1, h2, h3, -⟩
      · omega
      · omega
    obtain ⟨hcn1, hcn9⟩ := hcn1
    rw [fX8_fill_L24_s, m_codes N (by omega) hK, bd_s, if_neg (nI_ge (by omega) (by omega)), e1, bd_s]
    dsimp only
    have tst : ∀ (go : Bool), go = go := fun _ => rfl
    have hle : nI cn ≤ nI (sC K c) ↔ ¬ (0 ≤ sC K c ∧ sC K c < cn) := by
      rw [s_le (by omega) (by omega)]; omega
    have hskip : (¬ (0 ≤ sC K c ∧ sC K c < cn) ∨ ¬ Q c) → (∃ cm : Nat, (nI cn) = nI cm ∧ ((best = -1 ∧ cm = 5 + 1 ∧ ∀ x, x < (c + 1) → 0 ≤ sC K x → sC K x ≤ 5 → ¬ Q x) ∨ ∃ b : Nat, b < (c + 1) ∧ best = nI b ∧ cm = sC K b ∧ 0 ≤ sC K b ∧ sC K b ≤ 5 ∧ Q b ∧ ∀ x, x < (c + 1) → 0 ≤ sC K x → sC K x ≤ 5 → Q x → sC K b < sC K x ∨ (sC K b = sC K x ∧ b ≤ x))) := fun hz => by
      refine ⟨cn, rfl, ?_⟩
      rcases hI with ⟨h1, h2, h3⟩ | ⟨b, h1, h2, h3, h4, h5, h6, h7⟩
      · refine .inl ⟨h1, h2, fun x hx hx1 hx2 hQ => ?_⟩
        by_cases e : x = c
        · subst e
          rcases hz with hz | hz
          · exact hz ⟨hx1, by omega⟩
          · exact hz hQ
        · exact h3 x (by omega) hx1 hx2 hQ
      · refine .inr ⟨b, by omega, h2, h3, h4, h5, h6, fun x hx hx1 hx2 hQ => ?_⟩
        by_cases e : x = c
        · subst e
          rcases hz with hz | hz
          · omega
          · exact absurd hQ hz
        · exact h7 x (by omega) hx1 hx2 hQ
    by_cases q : 0 ≤ sC K c ∧ sC K c < cn
    · rw [if_neg (fun z => hle.mp z q)]
      by_cases hQ : Q c
      · obtain ⟨w', t1, t2⟩ := (hT c g1 w (by omega) e2 hw).1 hQ
        rw [t1, bd_s]
        dsimp only
        rw [if_neg (show ¬ (1 : Int32) = 0 by decide), lt_e, nI_1]
        refine ih (c + 1) f (nI c) (nI (sC K c)) g1 w' (by omega) (by omega) t2 ⟨sC K c, rfl, .inr ⟨c, by omega, rfl, rfl, q.1, ?_, hQ, fun x hx hx1 hx2 hQx => ?_⟩⟩
        · rcases hI with ⟨-, h2, -⟩ | ⟨b, -, -, h3, -, h5, -, -⟩ <;> omega
        · by_cases e : x = c
          · subst e; exact .inr ⟨rfl, Nat.le_refl _⟩
          · rcases hI with ⟨-, -, h3⟩ | ⟨b, -, -, h3, -, -, -, h7⟩
            · exact absurd hQx (h3 x (by omega) hx1 hx2)
            · have := h7 x (by omega) hx1 hx2 hQx
              omega
      · obtain ⟨w', t1, t2⟩ := (hT c g1 w (by omega) e2 hw).2 hQ
        rw [t1, bd_s]
        dsimp only
        rw [if_pos (show (0 : Int32) = 0 from rfl), lt_e, nI_1]
        exact ih (c + 1) f best (nI cn) g1 w' (by omega) (by omega) t2 (hskip (.inr hQ))
    · rw [if_pos (hle.mpr q), lt_e, nI_1]
      exact ih (c + 1) f best (nI cn) g1 w (by omega) (by omega) hw (hskip (.inl q))
