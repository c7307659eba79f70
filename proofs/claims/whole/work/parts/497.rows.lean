/-! rows of coins as codes -/
def rowC (K c k : Nat) : Nat := if k < K then 8 - c / 9 ^ (K - 1 - k) % 9 else 0
def sumG (r : Nat → Nat) : Nat → Nat → Nat
  | 0, _ => 0
  | n + 1, i => r i + sumG r n (i + 1)
def sC (K c : Nat) : Nat := sumG (rowC K c) K 0
def clL : Nat → Nat → List Nat
  | 0, t => if t = 0 then [0] else []
  | K + 1, t => (List.range (t + 1)).flatMap (fun e => (clL K e).map (fun c => (8 - t + e) * 9 ^ K + c))
def nxtD (r : Nat → Nat) : Nat → Option Nat
  | 0 => none
  | j + 1 => if r j = 0 then nxtD r j else some j
def nxtR (K : Nat) (r : Nat → Nat) : Option (Nat → Nat) := if K < 2 then none else (nxtD r (K - 1)).map (fun k0 j => if j = k0 + 1 then r (K - 1) + 1 else if j = k0 then r k0 - 1 else if j = K - 1 then 0 else r j)
def eqR (f g : Nat → Nat) : Bool := decide (f 0 = g 0) && decide (f 1 = g 1) && decide (f 2 = g 2) && decide (f 3 = g 3) && decide (f 4 = g 4)
def eqO (o : Option (Nat → Nat)) (g : Nat → Nat) : Bool := o.any (fun f => eqR f g)
def okL (K : Nat) : List Nat → Bool
  | [] => true
  | [c] => (nxtR K (rowC K c)).isNone
  | c :: c' :: rest => eqO (nxtR K (rowC K c)) (rowC K c') && decide (c < c') && okL K (c' :: rest)
def goodL (K t : Nat) : Bool := okL K (clL K t) && decide ((clL K t).length ≤ 500) && (clL K t).all (fun c => decide (c < 9 ^ K) && decide (sC K c = t)) && (if K = 0 ∧ t ≠ 0 then (clL K t).isEmpty else (clL K t).head?.any (fun c => eqR (rowC K c) (fun j => if j = 0 then (if K = 0 then 0 else t) else 0)))
set_option maxRecDepth 100000 in
theorem goodAll : ∀ K : Fin 6, ∀ t : Fin 9, goodL K.val t.val = true := by decide +kernel
theorem eqR_t {f g : Nat → Nat} (h : eqR f g = true) : ∀ k, k < 5 → f k = g k := by
  unfold eqR at h
  simp only [Bool.and_eq_true, decide_eq_true_eq] at h
  obtain ⟨⟨⟨⟨h0, h1⟩, h2⟩, h3⟩, h4⟩ := h
  intro k hk
  rcases (show k = 0 ∨ k = 1 ∨ k = 2 ∨ k = 3 ∨ k = 4 by omega) with rfl | rfl | rfl | rfl | rfl
  · exact h0
  · exact h1
  · exact h2
  · exact h3
  · exact h4
theorem rowC_le (K c k : Nat) : rowC K c k ≤ 8 := by
  unfold rowC
  by_cases q : k < K
  · rw [if_pos q]; exact Nat.sub_le _ _
  · rw [if_neg q]; exact Nat.zero_le _
theorem dm9 {c K m : Nat} (h : m < K) : (c % 9 ^ K) / 9 ^ m % 9 = c / 9 ^ m % 9 := by
  have e : 9 ^ K = 9 ^ m * 9 ^ (K - m) := by rw [← Nat.pow_add]; congr 1; omega
  rw [e, Nat.mod_mul_right_div_self, Nat.mod_mod_of_dvd]
  exact ⟨9 ^ (K - m - 1), by rw [← Nat.pow_succ']; congr 1; omega⟩
theorem sumG_cong {r q : Nat → Nat} : ∀ (n i j : Nat), (∀ k, k < n → r (i + k) = q (j + k)) → sumG r n i = sumG q n j := by
  intro n
  induction n with
  | zero => intro i j _; rfl
  | succ n ih =>
    intro i j h
    show r i + sumG r n (i + 1) = q j + sumG q n (j + 1)
    have h0 : r i = q j := h 0 (by omega)
    rw [h0, ih (i + 1) (j + 1) (fun k hk => by
      have := h (k + 1) (by omega)
      rw [show i + 1 + k = i + (k + 1) by omega, show j + 1 + k = j + (k + 1) by omega]
      exact this)]
theorem mem_cl : ∀ (K t c : Nat), c < 9 ^ K → sC K c = t → t ≤ 8 → c ∈ clL K t := by
  intro K
  induction K with
  | zero =>
    intro t c hc hs ht
    have hs : 0 = t := hs
    have hc : c < 1 := hc
    subst hs
    have : c = 0 := by omega
    subst this
    show 0 ∈ (if (0 : Nat) = 0 then [0] else [])
    rw [if_pos rfl]
    exact List.mem_singleton.mpr rfl
  | succ K ih =>
    intro t c hc hs ht
    have hp : 0 < 9 ^ K := Nat.pow_pos (by decide)
    have hq : c / 9 ^ K < 9 := Nat.div_lt_of_lt_mul (by rw [Nat.pow_succ] at hc; exact hc)
    have e0 : rowC (K + 1) c 0 = 8 - c / 9 ^ K := by
      unfold rowC
      rw [if_pos (by omega), show K + 1 - 1 - 0 = K by omega, Nat.mod_eq_of_lt hq]
    have e1 : sumG (rowC (K + 1) c) K 1 = sC K (c % 9 ^ K) := by
      unfold sC
      refine sumG_cong K 1 0 (fun k hk => ?_)
      unfold rowC
      rw [if_pos (by omega), if_pos (by omega), show K + 1 - 1 - (1 + k) = K - 1 - (0 + k) by omega, dm9 (by omega)]
    have hs2 : rowC (K + 1) c 0 + sumG (rowC (K + 1) c) K 1 = t := hs
    rw [e0, e1] at hs2
    show c ∈ (List.range (t + 1)).flatMap (fun e => (clL K e).map (fun c => (8 - t + e) * 9 ^ K + c))
    refine List.mem_flatMap.mpr ⟨sC K (c % 9 ^ K), List.mem_range.mpr (by omega), List.mem_map.mpr ⟨c % 9 ^ K, ih _ _ (Nat.mod_lt _ hp) rfl (by omega), ?_⟩⟩
    rw [show 8 - t + sC K (c % 9 ^ K) = c / 9 ^ K by omega]
    exact Nat.div_add_mod' _ _
theorem okL_lt {K : Nat} : ∀ (L : List Nat) (c : Nat), okL K (c :: L) = true → ∀ x, x ∈ L → c < x := by
  intro L
  induction L with
  | nil => intro c _ x hx; exact absurd hx List.not_mem_nil
  | cons c' L ih =>
    intro c h x hx
    have h2 : (eqO (nxtR K (rowC K c)) (rowC K c') && decide (c < c') && okL K (c' :: L)) = true := h
    simp only [Bool.and_eq_true, decide_eq_true_eq] at h2
    rcases List.mem_cons.mp hx with rfl | hx
    · exact h2.1.2
    · exact Nat.lt_trans h2.1.2 (ih c' h2.2 x hx)
/-- what goodAll gives for a total -/
theorem good_t {K t : Nat} (hK : K ≤ 5) (ht : t ≤ 8) : okL K (clL K t) = true ∧ (clL K t).length ≤ 500 ∧ (∀ c, c ∈ clL K t → c < 9 ^ K ∧ sC K c = t) ∧ (K = 0 → t ≠ 0 → clL K t = []) ∧ (¬ (K = 0 ∧ t ≠ 0) → ∃ c rest, clL K t = c :: rest ∧ ∀ k, k < 5 → rowC K c k = if k = 0 then (if K = 0 then 0 else t) else 0) := by
  have h : goodL K t = true := goodAll ⟨K, by omega⟩ ⟨t, by omega⟩
  unfold goodL at h
  simp only [Bool.and_eq_true, decide_eq_true_eq, List.all_eq_true] at h
  obtain ⟨⟨⟨h1, h2⟩, h3⟩, h4⟩ := h
  refine ⟨h1, h2, fun c hc => h3 c hc, fun q1 q2 => ?_, fun q => ?_⟩
  · rw [if_pos ⟨q1, q2⟩] at h4
    exact List.isEmpty_iff.mp h4
  · rw [if_neg q] at h4
    cases hl : clL K t with
    | nil => rw [hl] at h4; exact absurd h4 Bool.false_ne_true
    | cons c rest =>
      rw [hl] at h4
      exact ⟨c, rest, rfl, eqR_t h4⟩
/-! the class's next row -/
theorem nxtD_cong {r q : Nat → Nat} : ∀ j, (∀ k, k < j → r k = q k) → nxtD r j = nxtD q j := by
  intro j
  induction j with
  | zero => intro _; rfl
  | succ j ih =>
    intro h
    show (if r j = 0 then nxtD r j else some j) = (if q j = 0 then nxtD q j else some j)
    rw [h j (by omega), ih (fun k hk => h k (by omega))]
theorem nx_L (N : Nat) {r : Nat → Nat} {coins : Nat → Int32} (hr : ∀ k, k < 5 → coins k = nI (r k) ∧ r k ≤ 100) (b : Int32) : ∀ (j f : Nat), j ≤ 4 → j < f → (nxtD r j = none → fX3_next_L41 N f b (nI j + (-1)) coins = some (.inl ())) ∧ (∀ k0, nxtD r j = some k0 → k0 < j ∧ fX3_next_L41 N f b (nI j + (-1)) coins = some (.inr (1, upd (upd coins k0 (nI (r k0 - 1))) (k0 + 1) (b + 1)))) := by
  intro j
  induction j with
  | zero =>
    intro f hj hf
    obtain ⟨f, rfl⟩ : ∃ g, f = g + 1 := ⟨f - 1, by omega⟩
    refine ⟨fun _ => ?_, fun k0 h => by cases h⟩
    rw [fX3_next_L41_s, if_pos (show nI 0 + (-1) < 0 by decide)]
  | succ j ih =>
    intro f hj hf
    obtain ⟨f, rfl⟩ : ∃ g, f = g + 1 := ⟨f - 1, by omega⟩
    obtain ⟨e1, e2⟩ := hr j (by omega)
    obtain ⟨h1, h2⟩ := ih f (by omega) (by omega)
    have hd : nxtD r (j + 1) = if r j = 0 then nxtD r j else some j := rfl
    rw [hd, fX3_next_L41_s, dn_1, if_neg (nI_pos (by omega)), ck_nI (by omega) (by decide), nI_clamp (by omega), e1]
    by_cases q : r j = 0
    · rw [if_pos q, if_pos (show nI (r j) ≤ 0 from by rw [q]; decide), lt_e]
      exact ⟨h1, fun k0 z => ⟨Nat.lt_succ_of_lt (h2 k0 z).1, (h2 k0 z).2⟩⟩
    · rw [if_neg q, if_neg (nI_nle (by omega) (by omega)), lt_e, lt_e, nI_1, ck_nI (by omega) (by decide), nI_clamp (by omega), s_sub1 (by omega)]
      refine ⟨fun z => (by cases z), fun k0 z => ?_⟩
      cases z
      exact ⟨Nat.lt_succ_self _, rfl⟩
theorem x_next (N : Nat) (hN : 10 ≤ N) {K : Nat} (hK : K ≤ 5) {r : Nat → Nat} {coins : Nat → Int32} (hr : ∀ k, k < 5 → coins k = nI (r k) ∧ r k ≤ 100) : (nxtR K r = none → ∃ g, fX3_next N (nI K) coins = some (0, g)) ∧ (∀ r', nxtR K r = some r' → ∃ g, fX3_next N (nI K) coins = some (1, g) ∧ ∀ k, k < 5 → g k = nI (r' k)) := by
  unfold fX3_next nxtR
  by_cases q : K < 2
  · rw [if_pos q, if_neg (show ¬ (2 : Int32) ≤ nI K from fun z => by have := (s_le (a := 2) (by decide) (by omega)).mp z; omega)]
    exact ⟨fun _ => ⟨_, rfl⟩, fun r' h => by cases h⟩
  · have hd : nxtD (fun k => if k = K - 1 then 0 else r k) (K - 1) = nxtD r (K - 1) := nxtD_cong _ (fun k hk => by
      show (if k = K - 1 then 0 else r k) = r k
      rw [if_neg (by omega)])
    obtain ⟨h1, h2⟩ := nx_L N (r := fun k => if k = K - 1 then 0 else r k) (coins := upd coins (K - 1) 0) (fun k hk => by
      by_cases e : k = K - 1
      · rw [e, upd_at]
        show (0 : Int32) = nI (if K - 1 = K - 1 then 0 else r (K - 1)) ∧ (if K - 1 = K - 1 then 0 else r (K - 1)) ≤ 100
        rw [if_pos rfl]
        exact ⟨rfl, by omega⟩
      · rw [upd_ne e]
        show coins k = nI (if k = K - 1 then 0 else r k) ∧ (if k = K - 1 then 0 else r k) ≤ 100
        rw [if_neg e]
        exact hr k hk) (nI (r (K - 1))) (K - 1) N (by omega) (by omega)
    rw [hd] at h1 h2
    have es : nI K - 2 = nI (K - 1) + (-1) := by
      rw [show nI K - 2 = nI (K - 2) from s_sub (b := 2) (by omega), show K - 1 = K - 2 + 1 by omega, dn_1]
    rw [if_neg q, if_pos (show (2 : Int32) ≤ nI K from (s_le (a := 2) (by decide) (by omega)).mpr (by omega)), s_sub1 (by omega), ck_nI (by omega) (by decide), nI_clamp (by omega), (hr (K - 1) (by omega)).1, lt_e, es, lt_e]
    cases hn : nxtD r (K - 1) with
    | none =>
      rw [h1 hn, bd_s]
      exact ⟨fun _ => ⟨_, rfl⟩, fun r' h => by cases h⟩
    | some k0 =>
      obtain ⟨hk0, e⟩ := h2 k0 hn
      rw [e, bd_s]
      refine ⟨fun h => (by cases h), fun r' h => ⟨_, rfl, fun k hk => ?_⟩⟩
      cases h
      show upd (upd (upd coins (K - 1) 0) k0 (nI ((if k0 = K - 1 then 0 else r k0) - 1))) (k0 + 1) (nI (r (K - 1)) + 1) k = nI (if k = k0 + 1 then r (K - 1) + 1 else if k = k0 then r k0 - 1 else if k = K - 1 then 0 else r k)
      rw [if_neg (show ¬ k0 = K - 1 by omega), nI_1]
      by_cases e1 : k = k0 + 1
      · rw [if_pos e1, e1, upd_at]
      · rw [if_neg e1, upd_ne e1]
        by_cases e2 : k = k0
        · rw [if_pos e2, e2, upd_at]
        · rw [if_neg e2, upd_ne e2]
          by_cases e3 : k = K - 1
          · rw [if_pos e3, e3, upd_at]; rfl
          · rw [if_neg e3, upd_ne e3]; exact (hr k hk).1
theorem st_L (N : Nat) (x2 : Int32) : ∀ (d i f : Nat) (g : Nat → Int32), i + d = 5 → d < f → ∃ g', fX3_start_L16 N f x2 (nI i) g = some g' ∧ ∀ k, k < 5 → g' k = if i ≤ k then 0 else g k := by
  intro d
  induction d with
  | zero =>
    intro i f g hi hf
    obtain ⟨f, rfl⟩ : ∃ g, f = g + 1 := ⟨f - 1, by omega⟩
    refine ⟨g, ?_, fun k hk => by rw [if_neg (by omega)]⟩
    rw [fX3_start_L16_s, if_pos (show (5 : Int32) ≤ nI i from (s_le (a := 5) (by decide) (by omega)).mpr (by omega))]
  | succ d ih =>
    intro i f g hi hf
    obtain ⟨f, rfl⟩ : ∃ g, f = g + 1 := ⟨f - 1, by omega⟩
    obtain ⟨g', e1, e2⟩ := ih (i + 1) f (upd g i 0) (by omega) (by omega)
    refine ⟨g', ?_, fun k hk => ?_⟩
    · rw [fX3_start_L16_s, if_neg (show ¬ (5 : Int32) ≤ nI i from fun z => by have := (s_le (a := 5) (by decide) (by omega)).mp z; omega), ck_nI (by omega) (by decide), lt_e, nI_1, nI_clamp (by omega)]
      exact e1
    · rw [e2 k hk]
      by_cases q : k = i
      · subst q; rw [if_neg (by omega), if_pos (by omega), upd_at]
      · rw [upd_ne q]
        by_cases q2 : i + 1 ≤ k
        · rw [if_pos q2, if_pos (by omega)]
        · rw [if_neg q2, if_neg (by omega)]
theorem x_start (N : Nat) (hN : 10 ≤ N) {K t : Nat} (hK : K ≤ 5) (ht : t ≤ 8) (w0 t0 : Int32) (coins : Nat → Int32) : ∃ (more : Int32) (g : Nat → Int32), fX3_start N w0 t0 coins (nI K) (nI t) = some (more, nI K, nI t, g) ∧ (K = 0 ∧ t ≠ 0 → more = 0) ∧ (¬ (K = 0 ∧ t ≠ 0) → more = 1) ∧ ∀ k, k < 5 → g k = nI (if k = 0 then (if K = 0 then 0 else t) else 0) := by
  obtain ⟨g, e1, e2⟩ := st_L N (nI t) 5 0 N coins (by omega) (by omega)
  have e0 : ∀ k, k < 5 → g k = 0 := fun k hk => by rw [e2 k hk, if_pos (Nat.zero_le _)]
  unfold fX3_start
  rw [if_neg (show ¬ (5 : Int32) < nI K from fun z => by have := (s_lt (a := 5) (by decide) (by omega)).mp z; omega), lt_e, show fX3_start_L16 N N (nI t) 0 coins = _ from e1, bd_s]
  by_cases q : K = 0
  · subst q
    rw [if_pos (show nI 0 ≤ 0 by decide), if_neg (show ¬ (0 : Int32) < nI 0 by decide)]
    have eg : ∀ k, k < 5 → g k = nI (if k = 0 then (if (0 : Nat) = 0 then 0 else t) else 0) := by
      intro k hk
      rw [e0 k hk, if_pos rfl]
      by_cases z : k = 0
      · rw [if_pos z]; rfl
      · rw [if_neg z]; rfl
    by_cases q2 : t = 0
    · rw [if_pos (show nI t = 0 from by rw [q2]; rfl)]
      exact ⟨1, g, rfl, fun z => absurd q2 z.2, fun _ => rfl, eg⟩
    · rw [if_neg (nI_ne0 (by omega) (by omega))]
      exact ⟨0, g, rfl, fun _ => rfl, fun z => absurd ⟨rfl, q2⟩ z, eg⟩
  · rw [if_neg (nI_nle (by omega) (by omega)), ck_at (i := 0) (j := 0) rfl (by decide) (by decide), if_pos (show (0 : Int32) < nI K from (s_lt (a := 0) (by decide) (by omega)).mpr (by omega))]
    refine ⟨1, _, rfl, fun z => absurd z.1 q, fun _ => rfl, fun k hk => ?_⟩
    show upd g 0 (nI t) k = _
    by_cases z : k = 0
    · rw [if_pos z, if_neg q, z, upd_at]
    · rw [if_neg z, upd_ne z, e0 k hk]; rfl
/-! the reference's row of a code -/
theorem p9 {K : Nat} (hK : K ≤ 5) : 9 ^ K ≤ 59049 := Nat.pow_le_pow_right (n := 9) (by decide) hK
theorem sumG_le {r : Nat → Nat} (hr : ∀ k, r k ≤ 8) : ∀ n i, sumG r n i ≤ 8 * n := by
  intro n
  induction n with
  | zero => intro i; exact Nat.le_refl _
  | succ n ih =>
    intro i
    show r i + sumG r n (i + 1) ≤ 8 * (n + 1)
    have h1 := hr i
    have h2 := ih (i + 1)
    omega
theorem lay_L (N : Nat) {K c : Nat} (hK : K ≤ 5) (hc : c < 9 ^ K) : ∀ (j f : Nat) (g : Nat → Int32), j ≤ K → j < f → (∀ k, j ≤ k → k < K → g k = nI (rowC K c k)) → ∃ g', fX8_layRow_L12 N f (nI (c / 9 ^ (K - j))) (nI (sumG (rowC K c) (K - j) j)) (nI j + (-1)) g = some (nI (sC K c), g') ∧ ∀ k, k < K → g' k = nI (rowC K c k) := by
  have hc5 := p9 hK
  intro j
  induction j with
  | zero =>
    intro f g hj hf hg
    obtain ⟨f, rfl⟩ : ∃ g, f = g + 1 := ⟨f - 1, by omega⟩
    refine ⟨g, ?_, fun k hk => hg k (Nat.zero_le _) hk⟩
    rw [fX8_layRow_L12_s, if_pos (show nI 0 + (-1) < 0 by decide)]
    rfl
  | succ j ih =>
    intro f g hj hf hg
    obtain ⟨f, rfl⟩ : ∃ g, f = g + 1 := ⟨f - 1, by omega⟩
    have hq : c / 9 ^ (K - (j + 1)) ≤ c := Nat.div_le_self _ _
    have hrow : rowC K c j = 8 - c / 9 ^ (K - (j + 1)) % 9 := by
      unfold rowC
      rw [if_pos (by omega), show K - 1 - j = K - (j + 1) by omega]
    have hm : (nI (c / 9 ^ (K - (j + 1))) - nI (c / 9 ^ (K - (j + 1))) / 9 * 9 : Int32) = nI (c / 9 ^ (K - (j + 1)) % 9) := by
      rw [show nI (c / 9 ^ (K - (j + 1))) / 9 = nI (c / 9 ^ (K - (j + 1)) / 9) from s_div (b := 9) (by omega) (by decide), show nI (c / 9 ^ (K - (j + 1)) / 9) * 9 = nI (c / 9 ^ (K - (j + 1)) / 9 * 9) from s_mul _ 9, s_sub (Nat.div_mul_le_self _ _), Nat.mul_comm, ← Nat.mod_def]
    have hml : c / 9 ^ (K - (j + 1)) % 9 < 9 := Nat.mod_lt _ (by decide)
    have e8 : (8 : Int32) - nI (c / 9 ^ (K - (j + 1)) % 9) = nI (rowC K c j) := by
      rw [hrow]
      exact s_sub (a := 8) (by omega)
    have ediv : nI (c / 9 ^ (K - (j + 1))) / 9 = nI (c / 9 ^ (K - j)) := by
      rw [show nI (c / 9 ^ (K - (j + 1))) / 9 = nI (c / 9 ^ (K - (j + 1)) / 9) from s_div (b := 9) (by omega) (by decide), Nat.div_div_eq_div_mul, ← Nat.pow_succ, show (K - (j + 1)).succ = K - j by omega]
    have esum : nI (sumG (rowC K c) (K - (j + 1)) (j + 1)) + nI (rowC K c j) = nI (sumG (rowC K c) (K - j) j) := by
      rw [nI_add, show K - j = (K - (j + 1)) + 1 by omega]
      show _ = nI (rowC K c j + sumG (rowC K c) (K - (j + 1)) (j + 1))
      rw [Nat.add_comm]
    obtain ⟨g', e1, e2⟩ := ih f (upd g j (nI (rowC K c j))) (by omega) (by omega) (fun k hk hk2 => by
      by_cases q : k = j
      · rw [q, upd_at]
      · rw [upd_ne q]; exact hg k (by omega) hk2)
    refine ⟨g', ?_, e2⟩
    rw [fX8_layRow_L12_s, dn_1, if_neg (nI_pos (by omega)), hm, e8, lt_e, ck_nI (by omega) (by decide), ediv, lt_e, nI_clamp (by omega), upd_at, esum, lt_e, lt_e]
    exact e1
theorem m_lay (N : Nat) (hN : 10 ≤ N) {K c : Nat} (hK : K ≤ 5) (hc : c < 9 ^ K) (g : Nat → Int32) : ∃ g', fX8_layRow N (nI K) g (nI c) = some (nI (sC K c), g') ∧ ∀ k, k < K → g' k = nI (rowC K c k) := by
  obtain ⟨g', e1, e2⟩ := lay_L N hK hc K N g (Nat.le_refl _) (by omega) (fun k h1 h2 => by omega)
  rw [Nat.sub_self] at e1
  rw [show c / 9 ^ 0 = c by rw [Nat.pow_zero, Nat.div_one]] at e1
  refine ⟨g', ?_, e2⟩
  unfold fX8_layRow
  rw [lt_e, show nI K - 1 = nI K + (-1) from Int32.sub_eq_add_neg _ _, show fX8_layRow_L12 N N (nI c) 0 (nI K + (-1)) g = _ from e1, bd_s]
theorem m_codes (N : Nat) (hN : 10 ≤ N) {K : Nat} (hK : K ≤ 5) : fX8_codes N (nI K) = some (nI (9 ^ K)) := by
  have L : ∀ (d i f : Nat), i + d = K → d < f → fX8_codes_L4 N f (nI (9 ^ i)) (nI i) (nI K) = some (nI (9 ^ K)) := by
    intro d
    induction d with
    | zero =>
      intro i f hi hf
      obtain ⟨f, rfl⟩ : ∃ g, f = g + 1 := ⟨f - 1, by omega⟩
      rw [fX8_codes_L4_s, if_pos (nI_le (by omega) (by omega)), show i = K by omega]
    | succ d ih =>
      intro i f hi hf
      obtain ⟨f, rfl⟩ : ∃ g, f = g + 1 := ⟨f - 1, by omega⟩
      rw [fX8_codes_L4_s, if_neg (nI_ge (by omega) (by omega)), show nI (9 ^ i) * 9 = nI (9 ^ i * 9) from s_mul _ 9, ← Nat.pow_succ, lt_e, lt_e, nI_1]
      exact ih (i + 1) f (by omega) (by omega)
  unfold fX8_codes
  rw [show fX8_codes_L4 N N 1 0 (nI K) = _ from L K 0 N (by omega) (by omega), bd_s]
/-! the least: two ways of finding -/
theorem pick {V P Q : Nat → Prop} {s : Nat → Nat} (hQP : ∀ c, V c → Q c → P c) (hPQ : ∀ c, V c → P c → ¬ Q c → ∃ c', V c' ∧ s c' < s c ∧ P c') {c : Nat} (hc : V c) (hP : P c) (hmin : ∀ x, V x → P x → s c < s x ∨ (s c = s x ∧ c ≤ x)) : Q c ∧ ∀ b, V b → Q b → (∀ x, V x → Q x → s b < s x ∨ (s b = s x ∧ b ≤ x)) → b = c := by
  have hQ : Q c := by
    refine Classical.byContradiction (fun z => ?_)
    obtain ⟨c', h1, h2, h3⟩ := hPQ c hc hP z
    have := hmin c' h1 h3
    omega
  refine ⟨hQ, fun b hb hQb hb2 => ?_⟩
  have h1 := hmin b hb (hQP b hb hQb)
  have h2 := hb2 c hc hQ
  omega
