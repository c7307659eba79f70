/-! a clause -/
def RDK (K : Nat) (value weight paid tube mv mw nt : Nat → Int32) : Prop := K ≤ 5 ∧ (∀ k, k < K → mv (5 + k) = value k ∧ isN (value k) 1 99 ∧ mw (5 + k) = weight k ∧ isN (weight k) 10 99 ∧ nt (5 + k) = tube k ∧ isN (tube k) 0 60) ∧ RPay K value paid
def RDC (C : Nat) (price low high goods wired stick kicks kcnt np nl nh ng : Nat → Int32) : Prop := C ≤ 5 ∧ ∀ c, c < C → (np (5 + c) = price c ∧ isN (price c) 1 99) ∧ (nl (5 + c) = low c ∧ isN (low c) 1 99) ∧ (nh (5 + c) = high c ∧ isN (high c) 1 99) ∧ (ng (5 + c) = goods c ∧ isN (goods c) 0 60) ∧ wired c = nI c ∧ stick c = 0 ∧ kicks c = 0 ∧ kcnt c = 0
def RDS (S : Nat) (slugW ms : Nat → Int32) : Prop := S ≤ 5 ∧ ∀ i, i < S → ms (5 + i) = slugW i ∧ isN (slugW i) 1 99
def RDA (K C S T : Nat) (rlen rhythm slugW price low high goods wired stick kicks kcnt tube value paid weight mr ml ms np nl nh ng mv mw nt : Nat → Int32) : Prop := RDK K value weight paid tube mv mw nt ∧ RDC C price low high goods wired stick kicks kcnt np nl nh ng ∧ RDS S slugW ms ∧ RDR C T rlen rhythm mr ml
theorem x_slug6 (N : Nat) (a t fa n : Int32) (fb slugW : Nat → Int32) : fX2_readSlug N a t 0 fa (nI 5) n fb slugW = some (a, t, 3, t, nI 5, slugW) := by
  unfold fX2_readSlug
  rw [ref_no, bd_s]
  dsimp only
  rw [xnum_f N (by decide), bd_s]
  dsimp only
  rw [xend_f N (by decide), bd_s]
  dsimp only
  rw [if_neg (show ¬ (3 : Int32) = 0 by decide)]
theorem le5 {K : Nat} (hK : K < 5) : ¬ (5 : Int32) ≤ nI K := fun z => by have := (s_le (a := 5) (by decide) (by omega)).mp z; omega
set_option maxHeartbeats 8000000 in
theorem t_clause (N : Nat) (hN : 1000 ≤ N) {n : Nat} {B : Nat → Nat} {fb tx : Nat → Int32} (h : TX n B fb tx) {i : Nat} (hi : i < n) {K C S T : Nat} (tok first len fa : Int32) {rlen rhythm slugW price low high goods wired stick kicks kcnt tube value paid weight mr ml ms np nl nh ng mv mw nt : Nat → Int32} (hR : RDA K C S T rlen rhythm slugW price low high goods wired stick kicks kcnt tube value paid weight mr ml ms np nl nh ng mv mw nt) : (∃ (fl fa' : Int32) (j j2 : Nat) (tok' fi' len' k' c' s' t' : Int32) (rlen' rhythm' slugW' price' low' high' goods' wired' stick' kicks' kcnt' tube' value' paid' weight' mr' ml' ms' np' nl' nh' ng' mv' mw' nt' : Nat → Int32), (fl = 1 ∨ fl = 2 ∨ fl = 3 ∨ fl = 4) ∧ j ≤ 1000 ∧ fX2_readClause N (nI i) tok 0 fa (nI n) fb (nI K) (nI C) (nI S) rlen rhythm slugW price low high goods wired stick kicks kcnt tube value paid weight = some (nI j, tok', fl, fa', nI K, nI C, nI S, rlen', rhythm', slugW', price', low', high', goods', wired', stick', kicks', kcnt', tube', value', paid', weight') ∧ fX8_takeClause N (nI K) (nI C) (nI S) (nI T) (nI n) (nI i) first len 0 fa tx mr ml ms np nl nh ng mv mw nt = some (k', c', s', t', nI j2, fi', len', fl, fa', mr', ml', ms', np', nl', nh', ng', mv', mw', nt') ∧ (∀ z, z < 5 → mr' z = mr z ∧ ml' z = ml z ∧ ms' z = ms z ∧ mv' z = mv z ∧ mw' z = mw z)) ∨ (∃ (i3 K' C' S' T' : Nat) (tok' fi' len' : Int32) (rlen' rhythm' slugW' price' low' high' goods' wired' stick' kicks' kcnt' tube' value' paid' weight' mr' ml' ms' np' nl' nh' ng' mv' mw' nt' : Nat → Int32), i < i3 ∧ i3 ≤ n ∧ RDA K' C' S' T' rlen' rhythm' slugW' price' low' high' goods' wired' stick' kicks' kcnt' tube' value' paid' weight' mr' ml' ms' np' nl' nh' ng' mv' mw' nt' ∧ fX8_takeClause N (nI K) (nI C) (nI S) (nI T) (nI n) (nI i) first len 0 fa tx mr ml ms np nl nh ng mv mw nt = some (nI K', nI C', nI S', nI T', nI i3, fi', len', 0, fa, mr', ml', ms', np', nl', nh', ng', mv', mw', nt') ∧ (∀ z, z < 5 → mr' z = mr z ∧ ml' z = ml z ∧ ms' z = ms z ∧ mv' z = mv z ∧ mw' z = mw z) ∧ (∀ j, fX2_takeEnd N (nI i3) 0 fa (nI n) fb = some (nI j, 0, fa) → fX2_readClause N (nI i) tok 0 fa (nI n) fb (nI K) (nI C) (nI S) rlen rhythm slugW price low high goods wired stick kicks kcnt tube value paid weight = some (nI j, tok', 0, fa, nI K', nI C', nI S', rlen', rhythm', slugW', price', low', high', goods', wired', stick', kicks', kcnt', tube', value', paid', weight')) ∧ (∀ (j : Nat) (fl fa' : Int32), ¬ fl = 0 → fX2_takeEnd N (nI i3) 0 fa (nI n) fb = some (nI j, fl, fa') → fX2_readClause N (nI i) tok 0 fa (nI n) fb (nI K) (nI C) (nI S) rlen rhythm slugW price low high goods wired stick kicks kcnt tube value paid weight = some (nI j, tok', fl, fa', nI K, nI C, nI S, rlen, rhythm, slugW, price, low, high, goods, wired, stick, kicks, kcnt, tube, value, paid, weight))) := by
  have hn := h.1
  obtain ⟨⟨hK5, hK1, hK2⟩, ⟨hC5, hC1⟩, ⟨hS5, hS1⟩, hRR⟩ := id hR
  obtain ⟨p, q, w1, w2, w3, k1, k2⟩ := t_word N hN h (i := i) (by omega) tok first len
  obtain ⟨rc, hrc, c1, c2⟩ := t_is_coin N hN h w2 w3
  obtain ⟨rl, hrl, l1, l2⟩ := t_is_column N hN h w2 w3
  obtain ⟨rs, hrs, s1, s2⟩ := t_is_slug N hN h w2 w3
  obtain ⟨rk, hrk, d1, d2⟩ := t_is_kick N hN h w2 w3
  unfold fX2_readClause fX8_takeClause
  rw [k1, bd_s, k2, bd_s]
  dsimp only
  rw [c1, bd_s, c2, bd_s]
  rcases hrc with rfl | ⟨rfl, hq⟩
  case inr =>
    -- a coin
    rw [if_neg (show ¬ (1 : Int32) = 0 by decide), if_neg (show ¬ (1 : Int32) = 0 by decide)]
    by_cases q5 : K = 5
    · subst q5
      left
      rw [if_pos (show (5 : Int32) ≤ nI 5 by decide), want_0 N (by decide), bd_s, x_coin6, bd_s]
      dsimp only
      rw [if_pos (show (0 : Int32) = 0 from rfl)]
      exact ⟨3, nI p, q, q, _, _, _, _, _, _, _, _, _, _, _, _, _, _, _, _, _, _, _, _, _, _, _, _, _, _, _, _, _, _, _, _, .inr (.inr (.inl rfl)), by omega, rfl, rfl, fun z _ => ⟨rfl, rfl, rfl, rfl, rfl⟩⟩
    · have hK : K < 5 := by omega
      rw [if_neg (le5 hK), want_1, bd_s]
      dsimp only
      rw [if_neg (show ¬ (1 : Int32) = 0 by decide)]
      rcases t_coin N hN h (i := q) w3 hK (nI p) (nI p) fa (tube := tube) (value := value) (paid := paid) (weight := weight) (mv := mv) (mw := mw) (nt := nt) hK2 with ⟨fl, fa', j, j2, tok', fi', mv', mw', nt', hfl, hj, hX, hM, hfr⟩ | ⟨i3, v, w, t, tok', fi', paid', b1, b2, b3, b4, b5, b6, hM, hX1, hX2⟩
      · left
        rw [hX, bd_s, hM, bd_s]
        exact ⟨fl, fa', j, j2, _, _, _, _, _, _, _, _, _, _, _, _, _, _, _, _, _, _, _, _, _, _, _, _, _, _, _, _, _, _, _, _, by rcases hfl with z | z <;> simp [z], hj, rfl, rfl, fun z hz => ⟨rfl, rfl, rfl, (hfr z hz).1, (hfr z hz).2⟩⟩
      · right
        rw [hM, bd_s]
        refine ⟨i3, K + 1, C, S, T, tok', fi', nI (q - p), rlen, rhythm, slugW, price, low, high, goods, wired, stick, kicks, kcnt, upd tube K (nI t), upd value K (nI v), paid', upd weight K (nI w), mr, ml, ms, np, nl, nh, ng, upd mv (5 + K) (nI v), upd mw (5 + K) (nI w), upd nt (5 + K) (nI t), by omega, b2, ⟨⟨by omega, fun k hk => ?_, b6⟩, ⟨hC5, hC1⟩, ⟨hS5, hS1⟩, hRR⟩, rfl, fun z hz => ⟨rfl, rfl, rfl, upd_ne (by omega), upd_ne (by omega)⟩, fun j hj => ?_, fun j fl fa' hfl hj => ?_⟩
        · by_cases e : k = K
          · subst e
            rw [upd_at, upd_at, upd_at, upd_at, upd_at, upd_at]
            exact ⟨rfl, ⟨v, b3.1, b3.2, rfl⟩, rfl, ⟨w, b4.1, b4.2, rfl⟩, rfl, ⟨t, by omega, b5, rfl⟩⟩
          · rw [upd_ne (by omega), upd_ne (by omega), upd_ne (by omega), upd_ne (by omega), upd_ne (by omega), upd_ne (by omega)]
            exact hK1 k (by omega)
        · rw [hX1 j hj, bd_s]
        · rw [hX2 j fl fa' hfl hj, bd_s]
  rw [if_pos (show (0 : Int32) = 0 from rfl), if_pos (show (0 : Int32) = 0 from rfl), l1, bd_s, l2, bd_s]
  rcases hrl with rfl | ⟨rfl, hq⟩
  case inr =>
    -- a column
    rw [if_neg (show ¬ (1 : Int32) = 0 by decide), if_neg (show ¬ (1 : Int32) = 0 by decide)]
    by_cases q5 : C = 5
    · subst q5
      left
      rw [if_pos (show (5 : Int32) ≤ nI 5 by decide), want_0 N (by decide), bd_s, x_col6, bd_s]
      dsimp only
      rw [if_pos (show (0 : Int32) = 0 from rfl)]
      exact ⟨3, nI p, q, q, _, _, _, _, _, _, _, _, _, _, _, _, _, _, _, _, _, _, _, _, _, _, _, _, _, _, _, _, _, _, _, _, .inr (.inr (.inl rfl)), by omega, rfl, rfl, fun z _ => ⟨rfl, rfl, rfl, rfl, rfl⟩⟩
    · have hC : C < 5 := by omega
      rw [if_neg (le5 hC), want_1, bd_s]
      dsimp only
      rw [if_neg (show ¬ (1 : Int32) = 0 by decide)]
      rcases t_col N hN h (i := q) w3 hC (nI p) (nI p) fa (price := price) (low := low) (high := high) (goods := goods) (wired := wired) (stick := stick) (kicks := kicks) (kcnt := kcnt) (np := np) (nl := nl) (nh := nh) (ng := ng) (mr := mr) (ml := ml) with ⟨fl, fa', j, j2, tok', fi', np', nl', nh', ng', hfl, hj, hX, hM⟩ | ⟨i3, pr, lo, hg, gd, tok', fi', b1, b2, b3, b4, b5, b6, hM, hX1, hX2⟩
      · left
        rw [hX, bd_s, hM, bd_s]
        exact ⟨fl, fa', j, j2, _, _, _, _, _, _, _, _, _, _, _, _, _, _, _, _, _, _, _, _, _, _, _, _, _, _, _, _, _, _, _, _, by rcases hfl with z | z | z <;> simp [z], hj, rfl, rfl, fun z hz => ⟨upd_ne (by omega), upd_ne (by omega), rfl, rfl, rfl⟩⟩
      · right
        rw [hM, bd_s]
        obtain ⟨hT, hR1, hR2⟩ := hRR
        refine ⟨i3, K, C + 1, S, T, tok', fi', nI (q - p), rlen, rhythm, slugW, upd price C (nI pr), upd low C (nI lo), upd high C (nI hg), upd goods C (nI gd), upd wired C (nI C), upd stick C 0, upd kicks C 0, upd kcnt C 0, tube, value, paid, weight, upd mr (5 + C) 0, upd ml (5 + C) 1, ms, upd np (5 + C) (nI pr), upd nl (5 + C) (nI lo), upd nh (5 + C) (nI hg), upd ng (5 + C) (nI gd), mv, mw, nt, by omega, b2, ⟨⟨hK5, hK1, hK2⟩, ⟨by omega, fun c hc => ?_⟩, ⟨hS5, hS1⟩, ⟨hT, fun c hc => ?_, fun c h1 h2 => hR2 c (by omega) h2⟩⟩, rfl, fun z hz => ⟨upd_ne (by omega), upd_ne (by omega), rfl, rfl, rfl⟩, fun j hj => ?_, fun j fl fa' hfl hj => ?_⟩
        · by_cases e : c = C
          · subst e
            rw [upd_at, upd_at, upd_at, upd_at, upd_at, upd_at, upd_at, upd_at, upd_at, upd_at, upd_at, upd_at]
            exact ⟨⟨rfl, pr, b3.1, b3.2, rfl⟩, ⟨rfl, lo, b4.1, b4.2, rfl⟩, ⟨rfl, hg, b5.1, b5.2, rfl⟩, ⟨rfl, gd, by omega, b6, rfl⟩, rfl, rfl, rfl, rfl⟩
          · have ne : 5 + c ≠ 5 + C := by omega
            rw [upd_ne ne, upd_ne ne, upd_ne ne, upd_ne ne, upd_ne e, upd_ne e, upd_ne e, upd_ne e, upd_ne e, upd_ne e, upd_ne e, upd_ne e]
            exact hC1 c (by omega)
        · by_cases e : c = C
          · subst e
            rw [upd_at, upd_at]
            obtain ⟨z1, z2, z3⟩ := hR2 c (Nat.le_refl _) hC
            exact .inl ⟨z1, z2, z3, rfl, rfl⟩
          · have ne : 5 + c ≠ 5 + C := by omega
            rw [upd_ne ne, upd_ne ne]
            exact hR1 c (by omega)
        · rw [hX1 j hj, bd_s]
        · rw [hX2 j fl fa' hfl hj, bd_s]
  rw [if_pos (show (0 : Int32) = 0 from rfl), if_pos (show (0 : Int32) = 0 from rfl), s1, bd_s, s2, bd_s]
  rcases hrs with rfl | ⟨rfl, hq⟩
  case inr =>
    -- a slug
    rw [if_neg (show ¬ (1 : Int32) = 0 by decide), if_neg (show ¬ (1 : Int32) = 0 by decide)]
    by_cases q5 : S = 5
    · subst q5
      left
      rw [if_pos (show (5 : Int32) ≤ nI 5 by decide), want_0 N (by decide), bd_s, x_slug6, bd_s]
      dsimp only
      rw [if_pos (show (0 : Int32) = 0 from rfl)]
      exact ⟨3, nI p, q, q, _, _, _, _, _, _, _, _, _, _, _, _, _, _, _, _, _, _, _, _, _, _, _, _, _, _, _, _, _, _, _, _, .inr (.inr (.inl rfl)), by omega, rfl, rfl, fun z _ => ⟨rfl, rfl, rfl, rfl, rfl⟩⟩
    · have hS : S < 5 := by omega
      rw [if_neg (le5 hS), want_1, bd_s]
      dsimp only
      rw [if_neg (show ¬ (1 : Int32) = 0 by decide)]
      unfold fX2_readSlug
      rw [ref_ok N hS, bd_s]
      dsimp only
      obtain ⟨v, p1, q1, m1, a1, a2, a3, H1⟩ := t_num N hN h (i := q) w3 (nI p) (nI p) fa 1 99
      rcases H1 with ⟨x1, y1, n1, n2, n3⟩ | ⟨fl, hfl, x1, y1⟩
      case inr =>
        obtain ⟨f0, f1⟩ := fl12 hfl
        left
        rw [x1, bd_s, y1, bd_s]
        dsimp only
        rw [xend_f N f0, bd_s, show (5 : Int32) + nI S = nI (5 + S) from nI_add 5 S, ck_nI (by omega) (by decide), lt_e, nI_clamp (by omega)]
        dsimp only
        rw [if_neg f0, bd_s]
        exact ⟨fl, nI p1, q1, q1, _, _, _, _, _, _, _, _, _, _, _, _, _, _, _, _, _, _, _, _, _, _, _, _, _, _, _, _, _, _, _, _, by rcases hfl with z | z <;> simp [z], by omega, rfl, rfl, fun z hz => ⟨rfl, rfl, upd_ne (by omega), rfl, rfl⟩⟩
      rw [x1, bd_s, y1, bd_s]
      dsimp only
      rw [show (5 : Int32) + nI S = nI (5 + S) from nI_add 5 S, ck_nI (by omega) (by decide), lt_e, nI_1, nI_clamp (by omega)]
      have n2 : (1 : Int) ≤ v := n2
      have n3 : (v : Int) ≤ 99 := n3
      right
      refine ⟨q1, K, C, S + 1, T, nI p1, nI p1, nI (q - p), rlen, rhythm, upd slugW S (nI v), price, low, high, goods, wired, stick, kicks, kcnt, tube, value, paid, weight, mr, ml, upd ms (5 + S) (nI v), np, nl, nh, ng, mv, mw, nt, by omega, a3, ⟨⟨hK5, hK1, hK2⟩, ⟨hC5, hC1⟩, ⟨by omega, fun c hc => ?_⟩, hRR⟩, rfl, fun z hz => ⟨rfl, rfl, upd_ne (by omega), rfl, rfl⟩, fun j hj => ?_, fun j fl fa' hfl hj => ?_⟩
      · by_cases e : c = S
        · subst e
          rw [upd_at, upd_at]
          exact ⟨rfl, v, by omega, by omega, rfl⟩
        · rw [upd_ne (by omega), upd_ne e]
          exact hS1 c (by omega)
      · rw [hj, bd_s]
        dsimp only
        rw [if_pos (show (0 : Int32) = 0 from rfl)]
        unfold fX1_addSlug
        rw [if_neg (le5 hS), ck_nI (by omega) (by decide), lt_e, nI_1, nI_clamp (by omega), bd_s]
        dsimp only
        rw [bd_s]
      · rw [hj, bd_s]
        dsimp only
        rw [if_neg hfl, bd_s]
  rw [if_pos (show (0 : Int32) = 0 from rfl), if_pos (show (0 : Int32) = 0 from rfl), d1, bd_s, d2, bd_s]
  rcases hrk with rfl | ⟨rfl, hq⟩
  case inr =>
    -- a kick
    rw [if_neg (show ¬ (1 : Int32) = 0 by decide), want_1, bd_s]
    dsimp only
    rw [if_neg (show ¬ (1 : Int32) = 0 by decide)]
    rcases t_kick N hN h (i := q) w3 hC5 (nI p) (nI p) (nI (q - p)) fa hRR with ⟨fl, fa', told', j, j2, tok', fi', len', hfl, hj, hX, hM⟩ | ⟨i3, c, m, b, tok', fi', len', b1, b2, b3, b4, b5, b6, b7, hM, hX1, hX2⟩
    · left
      rw [hX, bd_s, hM, bd_s]
      exact ⟨fl, fa', j, j2, _, _, _, _, _, _, _, _, _, _, _, _, _, _, _, _, _, _, _, _, _, _, _, _, _, _, _, _, _, _, _, _, by rcases hfl with z | z | z <;> simp [z], hj, rfl, rfl, fun z hz => ⟨rfl, rfl, rfl, rfl, rfl⟩⟩
    · right
      rw [hM, bd_s]
      obtain ⟨hT, hR1, hR2⟩ := hRR
      refine ⟨i3, K, C, S, T ||| 2 ^ c, tok', fi', len', upd rlen c (nI m), upd rhythm c (nI b), slugW, price, low, high, goods, wired, stick, kicks, kcnt, tube, value, paid, weight, upd mr (5 + c) (nI (rev m b)), upd ml (5 + c) (nI m), ms, np, nl, nh, ng, mv, mw, nt, by omega, b2, ⟨⟨hK5, hK1, hK2⟩, ⟨hC5, hC1⟩, ⟨hS5, hS1⟩, ⟨?_, fun c' hc' => ?_, fun c' h1 h2 => ?_⟩⟩, rfl, fun z hz => ⟨upd_ne (by omega), upd_ne (by omega), rfl, rfl, rfl⟩, fun j hj => ?_, fun j fl fa' hfl hj => ?_⟩
      · exact Nat.or_lt_two_pow (n := 5) hT (Nat.pow_lt_pow_right (by decide) (by omega))
      · rw [b_test]
        by_cases e : c' = c
        · subst e
          rw [upd_at, upd_at, upd_at, upd_at]
          exact .inr ⟨by simp, m, b, b5, b6, b7, rfl, rfl, rfl, rfl⟩
        · have ne : 5 + c' ≠ 5 + c := by omega
          rw [upd_ne e, upd_ne e, upd_ne ne, upd_ne ne, show decide (c = c') = false from decide_eq_false (fun y => e y.symm), Bool.or_false]
          exact hR1 c' hc'
      · rw [b_test, show decide (c = c') = false from decide_eq_false (fun y => by omega), Bool.or_false, upd_ne (by omega), upd_ne (by omega)]
        exact hR2 c' h1 h2
      · rw [hX1 j hj, bd_s]
      · rw [hX2 j fl fa' hfl hj, bd_s]
  -- no such word
  left
  rw [if_pos (show (0 : Int32) = 0 from rfl), fail_0, bd_s, want_0 N (by decide), bd_s]
  dsimp only
  rw [if_pos (show (0 : Int32) = 0 from rfl)]
  exact ⟨1, nI p, q, q, _, _, _, _, _, _, _, _, _, _, _, _, _, _, _, _, _, _, _, _, _, _, _, _, _, _, _, _, _, _, _, _, .inl rfl, by omega, rfl, rfl, fun z _ => ⟨rfl, rfl, rfl, rfl, rfl⟩⟩
theorem xl_f (N f : Nat) {fl : Int32} (hf : ¬ fl = 0) (x1 a t fa n k c s : Int32) (fb rlen rhythm slugW price low high goods wired stick kicks kcnt tube value paid weight : Nat → Int32) : fX2_read_L35 N (f + 1) x1 a t fl fa n fb k c s rlen rhythm slugW price low high goods wired stick kicks kcnt tube value paid weight = some (a, t, fl, fa, k, c, s, rlen, rhythm, slugW, price, low, high, goods, wired, stick, kicks, kcnt, tube, value, paid, weight) := by
  rw [fX2_read_L35_s, if_neg hf, ite_self, ite_self]
theorem ml_f (N f : Nat) {fl : Int32} (hf : ¬ fl = 0) (k c s t n a fi le fa : Int32) (tx mr ml ms np nl nh ng mv mw nt : Nat → Int32) : fX8_wall_L35 N (f + 1) k c s t n a fi le fl fa tx mr ml ms np nl nh ng mv mw nt = some (k, c, s, t, a, fi, le, fl, fa, mr, ml, ms, np, nl, nh, ng, mv, mw, nt) := by
  rw [fX8_wall_L35_s, if_neg hf]
theorem x_skip_any (N : Nat) (hN : 1000 ≤ N) {n : Nat} {B : Nat → Nat} {fb tx : Nat → Int32} (h : TX n B fb tx) {j : Nat} (hj : j ≤ 1000) : ∃ p, fX2_skipBlanks N (nI j) (nI n) fb = some (nI p) := by
  rcases Nat.lt_or_ge n j with z | z
  · exact ⟨j, x_skip_far N (by omega) hj fb⟩
  · obtain ⟨p, -, -, h3, -⟩ := t_here N hN h z
    exact ⟨p, h3⟩
set_option maxHeartbeats 8000000 in
theorem rd_loop (N : Nat) (hN : 1000 ≤ N) {n : Nat} {B : Nat → Nat} {fb tx : Nat → Int32} (h : TX n B fb tx) (fa : Int32) : ∀ (d u f g i0 p K C S T : Nat) (tok first len : Int32) (rlen rhythm slugW price low high goods wired stick kicks kcnt tube value paid weight mr ml ms np nl nh ng mv mw nt : Nat → Int32), n ≤ p + d → p ≤ n → u ≤ p → d + 2 < f → d + 2 < g → fX8_here N (nI n) (nI i0) tx = some ((if p < n then nI (B p) else -1), nI p) → RDA K C S T rlen rhythm slugW price low high goods wired stick kicks kcnt tube value paid weight mr ml ms np nl nh ng mv mw nt → ∃ (at' tok' fl fa' xk xc xs at2 fi' len' k' c' s' t' : Int32) (rlen' rhythm' slugW' price' low' high' goods' wired' stick' kicks' kcnt' tube' value' paid' weight' mr' ml' ms' np' nl' nh' ng' mv' mw' nt' : Nat → Int32), fX2_read_L35 N f (nI u) (nI p) tok 0 fa (nI n) fb (nI K) (nI C) (nI S) rlen rhythm slugW price low high goods wired stick kicks kcnt tube value paid weight = some (at', tok', fl, fa', xk, xc, xs, rlen', rhythm', slugW', price', low', high', goods', wired', stick', kicks', kcnt', tube', value', paid', weight') ∧ fX8_wall_L35 N g (nI K) (nI C) (nI S) (nI T) (nI n) (nI i0) first len 0 fa tx mr ml ms np nl nh ng mv mw nt = some (k', c', s', t', at2, fi', len', fl, fa', mr', ml', ms', np', nl', nh', ng', mv', mw', nt') ∧ (∀ z, z < 5 → mr' z = mr z ∧ ml' z = ml z ∧ ms' z = ms z ∧ mv' z = mv z ∧ mw' z = mw z) ∧ (∃ Cq : Nat, Cq ≤ 5 ∧ xc = nI Cq) ∧ ((fl = 1 ∨ fl = 2 ∨ fl = 3 ∨ fl = 4) ∨ (fl = 0 ∧ fa' = fa ∧ ∃ K' C' S' T' : Nat, (xk = nI K' ∧ xc = nI C' ∧ xs = nI S') ∧ (k' = nI K' ∧ c' = nI C' ∧ s' = nI S' ∧ t' = nI T') ∧ RDA K' C' S' T' rlen' rhythm' slugW' price' low' high' goods' wired' stick' kicks' kcnt' tube' value' paid' weight' mr' ml' ms' np' nl' nh' ng' mv' mw' nt')) := by
  have hn := h.1
  intro d
  induction d with
  | zero =>
    intro u f g i0 p K C S T tok first len rlen rhythm slugW price low high goods wired stick kicks kcnt tube value paid weight mr ml ms np nl nh ng mv mw nt h1 h2 h3 hf hg hH hR
    obtain ⟨f, rfl⟩ : ∃ z, f = z + 1 := ⟨f - 1, by omega⟩
    obtain ⟨g, rfl⟩ : ∃ z, g = z + 1 := ⟨g - 1, by omega⟩
    have hp : p = n := by omega
    refine ⟨nI p, tok, 0, fa, nI K, nI C, nI S, nI p, first, len, nI K, nI C, nI S, nI T, rlen, rhythm, slugW, price, low, high, goods, wired, stick, kicks, kcnt, tube, value, paid, weight, mr, ml, ms, np, nl, nh, ng, mv, mw, nt, ?_, ?_, fun z _ => ⟨rfl, rfl, rfl, rfl, rfl⟩, ⟨C, hR.2.1.1, rfl⟩, .inr ⟨rfl, rfl, K, C, S, T, ⟨rfl, rfl, rfl⟩, ⟨rfl, rfl, rfl, rfl⟩, hR⟩⟩
    · rw [fX2_read_L35_s, if_pos (show nI n ≤ nI p from nI_le (by omega) (by omega)), ite_self]
    · rw [fX8_wall_L35_s, if_pos (show (0 : Int32) = 0 from rfl), hH, bd_s]
      dsimp only
      rw [if_neg (show ¬ p < n by omega), if_pos (show (-1 : Int32) < 0 by decide)]
  | succ d ih =>
    intro u f g i0 p K C S T tok first len rlen rhythm slugW price low high goods wired stick kicks kcnt tube value paid weight mr ml ms np nl nh ng mv mw nt h1 h2 h3 hf hg hH hR
    by_cases hpn : p = n
    · exact (by
        obtain ⟨f, rfl⟩ : ∃ z, f = z + 1 := ⟨f - 1, by omega⟩
        obtain ⟨g, rfl⟩ : ∃ z, g = z + 1 := ⟨g - 1, by omega⟩
        refine ⟨nI p, tok, 0, fa, nI K, nI C, nI S, nI p, first, len, nI K, nI C, nI S, nI T, rlen, rhythm, slugW, price, low, high, goods, wired, stick, kicks, kcnt, tube, value, paid, weight, mr, ml, ms, np, nl, nh, ng, mv, mw, nt, ?_, ?_, fun z _ => ⟨rfl, rfl, rfl, rfl, rfl⟩, ⟨C, hR.2.1.1, rfl⟩, .inr ⟨rfl, rfl, K, C, S, T, ⟨rfl, rfl, rfl⟩, ⟨rfl, rfl, rfl, rfl⟩, hR⟩⟩
        · rw [fX2_read_L35_s, if_pos (show nI n ≤ nI p from nI_le (by omega) (by omega)), ite_self]
        · rw [fX8_wall_L35_s, if_pos (show (0 : Int32) = 0 from rfl), hH, bd_s]
          dsimp only
          rw [if_neg (show ¬ p < n by omega), if_pos (show (-1 : Int32) < 0 by decide)])
    have hlt : p < n := by omega
    obtain ⟨f, rfl⟩ : ∃ z, f = z + 1 + 1 := ⟨f - 2, by omega⟩
    obtain ⟨g, rfl⟩ : ∃ z, g = z + 1 + 1 := ⟨g - 2, by omega⟩
    have eX : fX2_read_L35 N (f + 1 + 1) (nI u) (nI p) tok 0 fa (nI n) fb (nI K) (nI C) (nI S) rlen rhythm slugW price low high goods wired stick kicks kcnt tube value paid weight = bd (fX2_readClause N (nI p) tok 0 fa (nI n) fb (nI K) (nI C) (nI S) rlen rhythm slugW price low high goods wired stick kicks kcnt tube value paid weight) fun (g4, g5, g6, g7, g8, g9, g10, g11, g12, g13, g14, g15, g16, g17, g18, g19, g20, g21, g22, g23, g24, g25) => bd (fX2_skipBlanks N g4 (nI n) fb) fun g27 => fX2_read_L35 N (f + 1) (nI (u + 1)) g27 g5 g6 g7 (nI n) fb g8 g9 g10 g11 g12 g13 g14 g15 g16 g17 g18 g19 g20 g21 g22 g23 g24 g25 := by
      rw [fX2_read_L35_s, if_neg (show ¬ (400 : Int32) ≤ nI u from fun z => by have := (s_le (a := 400) (by decide) (by omega)).mp z; omega), if_neg (nI_ge hlt (by omega)), if_pos (show (0 : Int32) = 0 from rfl)]
      simp only [lt_e, nI_1]
    have hBp := (h.2 p hlt).1
    rw [eX, fX8_wall_L35_s, if_pos (show (0 : Int32) = 0 from rfl), hH, bd_s]
    dsimp only
    rw [if_pos hlt, if_neg (nI_pos (by omega))]
    rcases t_clause N hN h hlt tok first len fa hR with ⟨fl, fa', j, j2, tok', fi', len', k', c', s', t', rlen', rhythm', slugW', price', low', high', goods', wired', stick', kicks', kcnt', tube', value', paid', weight', mr', ml', ms', np', nl', nh', ng', mv', mw', nt', hfl, hj, hX, hM, hfr⟩ | ⟨i3, K', C', S', T', tok', fi', len', rlen', rhythm', slugW', price', low', high', goods', wired', stick', kicks', kcnt', tube', value', paid', weight', mr', ml', ms', np', nl', nh', ng', mv', mw', nt', b1, b2, hR', hM, hfr, hX1, hX2⟩
    · have f0 : ¬ fl = 0 := by rcases hfl with z | z | z | z <;> rw [z] <;> decide
      obtain ⟨p2, hp2⟩ := x_skip_any N hN h hj
      rw [hX, bd_s, hM, bd_s]
      dsimp only
      rw [hp2, bd_s, xl_f N f f0, if_neg f0, ml_f N g f0]
      exact ⟨_, _, fl, fa', _, _, _, _, _, _, _, _, _, _, rlen', rhythm', slugW', price', low', high', goods', wired', stick', kicks', kcnt', tube', value', paid', weight', mr', ml', ms', np', nl', nh', ng', mv', mw', nt', rfl, rfl, hfr, ⟨C, hR.2.1.1, rfl⟩, .inl hfl⟩
    · obtain ⟨p2, e1, e2, e3, e4⟩ := t_end N hN h (i := i3) b2 fa
      rw [hM, bd_s]
      dsimp only
      rw [if_pos (show (0 : Int32) = 0 from rfl), e3, bd_s]
      dsimp only
      rcases e4 with ⟨y1, y2, y3⟩ | ⟨y1, y3⟩
      · have h59 : nI (B p2) = 59 := (t_b32 h (i := p2) (c := 59) y1 (by decide)).mpr y2
        obtain ⟨p3, z1, z2, z3, z4, -, -⟩ := t_here N hN h (i := p2 + 1) (by omega)
        rw [hX1 _ y3, bd_s]
        dsimp only
        rw [z3, bd_s, if_pos y1, if_pos h59, want_1, bd_s]
        dsimp only
        rw [if_neg (show ¬ (1 : Int32) = 0 by decide), lt_e, nI_1]
        obtain ⟨at', tok2, fl, fa', xk, xc, xs, at2, fi2, len2, k2, c2, s2, t2, rlen2, rhythm2, slugW2, price2, low2, high2, goods2, wired2, stick2, kicks2, kcnt2, tube2, value2, paid2, weight2, mr2, ml2, ms2, np2, nl2, nh2, ng2, mv2, mw2, nt2, r1, r2, r3, r5, r4⟩ := ih (u + 1) (f + 1) (g + 1) (p2 + 1) p3 K' C' S' T' tok' fi' len' rlen' rhythm' slugW' price' low' high' goods' wired' stick' kicks' kcnt' tube' value' paid' weight' mr' ml' ms' np' nl' nh' ng' mv' mw' nt' (by omega) z2 (by omega) (by omega) (by omega) z4 hR'
        refine ⟨at', tok2, fl, fa', xk, xc, xs, at2, fi2, len2, k2, c2, s2, t2, rlen2, rhythm2, slugW2, price2, low2, high2, goods2, wired2, stick2, kicks2, kcnt2, tube2, value2, paid2, weight2, mr2, ml2, ms2, np2, nl2, nh2, ng2, mv2, mw2, nt2, r1, r2, fun z hz => ?_, r5, r4⟩
        obtain ⟨u1, u2, u3, u4, u5⟩ := r3 z hz
        obtain ⟨v1, v2, v3, v4, v5⟩ := hfr z hz
        exact ⟨u1.trans v1, u2.trans v2, u3.trans v3, u4.trans v4, u5.trans v5⟩
      · have hne : ¬ (if p2 < n then nI (B p2) else (-1 : Int32)) = 59 := by
          by_cases z : p2 < n
          · rw [if_pos z]
            exact fun y => y1 ⟨z, (t_b32 h (i := p2) (c := 59) z (by decide)).mp y⟩
          · rw [if_neg z]; decide
        obtain ⟨p3, hp3⟩ := x_skip_any N hN h (j := p2 + 1) (by omega)
        rw [hX2 _ _ _ (show ¬ (1 : Int32) = 0 by decide) y3, bd_s]
        dsimp only
        rw [hp3, bd_s, xl_f N f (show ¬ (1 : Int32) = 0 by decide), if_neg hne, want_0 N (by decide), bd_s]
        dsimp only
        rw [if_pos (show (0 : Int32) = 0 from rfl), ml_f N g (show ¬ (1 : Int32) = 0 by decide)]
        exact ⟨_, _, 1, nI p2, _, _, _, _, _, _, _, _, _, _, rlen, rhythm, slugW, price, low, high, goods, wired, stick, kicks, kcnt, tube, value, paid, weight, mr', ml', ms', np', nl', nh', ng', mv', mw', nt', rfl, rfl, hfr, ⟨C, hR.2.1.1, rfl⟩, .inl (.inl rfl)⟩
