/-! around the clauses -/
theorem c1_L (N : Nat) : ∀ (d i f : Nat) (r l : Nat → Int32), i + d = 5 → d < f → ∃ r' l', fX1_clear_L17 N f (nI i) r l = some (r', l') ∧ (∀ k, i ≤ k → k < 5 → r' k = 0 ∧ l' k = 0) ∧ ∀ k, k < i → r' k = r k ∧ l' k = l k := by
  intro d
  induction d with
  | zero =>
    intro i f r l hi hf
    obtain ⟨f, rfl⟩ : ∃ g, f = g + 1 := ⟨f - 1, by omega⟩
    refine ⟨r, l, ?_, fun k h1 h2 => by omega, fun _ _ => ⟨rfl, rfl⟩⟩
    rw [fX1_clear_L17_s, if_pos (show (5 : Int32) ≤ nI i from (s_le (a := 5) (by decide) (by omega)).mpr (by omega))]
  | succ d ih =>
    intro i f r l hi hf
    obtain ⟨f, rfl⟩ : ∃ g, f = g + 1 := ⟨f - 1, by omega⟩
    obtain ⟨r', l', e1, e2, e3⟩ := ih (i + 1) f (upd r i 0) (upd l i 0) (by omega) (by omega)
    refine ⟨r', l', ?_, fun k h1 h2 => ?_, fun k hk => ?_⟩
    · rw [fX1_clear_L17_s, if_neg (show ¬ (5 : Int32) ≤ nI i from fun z => by have := (s_le (a := 5) (by decide) (by omega)).mp z; omega), ck_nI (by omega) (by decide), lt_e, nI_1, nI_clamp (by omega)]
      exact e1
    · by_cases q : k = i
      · subst q
        obtain ⟨z1, z2⟩ := e3 k (by omega)
        rw [z1, z2, upd_at, upd_at]
        exact ⟨rfl, rfl⟩
      · exact e2 k (by omega) h2
    · obtain ⟨z1, z2⟩ := e3 k (by omega)
      rw [z1, z2, upd_ne (by omega), upd_ne (by omega)]
      exact ⟨rfl, rfl⟩
theorem c4_L2 (N : Nat) : ∀ (d i f : Nat) (t : Nat → Int32), i + d = 5 → d < f → ∃ t', fX4_clear_L2 N f (nI i) t = some t' := by
  intro d
  induction d with
  | zero =>
    intro i f t hi hf
    obtain ⟨f, rfl⟩ : ∃ g, f = g + 1 := ⟨f - 1, by omega⟩
    exact ⟨t, by rw [fX4_clear_L2_s, if_pos (show (5 : Int32) ≤ nI i from (s_le (a := 5) (by decide) (by omega)).mpr (by omega))]⟩
  | succ d ih =>
    intro i f t hi hf
    obtain ⟨f, rfl⟩ : ∃ g, f = g + 1 := ⟨f - 1, by omega⟩
    rw [fX4_clear_L2_s, if_neg (show ¬ (5 : Int32) ≤ nI i from fun z => by have := (s_le (a := 5) (by decide) (by omega)).mp z; omega), ck_nI (by omega) (by decide), lt_e, nI_1]
    exact ih (i + 1) f _ (by omega) (by omega)
theorem c4_L22 (N : Nat) : ∀ (d i f : Nat) (price low high goods wired stick kicks kcnt : Nat → Int32), i + d = 5 → d < f → ∃ price' low' high' goods' wired' stick' kicks' kcnt', fX4_clear_L22 N f (nI i) price low high goods wired stick kicks kcnt = some (price', low', high', goods', wired', stick', kicks', kcnt') := by
  intro d
  induction d with
  | zero =>
    intro i f price low high goods wired stick kicks kcnt hi hf
    obtain ⟨f, rfl⟩ : ∃ g, f = g + 1 := ⟨f - 1, by omega⟩
    exact ⟨price, low, high, goods, wired, stick, kicks, kcnt, by rw [fX4_clear_L22_s, if_pos (show (5 : Int32) ≤ nI i from (s_le (a := 5) (by decide) (by omega)).mpr (by omega))]⟩
  | succ d ih =>
    intro i f price low high goods wired stick kicks kcnt hi hf
    obtain ⟨f, rfl⟩ : ∃ g, f = g + 1 := ⟨f - 1, by omega⟩
    rw [fX4_clear_L22_s, if_neg (show ¬ (5 : Int32) ≤ nI i from fun z => by have := (s_le (a := 5) (by decide) (by omega)).mp z; omega)]
    unfold fX4_setColumn fX4_setFree
    rw [if_neg (nI_pos (by omega)), if_pos (show nI i < 5 from (s_lt (b := 5) (by omega) (by decide)).mpr (by omega)), ck_nI (by omega) (by decide), ck_nI (by omega) (by decide), bd_s]
    dsimp only
    rw [bd_s]
    dsimp only
    rw [lt_e, nI_1]
    exact ih (i + 1) f _ _ _ _ _ _ _ _ (by omega) (by omega)
theorem t_finish (N : Nat) (hN : 10 ≤ N) {C : Nat} (hC : C ≤ 5) (rl : Nat → Int32) : ∃ rl', fX1_finish N (nI C) rl = some rl' ∧ ∀ c, c < C → rl' c = if rl c = 0 then 1 else rl c := by
  have L : ∀ (d i f : Nat) (g : Nat → Int32), i + d = C → d < f → ∃ g', fX1_finish_L2 N f (nI i) (nI C) g = some g' ∧ (∀ c, i ≤ c → c < C → g' c = if g c = 0 then 1 else g c) ∧ ∀ c, c < i → g' c = g c := by
    intro d
    induction d with
    | zero =>
      intro i f g hi hf
      obtain ⟨f, rfl⟩ : ∃ g, f = g + 1 := ⟨f - 1, by omega⟩
      refine ⟨g, ?_, fun c h1 h2 => by omega, fun _ _ => rfl⟩
      rw [fX1_finish_L2_s, if_pos (nI_le (by omega) (by omega))]
    | succ d ih =>
      intro i f g hi hf
      obtain ⟨f, rfl⟩ : ∃ g, f = g + 1 := ⟨f - 1, by omega⟩
      rw [fX1_finish_L2_s, if_neg (nI_ge (by omega) (by omega)), ck_nI (by omega) (by decide), nI_clamp (by omega)]
      by_cases q : g i = 0
      · rw [if_pos q, lt_e, nI_1]
        obtain ⟨g', e1, e2, e3⟩ := ih (i + 1) f (upd g i 1) (by omega) (by omega)
        refine ⟨g', e1, fun c h1 h2 => ?_, fun c hc => by rw [e3 c (by omega), upd_ne (by omega)]⟩
        by_cases e : c = i
        · subst e; rw [e3 c (by omega), upd_at, if_pos q]
        · rw [e2 c (by omega) h2, upd_ne e]
      · rw [if_neg q, lt_e, nI_1]
        obtain ⟨g', e1, e2, e3⟩ := ih (i + 1) f g (by omega) (by omega)
        refine ⟨g', e1, fun c h1 h2 => ?_, fun c hc => e3 c (by omega)⟩
        by_cases e : c = i
        · subst e; rw [e3 c (by omega), if_neg q]
        · exact e2 c (by omega) h2
  obtain ⟨g', e1, e2, -⟩ := L C 0 N rl (by omega) (by omega)
  refine ⟨g', ?_, fun c hc => e2 c (Nat.zero_le _) hc⟩
  unfold fX1_finish
  rw [show fX1_finish_L2 N N 0 (nI C) rl = some g' from e1, bd_s]
theorem x_kept (N : Nat) (hN : 10 ≤ N) (kept : Nat → Int32) : ∃ k', fX7_wall_L86 N N 0 kept = some k' ∧ k' 0 = 0 ∧ k' 1 = 0 := by
  obtain ⟨g, rfl⟩ : ∃ g, N = g + 3 := ⟨N - 3, by omega⟩
  refine ⟨upd (upd kept 0 (vp_nar .boolean 0)) 1 (vp_nar .boolean 0), ?_, ?_, ?_⟩
  · rw [fX7_wall_L86_s, if_neg (by decide), ck_at (i := 0) (j := 0) rfl (by decide) (by decide), lt_e, show (0 : Int32) + 1 = 1 from rfl, fX7_wall_L86_s, if_neg (by decide), ck_at (i := 1) (j := 1) rfl (by decide) (by decide), lt_e, show (1 : Int32) + 1 = 2 from rfl, fX7_wall_L86_s, if_pos (by decide)]
    rfl
  · rw [upd_ne (by decide), upd_at]; rfl
  · rw [upd_at]; rfl
theorem m_zero (N : Nat) : ∀ (d i f : Nat) (w : Nat → Int32), i + d = 50 → d < f → ∃ w', fX8_wall_L145 N f (nI i) w = some w' ∧ (∀ j, i ≤ j → j < 50 → w' j = 0) ∧ ∀ j, (j < i ∨ 50 ≤ j) → w' j = w j := by
  intro d
  induction d with
  | zero =>
    intro i f w hi hf
    obtain ⟨f, rfl⟩ : ∃ g, f = g + 1 := ⟨f - 1, by omega⟩
    refine ⟨w, ?_, fun k h1 h2 => by omega, fun _ _ => rfl⟩
    rw [fX8_wall_L145_s, if_pos (show (50 : Int32) ≤ nI i from (s_le (a := 50) (by decide) (by omega)).mpr (by omega))]
  | succ d ih =>
    intro i f w hi hf
    obtain ⟨f, rfl⟩ : ∃ g, f = g + 1 := ⟨f - 1, by omega⟩
    obtain ⟨w', e1, e2, e3⟩ := ih (i + 1) f (upd w i 0) (by omega) (by omega)
    refine ⟨w', ?_, fun j h1 h2 => ?_, fun j hj => by rw [e3 j (by omega), upd_ne (by omega)]⟩
    · rw [fX8_wall_L145_s, if_neg (show ¬ (50 : Int32) ≤ nI i from fun z => by have := (s_le (a := 50) (by decide) (by omega)).mp z; omega), ck_nI (by omega) (by decide), lt_e, nI_1, nI_clamp (by omega)]
      exact e1
    · by_cases q : j = i
      · subst q; rw [e3 j (by omega), upd_at]
      · exact e2 j (by omega) h2
set_option maxHeartbeats 4000000 in
theorem m_copy5 (N : Nat) (np nl nh ng nt : Nat → Int32) : ∀ (d i f : Nat) (w mr ml ms mv mw : Nat → Int32), i + d = 5 → d < f → ∃ w' mr' ml' ms' mv' mw', fX8_wall_L166 N f (nI i) w mr ml ms np nl nh ng mv mw nt = some (w', mr', ml', ms', mv', mw') ∧ (∀ k, i ≤ k → k < 5 → (w' k = nt (5 + k) ∧ w' (5 + k) = ng (5 + k) ∧ w' (25 + k) = np (5 + k) ∧ w' (30 + k) = nl (5 + k) ∧ w' (35 + k) = nh (5 + k) ∧ w' (40 + k) = nI k) ∧ (mr' k = mr (5 + k) ∧ ml' k = ml (5 + k) ∧ ms' k = ms (5 + k) ∧ mv' k = mv (5 + k) ∧ mw' k = mw (5 + k))) ∧ (∀ k, k < i → (w' k = w k ∧ w' (5 + k) = w (5 + k) ∧ w' (25 + k) = w (25 + k) ∧ w' (30 + k) = w (30 + k) ∧ w' (35 + k) = w (35 + k) ∧ w' (40 + k) = w (40 + k)) ∧ (mr' k = mr k ∧ ml' k = ml k ∧ ms' k = ms k ∧ mv' k = mv k ∧ mw' k = mw k)) ∧ ∀ j, ((10 ≤ j ∧ j < 25) ∨ 45 ≤ j) → w' j = w j := by
  intro d
  induction d with
  | zero =>
    intro i f w mr ml ms mv mw hi hf
    obtain ⟨f, rfl⟩ : ∃ g, f = g + 1 := ⟨f - 1, by omega⟩
    refine ⟨w, mr, ml, ms, mv, mw, ?_, fun k h1 h2 => by omega, fun _ _ => ⟨⟨rfl, rfl, rfl, rfl, rfl, rfl⟩, ⟨rfl, rfl, rfl, rfl, rfl⟩⟩, fun _ _ => rfl⟩
    rw [fX8_wall_L166_s, if_pos (show (5 : Int32) ≤ nI i from (s_le (a := 5) (by decide) (by omega)).mpr (by omega))]
  | succ d ih =>
    intro i f w mr ml ms mv mw hi hf
    obtain ⟨f, rfl⟩ : ∃ g, f = g + 1 := ⟨f - 1, by omega⟩
    have a5 : (5 : Int32) + nI i = nI (5 + i) := nI_add 5 i
    have a25 : (25 : Int32) + nI i = nI (25 + i) := nI_add 25 i
    have a30 : (30 : Int32) + nI i = nI (30 + i) := nI_add 30 i
    have a35 : (35 : Int32) + nI i = nI (35 + i) := nI_add 35 i
    have a40 : (40 : Int32) + nI i = nI (40 + i) := nI_add 40 i
    obtain ⟨w', mr', ml', ms', mv', mw', e1, e2, e3, e4⟩ := ih (i + 1) f (upd (upd (upd (upd (upd (upd w i (nt (5 + i))) (5 + i) (ng (5 + i))) (25 + i) (np (5 + i))) (30 + i) (nl (5 + i))) (35 + i) (nh (5 + i))) (40 + i) (nI i)) (upd mr i (mr (5 + i))) (upd ml i (ml (5 + i))) (upd ms i (ms (5 + i))) (upd mv i (mv (5 + i))) (upd mw i (mw (5 + i))) (by omega) (by omega)
    refine ⟨w', mr', ml', ms', mv', mw', ?_, fun k h1 h2 => ?_, fun k hk => ?_, fun j hj => ?_⟩
    · rw [fX8_wall_L166_s, if_neg (show ¬ (5 : Int32) ≤ nI i from fun z => by have := (s_le (a := 5) (by decide) (by omega)).mp z; omega), a5, a25, a30, a35, a40]
      simp only [lt_e]
      rw [ck_nI (show 5 + i < 10 by omega) (by decide), ck_nI (show i < 10 by omega) (by decide), ck_nI (show i < 240 by omega) (by decide), ck_nI (show 5 + i < 240 by omega) (by decide), ck_nI (show 25 + i < 240 by omega) (by decide), ck_nI (show 30 + i < 240 by omega) (by decide), ck_nI (show 35 + i < 240 by omega) (by decide), ck_nI (show 40 + i < 240 by omega) (by decide), nI_1, nI_clamp (show i < 2 ^ 31 by omega), nI_clamp (show 5 + i < 2 ^ 31 by omega), nI_clamp (show 25 + i < 2 ^ 31 by omega), nI_clamp (show 30 + i < 2 ^ 31 by omega), nI_clamp (show 35 + i < 2 ^ 31 by omega), nI_clamp (show 40 + i < 2 ^ 31 by omega)]
      exact e1
    · by_cases q : k = i
      · subst q
        obtain ⟨⟨z1, z2, z3, z4, z5, z6⟩, y1, y2, y3, y4, y5⟩ := e3 k (by omega)
        rw [z1, z2, z3, z4, z5, z6, y1, y2, y3, y4, y5]
        refine ⟨⟨?_, ?_, ?_, ?_, ?_, ?_⟩, upd_at _ _ _, upd_at _ _ _, upd_at _ _ _, upd_at _ _ _, upd_at _ _ _⟩
        · rw [upd_ne (by omega), upd_ne (by omega), upd_ne (by omega), upd_ne (by omega), upd_ne (by omega), upd_at]
        · rw [upd_ne (by omega), upd_ne (by omega), upd_ne (by omega), upd_ne (by omega), upd_at]
        · rw [upd_ne (by omega), upd_ne (by omega), upd_ne (by omega), upd_at]
        · rw [upd_ne (by omega), upd_ne (by omega), upd_at]
        · rw [upd_ne (by omega), upd_at]
        · rw [upd_at]
      · obtain ⟨z, y1, y2, y3, y4, y5⟩ := e2 k (by omega) h2
        refine ⟨z, ?_, ?_, ?_, ?_, ?_⟩
        · rw [y1, upd_ne (by omega)]
        · rw [y2, upd_ne (by omega)]
        · rw [y3, upd_ne (by omega)]
        · rw [y4, upd_ne (by omega)]
        · rw [y5, upd_ne (by omega)]
    · obtain ⟨⟨z1, z2, z3, z4, z5, z6⟩, y1, y2, y3, y4, y5⟩ := e3 k (by omega)
      rw [z1, z2, z3, z4, z5, z6, y1, y2, y3, y4, y5]
      refine ⟨⟨?_, ?_, ?_, ?_, ?_, ?_⟩, upd_ne (by omega), upd_ne (by omega), upd_ne (by omega), upd_ne (by omega), upd_ne (by omega)⟩ <;> rw [upd_ne (by omega), upd_ne (by omega), upd_ne (by omega), upd_ne (by omega), upd_ne (by omega), upd_ne (by omega)]
    · rw [e4 j hj, upd_ne (by omega), upd_ne (by omega), upd_ne (by omega), upd_ne (by omega), upd_ne (by omega), upd_ne (by omega)]
set_option maxHeartbeats 4000000 in
theorem t_read (N : Nat) (hN : 1000 ≤ N) {n : Nat} {B : Nat → Nat} {fb tx : Nat → Int32} (h : TX n B fb tx) (a0 t0 f0 fa0 k0 c0 s0 lost stamps sales damp worn seed first len : Int32) (rlen rhythm slugW price low high goods wired stick kicks kcnt tube value paid weight mr ml ms np nl nh ng mv mw nt : Nat → Int32) : ∃ (at' tok' fl fa' xk xc xs at2 fi' len' k' c' s' t' : Int32) (rl rlen' rhythm' slugW' price' low' high' goods' wired' stick' kicks' kcnt' tube' value' paid' weight' mr' ml' ms' np' nl' nh' ng' mv' mw' nt' : Nat → Int32), fX2_read N a0 t0 f0 fa0 (nI n) fb k0 c0 s0 rlen rhythm slugW lost stamps sales damp worn seed price low high goods wired stick kicks kcnt tube value paid weight = some (at', tok', fl, fa', xk, xc, xs, rl, rhythm', slugW', 0, 0, 0, 0, 0, 0, price', low', high', goods', wired', stick', kicks', kcnt', tube', value', paid', weight') ∧ fX8_wall_L35 N N 0 0 0 0 (nI n) 0 first len 0 (-1) tx mr ml ms np nl nh ng mv mw nt = some (k', c', s', t', at2, fi', len', fl, fa', mr', ml', ms', np', nl', nh', ng', mv', mw', nt') ∧ (∀ z, z < 5 → mr' z = mr z ∧ ml' z = ml z ∧ ms' z = ms z ∧ mv' z = mv z ∧ mw' z = mw z) ∧ ((fl = 1 ∨ fl = 2 ∨ fl = 3 ∨ fl = 4) ∨ (fl = 0 ∧ fa' = -1 ∧ ∃ K' C' S' T' : Nat, (xk = nI K' ∧ xc = nI C' ∧ xs = nI S') ∧ (k' = nI K' ∧ c' = nI C' ∧ s' = nI S' ∧ t' = nI T') ∧ (∀ c, c < C' → rl c = if rlen' c = 0 then 1 else rlen' c) ∧ RDA K' C' S' T' rlen' rhythm' slugW' price' low' high' goods' wired' stick' kicks' kcnt' tube' value' paid' weight' mr' ml' ms' np' nl' nh' ng' mv' mw' nt')) := by
  have hn := h.1
  obtain ⟨rh1, rl1, e1, e2, -⟩ := c1_L N 5 0 N rhythm rlen (by omega) (by omega)
  obtain ⟨tb1, e3⟩ := c4_L2 N 5 0 N tube (by omega) (by omega)
  obtain ⟨price1, low1, high1, goods1, wired1, stick1, kicks1, kcnt1, e4⟩ := c4_L22 N 5 0 N price low high goods wired stick kicks kcnt (by omega) (by omega)
  obtain ⟨p, h1, h2, h3, h4, -, -⟩ := t_here N hN h (i := 0) (Nat.zero_le _)
  have e1 : fX1_clear_L17 N N 0 rhythm rlen = some (rh1, rl1) := e1
  have e3 : fX4_clear_L2 N N 0 tube = some tb1 := e3
  have e4 : fX4_clear_L22 N N 0 price low high goods wired stick kicks kcnt = some (price1, low1, high1, goods1, wired1, stick1, kicks1, kcnt1) := e4
  have h3 : fX2_skipBlanks N 0 (nI n) fb = some (nI p) := h3
  have hR : RDA 0 0 0 0 rl1 rh1 slugW price1 low1 high1 goods1 wired1 stick1 kicks1 kcnt1 tb1 value paid weight mr ml ms np nl nh ng mv mw nt := ⟨⟨by omega, fun k hk => by omega, fun _ => 0, fun i hi => by omega, fun i j _ hj => by omega⟩, ⟨by omega, fun c hc => by omega⟩, ⟨by omega, fun i hi => by omega⟩, ⟨by decide, fun c hc => by omega, fun c _ hc => ⟨Nat.zero_testBit c, (e2 c (Nat.zero_le _) hc).2, (e2 c (Nat.zero_le _) hc).1⟩⟩⟩
  obtain ⟨at', tok', fl, fa', xk, xc, xs, at2, fi', len', k', c', s', t', rlen', rhythm', slugW', price', low', high', goods', wired', stick', kicks', kcnt', tube', value', paid', weight', mr', ml', ms', np', nl', nh', ng', mv', mw', nt', r1, r2, r3, ⟨Cq, r5, rfl⟩, r4⟩ := rd_loop N hN h (-1) n 0 N N 0 p 0 0 0 0 t0 first len rl1 rh1 slugW price1 low1 high1 goods1 wired1 stick1 kicks1 kcnt1 tb1 value paid weight mr ml ms np nl nh ng mv mw nt (by omega) h2 (Nat.zero_le _) (by omega) (by omega) h4 hR
  obtain ⟨rl, q1, q2⟩ := t_finish N (by omega) r5 rlen'
  have r1 : fX2_read_L35 N N 0 (nI p) t0 0 (-1) (nI n) fb 0 0 0 rl1 rh1 slugW price1 low1 high1 goods1 wired1 stick1 kicks1 kcnt1 tb1 value paid weight = some (at', tok', fl, fa', xk, nI Cq, xs, rlen', rhythm', slugW', price', low', high', goods', wired', stick', kicks', kcnt', tube', value', paid', weight') := r1
  refine ⟨at', tok', fl, fa', xk, nI Cq, xs, at2, fi', len', k', c', s', t', rl, rlen', rhythm', slugW', price', low', high', goods', wired', stick', kicks', kcnt', tube', value', paid', weight', mr', ml', ms', np', nl', nh', ng', mv', mw', nt', ?_, r2, r3, ?_⟩
  · unfold fX2_read fX1_clear fX4_clear
    rw [e1, bd_s]
    dsimp only
    rw [bd_s]
    dsimp only
    rw [e3, bd_s, e4, bd_s]
    dsimp only
    rw [bd_s]
    dsimp only
    rw [h3, bd_s, r1, bd_s]
    dsimp only
    rw [q1, bd_s]
  · rcases r4 with r4 | ⟨z1, z2, K', C', S', T', ⟨y1, y2, y3⟩, y4, y5⟩
    · exact .inl r4
    · refine .inr ⟨z1, z2, K', C', S', T', ⟨y1, y2, y3⟩, y4, fun c hc => q2 c ?_, y5⟩
      have := (nI_eq (by omega) (by have := y5.2.1.1; omega)).mp y2
      omega
