/-! words of the decompiled functions: a check of an index, of a divisor, of a boolean; a named value; a call's answer -/
def inb (i : Int32) (n : Nat) : Bool := decide (¬ i < 0) && decide (i.toNatClampNeg < n)
def ck {α : Type} (i : Int32) (n : Nat) (a : Option α) : Option α := if inb i n = true then a else none
def nz {α : Type} (y : Int32) (a : Option α) : Option α := if y = 0 then none else a
def nzL {α : Type} (y : Int64) (a : Option α) : Option α := if y = 0 then none else a
def bl {α : Type} (y : Int32) (a : Option α) : Option α := if y = 0 then a else if y = 1 then a else none
def lt {α β : Type} (a : α) (f : α → Option β) : Option β := f a
def bd {α β : Type} (o : Option α) (f : α → Option β) : Option β := match o with
  | none => none
  | some a => f a
theorem ck_el {α : Type} {i : Int32} {n : Nat} {a : Option α} {r : α} (h : ck i n a = some r) : vp_in i n ∧ a = some r := by
  unfold ck at h
  by_cases hb : inb i n = true
  · rw [if_pos hb] at h
    refine ⟨?_, h⟩
    unfold inb at hb
    rw [Bool.and_eq_true, decide_eq_true_eq, decide_eq_true_eq] at hb
    intro q
    rcases q with q | q
    · exact hb.1 q
    · exact absurd hb.2 (Nat.not_lt.mpr q)
  · rw [if_neg hb] at h
    cases h
theorem nz_el {α : Type} {y : Int32} {a : Option α} {r : α} (h : nz y a = some r) : ¬ y = 0 ∧ a = some r := by
  unfold nz at h
  by_cases hb : y = 0
  · rw [if_pos hb] at h; cases h
  · rw [if_neg hb] at h; exact ⟨hb, h⟩
theorem nzL_el {α : Type} {y : Int64} {a : Option α} {r : α} (h : nzL y a = some r) : ¬ y = 0 ∧ a = some r := by
  unfold nzL at h
  by_cases hb : y = 0
  · rw [if_pos hb] at h; cases h
  · rw [if_neg hb] at h; exact ⟨hb, h⟩
theorem bl_el {α : Type} {y : Int32} {a : Option α} {r : α} (h : bl y a = some r) : narrow .boolean (.int y) = .int y ∧ a = some r := by
  unfold bl at h
  by_cases hb : y = 0
  · rw [if_pos hb] at h; subst hb; exact ⟨rfl, h⟩
  · rw [if_neg hb] at h
    by_cases hc : y = 1
    · rw [if_pos hc] at h; subst hc; exact ⟨rfl, h⟩
    · rw [if_neg hc] at h; cases h
theorem lt_at {α β : Type} {x a : α} {f : α → Option β} {r : β} (e : x = a) (h : lt a f = some r) : f x = some r := by subst e; exact h
theorem bd_el {α β : Type} {o : Option α} {f : α → Option β} {r : β} (h : bd o f = some r) : ∃ a, o = some a ∧ f a = some r := by
  cases o with
  | none => cases h
  | some a => exact ⟨a, rfl, h⟩
theorem if_t {α : Type} {c : Prop} {i : Decidable c} {a b r : α} (hc : c) (h : (@ite α c i a b) = r) : a = r := (if_pos hc).symm.trans h
theorem if_f {α : Type} {c : Prop} {i : Decidable c} {a b r : α} (hc : ¬ c) (h : (@ite α c i a b) = r) : b = r := (if_neg hc).symm.trans h
def im2 (a b : Nat) : Nat → Option Nat := va_up (va_up (fun _ => none) 0 (some a)) 1 (some b)
theorem im2_0 (a b : Nat) : va_rf (im2 a b (Int32.toNatClampNeg 0)) = .ref a := rfl
theorem im2_1 (a b : Nat) : va_rf (im2 a b (Int32.toNatClampNeg 1)) = .ref b := rfl
theorem im2_t {a b : Nat} {i : Int32} (h : i = 0) : va_rf (im2 a b (Int32.toNatClampNeg i)) = .ref a := by subst h; rfl
theorem im2_f {a b : Nat} {i : Int32} (h : ¬ i = 0) (hi : vp_in i 2) : va_rf (im2 a b (Int32.toNatClampNeg i)) = .ref b := by
  obtain ⟨j, hj, rfl⟩ := vp_in_of hi (by decide)
  rcases (show j = 0 ∨ j = 1 by omega) with rfl | rfl
  · exact absurd nI_0 h
  · rfl
theorem sw_ne {x k : Int32} (h : ¬ x = k) : x.toInt ≠ k.toInt := fun e => h (Int32.toInt_inj.mp e)
/-! worlds: the places of a callee's cells get its new cells; the addresses stay -/
theorem dF {A : Nat → Prop} {ws ws' : va_W} (h : va_D A ws) (e : ws.map Prod.fst = ws'.map Prod.fst) : va_D A ws' := by
  have key : ∀ (k : Nat) (q : Nat × va_E), ws'[k]? = some q → ∃ q0, ws[k]? = some q0 ∧ q0.1 = q.1 := by
    intro k q hk
    have h1 : (ws'.map Prod.fst)[k]? = some q.1 := by rw [List.getElem?_map, hk]; rfl
    rw [← e, List.getElem?_map] at h1
    cases hz : ws[k]? with
    | none => rw [hz] at h1; cases h1
    | some q0 => rw [hz] at h1; exact ⟨q0, rfl, Option.some.inj h1⟩
  refine ⟨fun i j x y hi hj hxy => ?_, fun k q hk => ?_⟩
  · obtain ⟨x0, a1, a2⟩ := key i x hi
    obtain ⟨y0, b1, b2⟩ := key j y hj
    exact h.1 i j x0 y0 a1 b1 (a2.trans (hxy.trans b2.symm))
  · obtain ⟨q0, a1, a2⟩ := key k q hk
    rw [← a2]; exact h.2 k q0 a1
theorem fm_map {α β : Type} {f : α → Option β} : ∀ (is : List α) (w : List β), is.map f = w.map some → is.filterMap f = w
  | [], [], _ => rfl
  | [], _ :: _, h => by simp at h
  | _ :: _, [], h => by simp at h
  | i :: is, q :: qs, h => by
    rw [List.map_cons, List.map_cons] at h
    injection h with h1 h2
    rw [List.filterMap_cons, h1]
    show q :: is.filterMap f = q :: qs
    rw [fm_map is qs h2]
theorem mcN {wx : va_W} : ([] : List Nat).map (fun i => wx[i]?) = ([] : va_W).map some := rfl
theorem mcC {wx : va_W} {i : Nat} {is : List Nat} {q : Nat × va_E} {qs : va_W} (h : wx[i]? = some q) (t : is.map (fun i => wx[i]?) = qs.map some) : (i :: is).map (fun i => wx[i]?) = (q :: qs).map some := by rw [List.map_cons, List.map_cons, h, t]
def cov (isC isR : List Nat) (n : Nat) : Bool := (List.range n).all (fun k => decide (k ∈ isC) || decide (k ∈ isR)) && isR.all (fun k => decide (k ∉ isC))
/-- behind a call: a world wy that has the callee's new cells at the callee's places, and the old ones at the others -/
theorem jn2 {A0 : Nat → Prop} {D : va_G} {cl : List vw_C} {ws wc w1 wy : va_W} {H H1 : Heap} (hP : va_P D cl ws H) (hD : va_D A0 ws) (isC isR : List Nat) (hC : isC.map (fun i => ws[i]?) = wc.map some) (h1 : isC.map (fun i => wy[i]?) = w1.map some) (h2 : isR.map (fun i => wy[i]?) = isR.map (fun i => ws[i]?)) (hcv : cov isC isR wy.length = true)
    (hk : ∀ q : Nat, q < H.size → ¬ va_A wc H.size q → H1[q]? = H[q]?) (hP1 : va_P D cl w1 H1) : va_P D cl wy H1 := by
  unfold cov at hcv
  rw [Bool.and_eq_true, List.all_eq_true, List.all_eq_true] at hcv
  intro k q hq
  have hkl : k < wy.length := (List.getElem?_eq_some_iff.mp hq).1
  have hk1 := hcv.1 k (List.mem_range.mpr hkl)
  rw [Bool.or_eq_true, decide_eq_true_eq, decide_eq_true_eq] at hk1
  rcases hk1 with hk1 | hk1
  · obtain ⟨j, hj⟩ := List.getElem?_of_mem hk1
    have g : (isC.map (fun i => wy[i]?))[j]? = some (some q) := by rw [List.getElem?_map, hj]; show some (wy[k]?) = _; rw [hq]
    rw [h1, List.getElem?_map] at g
    cases hz : w1[j]? with
    | none => rw [hz] at g; cases g
    | some q0 => rw [hz] at g; cases g; exact hP1 j q hz
  · obtain ⟨j, hj⟩ := List.getElem?_of_mem hk1
    have g : (isR.map (fun i => wy[i]?))[j]? = some (some q) := by rw [List.getElem?_map, hj]; show some (wy[k]?) = _; rw [hq]
    rw [h2, List.getElem?_map, hj] at g
    have g2 : ws[k]? = some q := Option.some.inj g
    have hnc := hcv.2 k hk1
    rw [decide_eq_true_eq] at hnc
    have hlt := (hP k q g2).lt
    refine (hP k q g2).kept (hk q.1 hlt (fun z => ?_))
    rcases z with ⟨k2, e, z⟩ | z
    · have g1 : (isC.map (fun i => ws[i]?))[k2]? = some (some (q.1, e)) := by rw [hC, List.getElem?_map, z]; rfl
      rw [List.getElem?_map] at g1
      cases hi : isC[k2]? with
      | none => rw [hi] at g1; cases g1
      | some i =>
        rw [hi] at g1
        have g3 : ws[i]? = some (q.1, e) := Option.some.inj g1
        have g4 := hD.1 k i q (q.1, e) g2 g3 rfl
        subst g4
        exact hnc (List.mem_of_getElem? hi)
    · omega
/-- the array classes of the worlds -/
abbrev TY (cI cZ cB cS : ClassId) : List (ClassId × FieldType) := [(cI, .int), (cZ, .boolean), (cB, .byte), (cS, .object "SoupWall$State")]
/-- the links to fields and constructors of nest mates -/
def nestF : List (String × Nat × String × String × String) := [("SoupWall", 76, "SoupWall$Text", "length", "I"), ("SoupWall$Reader", 46, "SoupWall$Text", "length", "I"), ("SoupWall", 138, "SoupWall$Plan", "value", "[I"), ("SoupWall", 142, "SoupWall$Plan", "weight", "[I"), ("SoupWall$Reader", 91, "SoupWall$Plan", "kinds", "I"), ("SoupWall", 108, "SoupWall$Plan", "kinds", "I"), ("SoupWall", 104, "SoupWall$Plan", "columns", "I"), ("SoupWall$Reader", 111, "SoupWall$Plan", "columns", "I"), ("SoupWall$Reader", 118, "SoupWall$Plan", "slugs", "I"), ("SoupWall", 111, "SoupWall$Plan", "slugs", "I"), ("SoupWall$Reader", 104, "SoupWall$State", "tube", "[I"), ("SoupWall", 149, "SoupWall$State", "tube", "[I"), ("SoupWall$Plan", 63, "SoupWall$State", "tube", "[I"), ("SoupWall", 167, "SoupWall$State", "goods", "[I"), ("SoupWall$Plan", 79, "SoupWall$State", "goods", "[I"), ("SoupWall", 170, "SoupWall$State", "stick", "[I"), ("SoupWall$Plan", 104, "SoupWall$State", "stick", "[I"), ("SoupWall", 196, "SoupWall$State", "kicks", "[I"), ("SoupWall", 199, "SoupWall$State", "kickCount", "[I"), ("SoupWall", 161, "SoupWall$State", "low", "[I"), ("SoupWall$Plan", 53, "SoupWall$State", "low", "[I"), ("SoupWall", 164, "SoupWall$State", "high", "[I"), ("SoupWall$Plan", 56, "SoupWall$State", "high", "[I"), ("SoupWall", 158, "SoupWall$State", "price", "[I"), ("SoupWall$Plan", 66, "SoupWall$State", "price", "[I"), ("SoupWall", 176, "SoupWall$State", "wired", "[I"), ("SoupWall$Plan", 73, "SoupWall$State", "wired", "[I"), ("SoupWall", 114, "SoupWall$State", "lost", "I"), ("SoupWall", 117, "SoupWall$State", "stamps", "I"), ("SoupWall$Plan", 92, "SoupWall$State", "stamps", "I"), ("SoupWall", 120, "SoupWall$State", "sales", "I"), ("SoupWall$Plan", 101, "SoupWall$State", "sales", "I"), ("SoupWall", 123, "SoupWall$State", "damp", "I"), ("SoupWall$Plan", 107, "SoupWall$State", "damp", "I"), ("SoupWall", 126, "SoupWall$State", "worn", "I"), ("SoupWall$Plan", 44, "SoupWall$State", "worn", "I"), ("SoupWall", 94, "SoupWall$State", "seed", "I"), ("SoupWall", 107, "SoupWall$Reader", "plan", "LSoupWall$Plan;"), ("SoupWall", 91, "SoupWall$Reader", "start", "LSoupWall$State;"), ("SoupWall", 88, "SoupWall$Reader", "fault", "I"), ("SoupWall", 87, "SoupWall$Reader", "faultAt", "I"), ("SoupWall", 271, "SoupWall$Buyers", "column", "[I"), ("SoupWall", 274, "SoupWall$Buyers", "kind", "[I"), ("SoupWall", 277, "SoupWall$Buyers", "coins", "[I"), ("SoupWall", 100, "SoupWall$Buyers", "count", "I"), ("SoupWall", 103, "SoupWall$Tries", "count", "I"), ("SoupWall", 251, "SoupWall$Row", "coins", "[I"), ("SoupWall", 233, "SoupWall$Row", "total", "I")]
def nestM : List (String × Nat × String) := [("SoupWall", 9, "SoupWall$Text"), ("SoupWall$Reader", 11, "SoupWall$Plan"), ("SoupWall$Reader", 20, "SoupWall$State"), ("SoupWall", 37, "SoupWall$Buyers"), ("SoupWall", 44, "SoupWall$Tries"), ("SoupWall", 49, "SoupWall$State"), ("SoupWall", 56, "SoupWall$Row"), ("SoupWall", 63, "SoupWall$Plan")]
def NL (U : State) : Prop := (∀ q ∈ nestF, va_Nw (.fieldLinkNest q.1 q.2.1 q.2.2.1 q.2.2.2.1 q.2.2.2.2 "SoupWall") U) ∧ (∀ q ∈ nestM, va_Nw (.methodLinkNest q.1 q.2.1 ⟨q.2.2, "<init>", "()V"⟩ "SoupWall") U) ∧ va_AO "SoupWall$State" U
theorem NL.warm {s U : State} (hW : s.WarmedH U.vm) (h : NL s) : NL U := ⟨fun q hq => va_Nw.warmF hW (h.1 q hq), fun q hq => va_Nw.warmM hW (h.2.1 q hq), h.2.2.moved hW.alike⟩
theorem NL.same {u U : State} (e : u.vm = U.vm) (h : NL u) : NL U := ⟨fun q hq => va_Nw.same rfl e (h.1 q hq), fun q hq => va_Nw.same rfl e (h.2.1 q hq), h.2.2.moved (by rw [e]; exact Vm.Alike.refl _)⟩
theorem NL.f {s : State} {args : Array Value} {a b f d : String} {i : Nat} (h : NL s) (k : Nat) (hq : nestF[k]? = some (a, i, b, f, d)) : (Cond.fieldLinkNest a i b f d "SoupWall").before args s = true := va_Nw.use rfl (h.1 _ (List.mem_of_getElem? hq))
theorem NL.m {s : State} {a b : String} {i : Nat} (h : NL s) (k : Nat) (hq : nestM[k]? = some (a, i, b)) : va_Nw (.methodLinkNest a i ⟨b, "<init>", "()V"⟩ "SoupWall") s := h.2.1 _ (List.mem_of_getElem? hq)
/-! the String constants of the reader, and the statics that their methods read -/
def lenS : List Nat := [4, 6, 4, 4]
def bytS : List (List Int32) := [[99, 111, 105, 110], [99, 111, 108, 117, 109, 110], [115, 108, 117, 103], [107, 105, 99, 107]]
def SX (kK kV : Nat → Nat) (A : Nat → Prop) (U : State) (H : Heap) : Prop :=
  vk_S 4 lenS bytS kK kV A U H ∧ (vk_R "SoupWall$Reader" 60 "coin" (kK 0) U ∧ vk_R "SoupWall$Reader" 69 "column" (kK 1) U ∧ vk_R "SoupWall$Reader" 74 "slug" (kK 2) U ∧ vk_R "SoupWall$Reader" 79 "kick" (kK 3) U) ∧ va_Z "java/lang/String" "COMPACT_STRINGS" "Z" (.int 1) A U H ∧ va_Zq "jdk/internal/util/Preconditions" "SIOOBE_FORMATTER" "Ljava/util/function/BiFunction;" A U H
theorem SX.go {kK kV : Nat → Nat} {A B : Nat → Prop} {s U : State} {H : Heap} {locs : List Loc} (hW : s.WarmedH U.vm) (hS : va_S A s.heap H locs) (hAB : ∀ q, B q → A q) (h : SX kK kV A s s.heap) : SX kK kV B U H :=
  ⟨((h.1.moved hW.alike).kept hS.2.1).narrow hAB, ⟨h.2.1.1.warm hW, h.2.1.2.1.warm hW, h.2.1.2.2.1.warm hW, h.2.1.2.2.2.warm hW⟩, ((h.2.2.1.moved hW.alike).kept hS.2.1).narrow hAB, ((h.2.2.2.moved hW.alike).kept hS.2.1).narrow hAB⟩
theorem SX.same {kK kV : Nat → Nat} {A : Nat → Prop} {u U : State} {H : Heap} (e : U.vm = u.vm) (h : SX kK kV A u H) : SX kK kV A U H :=
  have hv : u.vm.Alike U.vm := by rw [e]; exact Vm.Alike.refl _
  ⟨h.1.moved hv, ⟨h.2.1.1.same e, h.2.1.2.1.same e, h.2.1.2.2.1.same e, h.2.1.2.2.2.same e⟩, h.2.2.1.moved hv, h.2.2.2.moved hv⟩
/-- a contract: no cell is made; the cells w0 become w1; the answer is r -/
def CtP (D : va_G) (ty : List (ClassId × FieldType)) (kK kV : Nat → Nat) (av : List Value) (w0 : va_W) (sz : Nat) : Array Value → State → Prop := va_Pc av (fun U => U.heap.size = sz ∧ va_P D vwCl w0 U.heap ∧ va_K D vwCl ty U ∧ NL U ∧ SX kK kV (va_A w0 sz) U U.heap ∧ va_D (fun _ => True) w0)
def CtI (l : Launch) (y : MethodName) (ws : List Cond) (rm : Room) (D : va_G) (ty : List (ClassId × FieldType)) (kK kV : Nat → Nat) (av : List Value) (w0 w1 : va_W) (sz : Nat) (r : Int32) : Prop :=
  Met l y ws rm (CtP D ty kK kV av w0 sz) (va_Qi (fun (x : Int32) (_ : Unit) => x = r) (fun _ t => va_P D vwCl w1 t.heap) (va_A w0 sz)) 0 0 (va_A w0 sz)
def CtV (l : Launch) (y : MethodName) (ws : List Cond) (rm : Room) (D : va_G) (ty : List (ClassId × FieldType)) (kK kV : Nat → Nat) (av : List Value) (w0 w1 : va_W) (sz : Nat) : Prop :=
  Met l y ws rm (CtP D ty kK kV av w0 sz) (va_Qv (fun (_ : Unit) => True) (fun _ t => va_P D vwCl w1 t.heap) (va_A w0 sz)) 0 0 (va_A w0 sz)
/-- a constructor's contract: mc cells of ms slots come; the world behind it, by the new addresses -/
def CtN (l : Launch) (y : MethodName) (ws : List Cond) (rm : Room) (D : va_G) (ty : List (ClassId × FieldType)) (kK kV : Nat → Nat) (av : List Value) (w0 : va_W) (w1 : (Nat → Nat) → va_W) (mc ms sz : Nat) : Prop :=
  Met l y ws rm (CtP D ty kK kV av w0 sz) (va_Qv (fun (_ : Nat → Nat) => True) (fun a t => va_P D vwCl (w1 a) t.heap ∧ va_D (va_A w0 sz) (w1 a)) (va_A w0 sz)) mc ms (va_A w0 sz)
theorem CtP.blind (D : va_G) (ty : List (ClassId × FieldType)) (kK kV : Nat → Nat) (av : List Value) (w0 : va_W) (sz : Nat) : FrameBlind (CtP D ty kK kV av w0 sz) := by
  intro a U g mk q
  obtain ⟨q0, q1, qP, qK, qN, qX, qD⟩ := q
  exact ⟨q0, q1, qP, va_K.moved (u := U) (U := U.calling g mk a) (Vm.Alike.refl U.vm) qK, NL.same (u := U) (U := U.calling g mk a) rfl qN, SX.same (u := U) (U := U.calling g mk a) rfl qX, qD⟩
theorem CtP.give {D : va_G} {ty : List (ClassId × FieldType)} {kK kV : Nat → Nat} {av : List Value} {w0 wx : va_W} {H : Heap} {s : State} {A0 : Nat → Prop} {locs : List Loc} (hK : va_K D vwCl ty s) (hN : NL s) (hX : SX kK kV A0 s s.heap) (hP : va_P D vwCl wx H) (hD : va_D A0 wx) (hS : va_S A0 s.heap H locs) (hA : ∀ q, s.heap.size ≤ q → A0 q) (isC : List Nat) (hC : isC.map (fun i => wx[i]?) = w0.map some) (hn0 : va_nd isC = true) : ∀ U : State, U.heap = H → s.WarmedH U.vm → CtP D ty kK kV av w0 H.size av.toArray U :=
  fun U hU hW => ⟨rfl, by rw [hU], by rw [hU]; exact hP.sub isC (fm_map isC w0 hC), va_K.moved hW.alike hK, NL.warm hW hN, by rw [hU]; exact SX.go hW hS (va_free hD hS hA isC hC) hX, (hD.sub isC hn0 hC).weaken (fun _ _ _ _ => trivial)⟩
section BASE
variable {p : Program} {l : Launch} {e : Env} {R : Room} {s : State} {m : MethodId} {args : Array Value} {below : List Frame} {meth : Method} {c : Code} {H : Heap} {locs : List Loc} {Q : State → Prop}
variable {pc : Nat} {ls : Array Slot} {rest st0 : List Value} {A0 : Nat → Prop} {cells slots : Nat}
variable {y : MethodName} {bytes cc : ByteArray} {maxL nL n index ci : Nat} {ret : Option FieldType} {ws ws' : List Cond} {rm : Room} {Ts : List Cond} {own C : String} {b : Addr} {As fs : List Value} {D : va_G} {ty : List (ClassId × FieldType)} {kK kV : Nat → Nat} {w0 w1 wx : va_W} {r : Int32} {T : u_T} {Nf sz : Nat} {rt : FieldType} {av : List Value} {args1 : Array Value}
/-- a call of a method of an object -/
theorem callVI (S : CallFix p m c cc nL s args Ts own) (hM : CtI l y ws rm D ty kK kV (.ref b :: As) w0 w1 H.size r) (cw : CallW R s args own C index y bytes maxL ret ws rm 0 0 n)
    (hK : va_K D vwCl ty s) (hN : NL s) (hX : SX kK kV A0 s s.heap) (hP : va_P D vwCl wx H) (hD : va_D A0 wx) (hS : va_S A0 s.heap H locs) (hA : ∀ q, s.heap.size ≤ q → A0 q) (isC : List Nat) (hC : isC.map (fun i => wx[i]?) = w0.map some) (hn0 : va_nd isC = true) (wy : va_W) (isR : List Nat) (h1 : isC.map (fun i => wy[i]?) = w1.map some) (h2 : isR.map (fun i => wy[i]?) = isR.map (fun i => wx[i]?)) (nn : Nat) (hnn : wy.length = nn) (hcv : cov isC isR nn = true)
    (hr : ∃ cell : Cell, H[b]? = some cell ∧ cell.vm.isStatics = false ∧ s.vm.findClass C = some cell.cls)
    (hn : As.length = n) (hsize : ls.size = nL) (hstack : st0 = As.reverse ++ .ref b :: rest) (hW : (rest.map fun v => v.category).sum ≤ 8) (hf : cells ≤ R.cells ∧ slots ≤ R.slots) (hdg : decode cc pc = .ok (.invokevirtual index, 3))
    (kk : ∀ (H1 : Heap) (locs1 : List Loc), va_P D vwCl wy H1 → va_S A0 s.heap H1 locs1 → W p l e R s m args below meth c H1 locs1 cells slots Q (F0 m (pc + 3) ls (.int r :: rest))) : W p l e R s m args below meth c H locs cells slots Q (F0 m pc ls st0) := by
  have hFc := va_free hD hS hA isC hC
  refine va_calli (va_runV (As := As) (rest := rest) S hM cw ⟨CtP.blind D ty kK kV _ w0 _, hr, CtP.give hK hN hX hP hD hS hA isC hC hn0⟩ rfl hn hsize hstack (lv_room hW) hdg hf) hS (fun q _ h => hFc q h) hFc (fun r' u t H1 locs1 ht hvm hw hB hz1 hk1 hS => ?_)
  subst hw
  rw [ht] at hB
  exact kk H1 locs1 (jn2 hP hD isC isR hC h1 h2 (hnn.symm ▸ hcv) hk1 hB) hS
/-- a call of a static method -/
theorem callSI (S : CallFix p m c cc nL s args Ts own) (hM : CtI l y ws rm D ty kK kV As w0 w1 H.size r) (cw : CallB R s args own index y bytes maxL ret ws rm 0 0 n ∧ (Cond.static y).before args s = true)
    (hK : va_K D vwCl ty s) (hN : NL s) (hX : SX kK kV A0 s s.heap) (hP : va_P D vwCl wx H) (hD : va_D A0 wx) (hS : va_S A0 s.heap H locs) (hA : ∀ q, s.heap.size ≤ q → A0 q) (isC : List Nat) (hC : isC.map (fun i => wx[i]?) = w0.map some) (hn0 : va_nd isC = true) (wy : va_W) (isR : List Nat) (h1 : isC.map (fun i => wy[i]?) = w1.map some) (h2 : isR.map (fun i => wy[i]?) = isR.map (fun i => wx[i]?)) (nn : Nat) (hnn : wy.length = nn) (hcv : cov isC isR nn = true)
    (hn : As.length = n) (hsize : ls.size = nL) (hstack : st0 = As.reverse ++ rest) (hW : (rest.map fun v => v.category).sum ≤ 8) (hf : cells ≤ R.cells ∧ slots ≤ R.slots) (hdg : decode cc pc = .ok (.invokestatic index, 3))
    (kk : ∀ (H1 : Heap) (locs1 : List Loc), va_P D vwCl wy H1 → va_S A0 s.heap H1 locs1 → W p l e R s m args below meth c H1 locs1 cells slots Q (F0 m (pc + 3) ls (.int r :: rest))) : W p l e R s m args below meth c H locs cells slots Q (F0 m pc ls st0) := by
  have hFc := va_free hD hS hA isC hC
  refine va_calli (va_runS (As := As) (rest := rest) S hM cw ⟨CtP.blind D ty kK kV _ w0 _, CtP.give hK hN hX hP hD hS hA isC hC hn0⟩ rfl hn hsize hstack (lv_room hW) hdg hf) hS (fun q _ h => hFc q h) hFc (fun r' u t H1 locs1 ht hvm hw hB hz1 hk1 hS => ?_)
  subst hw
  rw [ht] at hB
  exact kk H1 locs1 (jn2 hP hD isC isR hC h1 h2 (hnn.symm ▸ hcv) hk1 hB) hS
/-- a call of a method of an object -/
theorem callVV (S : CallFix p m c cc nL s args Ts own) (hM : CtV l y ws rm D ty kK kV (.ref b :: As) w0 w1 H.size) (cw : CallW R s args own C index y bytes maxL ret ws rm 0 0 n)
    (hK : va_K D vwCl ty s) (hN : NL s) (hX : SX kK kV A0 s s.heap) (hP : va_P D vwCl wx H) (hD : va_D A0 wx) (hS : va_S A0 s.heap H locs) (hA : ∀ q, s.heap.size ≤ q → A0 q) (isC : List Nat) (hC : isC.map (fun i => wx[i]?) = w0.map some) (hn0 : va_nd isC = true) (wy : va_W) (isR : List Nat) (h1 : isC.map (fun i => wy[i]?) = w1.map some) (h2 : isR.map (fun i => wy[i]?) = isR.map (fun i => wx[i]?)) (nn : Nat) (hnn : wy.length = nn) (hcv : cov isC isR nn = true)
    (hr : ∃ cell : Cell, H[b]? = some cell ∧ cell.vm.isStatics = false ∧ s.vm.findClass C = some cell.cls)
    (hn : As.length = n) (hsize : ls.size = nL) (hstack : st0 = As.reverse ++ .ref b :: rest) (hW : (rest.map fun v => v.category).sum ≤ 8) (hf : cells ≤ R.cells ∧ slots ≤ R.slots) (hdg : decode cc pc = .ok (.invokevirtual index, 3))
    (kk : ∀ (H1 : Heap) (locs1 : List Loc), va_P D vwCl wy H1 → va_S A0 s.heap H1 locs1 → W p l e R s m args below meth c H1 locs1 cells slots Q (F0 m (pc + 3) ls (rest))) : W p l e R s m args below meth c H locs cells slots Q (F0 m pc ls st0) := by
  have hFc := va_free hD hS hA isC hC
  refine va_callv (va_runV (As := As) (rest := rest) S hM cw ⟨CtP.blind D ty kK kV _ w0 _, hr, CtP.give hK hN hX hP hD hS hA isC hC hn0⟩ rfl hn hsize hstack (lv_room hW) hdg hf) hS (fun q _ h => hFc q h) hFc (fun u t H1 locs1 ht hvm hw hB hz1 hk1 hS => ?_)
  skip
  rw [ht] at hB
  exact kk H1 locs1 (jn2 hP hD isC isR hC h1 h2 (hnn.symm ▸ hcv) hk1 hB) hS
/-- a call of a static method -/
theorem callSV (S : CallFix p m c cc nL s args Ts own) (hM : CtV l y ws rm D ty kK kV As w0 w1 H.size) (cw : CallB R s args own index y bytes maxL ret ws rm 0 0 n ∧ (Cond.static y).before args s = true)
    (hK : va_K D vwCl ty s) (hN : NL s) (hX : SX kK kV A0 s s.heap) (hP : va_P D vwCl wx H) (hD : va_D A0 wx) (hS : va_S A0 s.heap H locs) (hA : ∀ q, s.heap.size ≤ q → A0 q) (isC : List Nat) (hC : isC.map (fun i => wx[i]?) = w0.map some) (hn0 : va_nd isC = true) (wy : va_W) (isR : List Nat) (h1 : isC.map (fun i => wy[i]?) = w1.map some) (h2 : isR.map (fun i => wy[i]?) = isR.map (fun i => wx[i]?)) (nn : Nat) (hnn : wy.length = nn) (hcv : cov isC isR nn = true)
    (hn : As.length = n) (hsize : ls.size = nL) (hstack : st0 = As.reverse ++ rest) (hW : (rest.map fun v => v.category).sum ≤ 8) (hf : cells ≤ R.cells ∧ slots ≤ R.slots) (hdg : decode cc pc = .ok (.invokestatic index, 3))
    (kk : ∀ (H1 : Heap) (locs1 : List Loc), va_P D vwCl wy H1 → va_S A0 s.heap H1 locs1 → W p l e R s m args below meth c H1 locs1 cells slots Q (F0 m (pc + 3) ls (rest))) : W p l e R s m args below meth c H locs cells slots Q (F0 m pc ls st0) := by
  have hFc := va_free hD hS hA isC hC
  refine va_callv (va_runS (As := As) (rest := rest) S hM cw ⟨CtP.blind D ty kK kV _ w0 _, CtP.give hK hN hX hP hD hS hA isC hC hn0⟩ rfl hn hsize hstack (lv_room hW) hdg hf) hS (fun q _ h => hFc q h) hFc (fun u t H1 locs1 ht hvm hw hB hz1 hk1 hS => ?_)
  skip
  rw [ht] at hB
  exact kk H1 locs1 (jn2 hP hD isC isR hC h1 h2 (hnn.symm ▸ hcv) hk1 hB) hS
/-- a contract out of a walk from the entry; its end is given as a rule -/
theorem mkI (hy : plainName y.cls = true) (hw : ws = Cond.code y cc maxL (some rt) :: ws') (ho : y.cls = own) (hml : (lg_sl av).length ≤ maxL)
    (body : ∀ (p : Program) (e : Env) (s : State) (m : MethodId) (args : Array Value) (below : List Frame) (meth : Method) (c : Code) (A : Nat → Prop) (Z : State → Prop) (ls : Array Slot), p.tables.exec = Jvm.exec → c.code = cc → c.maxLocals = maxL → s.vm.findClass own = some m.cls → (∀ w ∈ ws, w.before args s = true) → va_K D vwCl ty s → NL s → SX kK kV A s s.heap → va_P D vwCl w0 s.heap → va_D A w0 → (∀ q, s.heap.size ≤ q → A q) → va_S A s.heap s.heap [] →
      (∀ (H : Heap) (locs : List Loc) (ls : Array Slot) (pc : Nat), va_P D vwCl w1 H → va_S A s.heap H locs → narrow rt (.int r) = .int r → decode cc pc = .ok (.ireturn, 1) → W p l e rm s m args below meth c H locs 0 0 Z (F0 m pc ls [.int r])) → lv_has ls maxL (lv_args 0 av) → W p l e rm s m args below meth c s.heap [] 0 0 Z (F0 m 0 ls [])) : CtI l y ws rm D ty kK kV av w0 w1 sz r := by
  refine Met.ofW (cc := cc) (maxL := maxL) (ret := (some rt)) hy hw ?_
  intro p e s m args below meth c s₁ B hml9 hv
  obtain ⟨rfl, hsz, hP, hK, hN, hX, hD0⟩ := hv
  have hx := B.exec
  have hb := B.bytes
  have hr := B.returns
  have hts := atoms_spec (ws := ws) B.pre
  have hown : s.vm.findClass y.cls = some m.cls := findClass_of_methodNamed B.named
  rw [ho] at hown
  have hlocks := B.notSynchronized
  subst hsz
  have hD := hD0.self (sz := s.heap.size)
  rw [lg_entry_eq]
  exact body p e s m _ below meth c (va_A w0 s.heap.size) _ _ hx hb hml9 hown hts hK hN hX hP hD (fun q h => Or.inr h) va_S.rf (fun H locs ls pc hP9 hS hn hdg => W.zret hx hb hr hn (fun t ht hW => ⟨⟨r, (), rfl, rfl, by show va_P D vwCl w1 t.heap; rw [ht]; exact hP9⟩, hS.F ht⟩) hS.2.2 hdg) (lv_entry av hml)
/-- a contract out of a walk from the entry; its end is given as a rule -/
theorem mkV (hy : plainName y.cls = true) (hw : ws = Cond.code y cc maxL none :: ws') (ho : y.cls = own) (hml : (lg_sl av).length ≤ maxL)
    (body : ∀ (p : Program) (e : Env) (s : State) (m : MethodId) (args : Array Value) (below : List Frame) (meth : Method) (c : Code) (A : Nat → Prop) (Z : State → Prop) (ls : Array Slot), p.tables.exec = Jvm.exec → c.code = cc → c.maxLocals = maxL → s.vm.findClass own = some m.cls → (∀ w ∈ ws, w.before args s = true) → va_K D vwCl ty s → NL s → SX kK kV A s s.heap → va_P D vwCl w0 s.heap → va_D A w0 → (∀ q, s.heap.size ≤ q → A q) → va_S A s.heap s.heap [] →
      (∀ (H : Heap) (locs : List Loc) (ls : Array Slot) (pc : Nat), va_P D vwCl w1 H → va_S A s.heap H locs → decode cc pc = .ok (.return_, 1) → W p l e rm s m args below meth c H locs 0 0 Z (F0 m pc ls [])) → lv_has ls maxL (lv_args 0 av) → W p l e rm s m args below meth c s.heap [] 0 0 Z (F0 m 0 ls [])) : CtV l y ws rm D ty kK kV av w0 w1 sz := by
  refine Met.ofW (cc := cc) (maxL := maxL) (ret := none) hy hw ?_
  intro p e s m args below meth c s₁ B hml9 hv
  obtain ⟨rfl, hsz, hP, hK, hN, hX, hD0⟩ := hv
  have hx := B.exec
  have hb := B.bytes
  have hr := B.returns
  have hts := atoms_spec (ws := ws) B.pre
  have hown : s.vm.findClass y.cls = some m.cls := findClass_of_methodNamed B.named
  rw [ho] at hown
  have hlocks := B.notSynchronized
  subst hsz
  have hD := hD0.self (sz := s.heap.size)
  rw [lg_entry_eq]
  exact body p e s m _ below meth c (va_A w0 s.heap.size) _ _ hx hb hml9 hown hts hK hN hX hP hD (fun q h => Or.inr h) va_S.rf (fun H locs ls pc hP9 hS hdg => W.vret hx hb hr (fun t ht hW => ⟨⟨(), rfl, trivial, by show va_P D vwCl w1 t.heap; rw [ht]; exact hP9⟩, hS.F ht⟩) hS.2.2 hdg) (lv_entry av hml)
theorem mkN {w2 : (Nat → Nat) → va_W} {mc ms : Nat} (hy : plainName y.cls = true) (hw : ws = Cond.code y cc maxL none :: ws') (ho : y.cls = own) (hml : (lg_sl av).length ≤ maxL) (hini : y.name = "<init>")
    (body : ∀ (p : Program) (e : Env) (s : State) (m : MethodId) (args : Array Value) (below : List Frame) (meth : Method) (c : Code) (A : Nat → Prop) (Z : State → Prop) (ls : Array Slot), p.tables.exec = Jvm.exec → c.code = cc → c.maxLocals = maxL → s.vm.findClass own = some m.cls → meth.name = "<init>" → (∀ w ∈ ws, w.before args s = true) → va_K D vwCl ty s → NL s → SX kK kV A s s.heap → va_P D vwCl w0 s.heap → va_D A w0 → (∀ q, s.heap.size ≤ q → A q) → va_S A s.heap s.heap [] →
      (∀ (H : Heap) (locs : List Loc) (ls : Array Slot) (pc : Nat) (a : Nat → Nat), va_P D vwCl (w2 a) H → va_D A (w2 a) → va_S A s.heap H locs → decode cc pc = .ok (.return_, 1) → W p l e rm s m args below meth c H locs mc ms Z (F0 m pc ls [])) → lv_has ls maxL (lv_args 0 av) → W p l e rm s m args below meth c s.heap [] 0 0 Z (F0 m 0 ls [])) : CtN l y ws rm D ty kK kV av w0 w2 mc ms sz := by
  refine Met.ofW (cc := cc) (maxL := maxL) (ret := none) hy hw ?_
  intro p e s m args below meth c s₁ B hml9 hv
  obtain ⟨rfl, hsz, hP, hK, hN, hX, hD0⟩ := hv
  have hx := B.exec
  have hb := B.bytes
  have hr := B.returns
  have hts := atoms_spec (ws := ws) B.pre
  have hown : s.vm.findClass y.cls = some m.cls := findClass_of_methodNamed B.named
  rw [ho] at hown
  have hin : meth.name = "<init>" := (name_of_methodNamed B.named B.method).1.trans hini
  have hlocks := B.notSynchronized
  subst hsz
  have hD := hD0.self (sz := s.heap.size)
  rw [lg_entry_eq]
  exact body p e s m _ below meth c (va_A w0 s.heap.size) _ _ hx hb hml9 hown hin hts hK hN hX hP hD (fun q h => Or.inr h) va_S.rf (fun H locs ls pc a hP9 hD9 hS hdg => W.vret hx hb hr (fun t ht hW => ⟨⟨a, rfl, trivial, by rw [ht]; exact hP9, hD9⟩, hS.F ht⟩) hS.2.2 hdg) (lv_entry av hml)
/-- behind a constructor: the rest of the world, then the object with its new cells -/
theorem callN {w2 : (Nat → Nat) → va_W} {wr : va_W} {mc ms : Nat} (hr : va_Run p l e R s m args below meth c H locs cells slots mc ms (F0 m pc ls st0) rest (va_Qv (fun (_ : Nat → Nat) => True) (fun a t => va_P D vwCl (w2 a) t.heap ∧ va_D (va_A w0 H.size) (w2 a)) (va_A w0 H.size) args1) (va_A w0 H.size))
    (hP : va_P D vwCl wx H) (hD : va_D A0 wx) (hS : va_S A0 s.heap H locs) (hA : ∀ q, s.heap.size ≤ q → A0 q) (isC isR : List Nat) (hC : isC.map (fun i => wx[i]?) = w0.map some) (hR : isR.map (fun i => wx[i]?) = wr.map some) (hn : va_nd isR = true) (hdis : ∀ i ∈ isR, i ∉ isC)
    (kk : ∀ (a : Nat → Nat) (H1 : Heap) (locs1 : List Loc), va_P D vwCl (wr ++ w2 a) H1 → va_D A0 (wr ++ w2 a) → va_S A0 s.heap H1 locs1 → W p l e R s m args below meth c H1 locs1 (cells + mc) (slots + ms) Q (F0 m (pc + 3) ls rest)) : W p l e R s m args below meth c H locs cells slots Q (F0 m pc ls st0) := by
  have hFc := va_free hD hS hA isC hC
  refine va_callv hr hS (fun q _ h => hFc q h) hFc (fun u t H1 locs1 ht hvm hw hB hz1 hk1 hS => ?_)
  obtain ⟨hP1, hD1⟩ := hB
  rw [ht] at hP1
  obtain ⟨hP, hD⟩ := va_join hP hD isC isR hC hR hn hdis hk1 hFc hP1 hD1
  exact kk u H1 locs1 hP hD hS
theorem tyI {cI cZ cB cS cA : ClassId} (h : va_K D vwCl (TY cI cZ cB cS) s) (h2 : va_K D vwCl (TY cI cZ cB cS ++ [(cA, .int)]) s) : cI = cA := Option.some.inj (((h.2 0 _ rfl).2 : s.vm.findClass _ = some cI).symm.trans ((h2.2 4 _ rfl).2 : s.vm.findClass _ = some cA))
theorem tyZ {cI cZ cB cS cA : ClassId} (h : va_K D vwCl (TY cI cZ cB cS) s) (h2 : va_K D vwCl (TY cI cZ cB cS ++ [(cA, .boolean)]) s) : cZ = cA := Option.some.inj (((h.2 1 _ rfl).2 : s.vm.findClass _ = some cZ).symm.trans ((h2.2 4 _ rfl).2 : s.vm.findClass _ = some cA))
theorem tyB {cI cZ cB cS cA : ClassId} (h : va_K D vwCl (TY cI cZ cB cS) s) (h2 : va_K D vwCl (TY cI cZ cB cS ++ [(cA, .byte)]) s) : cB = cA := Option.some.inj (((h.2 2 _ rfl).2 : s.vm.findClass _ = some cB).symm.trans ((h2.2 4 _ rfl).2 : s.vm.findClass _ = some cA))
theorem tyS {cI cZ cB cS cA : ClassId} (h : va_K D vwCl (TY cI cZ cB cS) s) (h2 : va_K D vwCl (TY cI cZ cB cS ++ [(cA, .object "SoupWall$State")]) s) : cS = cA := by
  obtain ⟨k1, c1, -, -, -, e1⟩ := (h.2 3 _ rfl).2
  obtain ⟨k2, c2, -, -, -, e2⟩ := (h2.2 4 _ rfl).2
  exact Option.some.inj (e1.symm.trans e2)
end BASE
