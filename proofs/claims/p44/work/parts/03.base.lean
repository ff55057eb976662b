/-! ===== general words of this proof: booleans in rows, worlds that keep their places, standard contracts ===== -/
def bI (b : Bool) : Int32 := if b then 1 else 0
theorem bI_n (b : Bool) : narrow .boolean (.int (bI b)) = .int (bI b) := by cases b <;> rfl
theorem bI_v (b : Bool) : vp_nar .boolean (bI b) = bI b := by cases b <;> rfl
theorem bI_t : bI true = 1 := rfl
theorem bI_f : bI false = 0 := rfl
theorem bI_if {P : Prop} [Decidable P] : (if P then (1 : Int32) else 0) = bI (decide P) := by by_cases h : P <;> simp [bI, h]
theorem bI_e0 (b : Bool) : bI b = 0 ↔ b = false := by cases b <;> simp [bI]
theorem bI_e1 (b : Bool) : bI b = 1 ↔ b = true := by cases b <;> simp [bI]
def updB (f : Nat → Bool) (k : Nat) (x : Bool) : Nat → Bool := fun j => if j = k then x else f j
theorem bI_upd (f : Nat → Bool) (k : Nat) (x : Bool) : upd (fun j => bI (f j)) k (bI x) = fun j => bI (updB f k x j) := by
  funext j
  by_cases h : j = k
  · subst h; simp [upd, updB]
  · simp [upd, updB, h]
/-- what all contracts speak of: numbers of classes and of array classes -/
abbrev Ev : Type := va_G × ClassId × ClassId × ClassId × ClassId
abbrev tysE (E : Ev) : List (ClassId × FieldType) := [(E.2.1, .int), (E.2.2.1, .boolean), (E.2.2.2.1, .int), (E.2.2.2.2, .array .int)]
/-- cells: an int row, a boolean row, a long row -/
abbrev aI (E : Ev) (n : Nat) (f : Nat → Int32) : va_E := .inl (E.2.1, n, .inl f)
abbrev aZ (E : Ev) (n : Nat) (f : Nat → Bool) : va_E := .inl (E.2.2.1, n, .inl (fun j => bI (f j)))
abbrev aJ (E : Ev) (n : Nat) (f : Nat → Int64) : va_E := .inl (E.2.2.2.1, n, .inr (.inl f))
/-- a row of rows -/
abbrev aQ (E : Ev) (n : Nat) (f : Nat → Option Nat) : va_E := .inl (E.2.2.2.2, n, .inr (.inr (.inr (.inr f))))
/-- words of the tables that no list of good words holds -/
def gxn : List Cond := [.fieldLinkNest "SailorCandles" 35 "SailorCandles$Harbour" "shipCount" "I" "SailorCandles", .fieldLinkNest "SailorCandles" 70 "SailorCandles$Harbour" "sailorCount" "I" "SailorCandles", .fieldLinkNest "SailorCandles" 79 "SailorCandles$Harbour" "watcherCount" "I" "SailorCandles", .fieldLinkNest "SailorCandles" 52 "SailorCandles$Harbour" "masts" "[I" "SailorCandles", .fieldLinkNest "SailorCandles$Chapel" 130 "SailorCandles$Harbour" "mast" "[I" "SailorCandles", .fieldLinkNest "SailorCandles" 170 "SailorCandles$Harbour" "mast" "[I" "SailorCandles", .fieldLinkNest "SailorCandles" 135 "SailorCandles$Harbour" "voter" "[Z" "SailorCandles", .fieldLinkNest "SailorCandles" 145 "SailorCandles$Harbour" "givenUp" "[Z" "SailorCandles", .fieldLinkNest "SailorCandles" 115 "SailorCandles$Chapel" "outFor" "[I" "SailorCandles", .fieldLinkNest "SailorCandles" 124 "SailorCandles$Chapel" "rung" "[Z" "SailorCandles", .fieldLinkNest "SailorCandles" 173 "SailorCandles$Chapel" "candle" "[I" "SailorCandles", .fieldLinkNest "SailorCandles" 88 "SailorCandles$Chapel" "trust" "[I" "SailorCandles", .fieldLinkNest "SailorCandles" 186 "SailorCandles$Chapel" "nightsPassed" "I" "SailorCandles", .fieldLinkNest "SailorCandles" 97 "SailorCandles$Chapel" "waxLeft" "I" "SailorCandles", .fieldLinkNest "SailorCandles" 192 "SailorCandles$Chapel" "unringings" "I" "SailorCandles", .methodLinkNest "SailorCandles$Chapel" 53 ⟨"SailorCandles", "at", "([II)I"⟩ "SailorCandles", .methodLinkNest "SailorCandles$Chapel" 57 ⟨"SailorCandles", "put", "([III)V"⟩ "SailorCandles", .methodLinkNest "SailorCandles$Chapel" 71 ⟨"SailorCandles", "mark", "([ZIZ)V"⟩ "SailorCandles", .methodLinkNest "SailorCandles$Chapel" 123 ⟨"SailorCandles", "is", "([ZI)Z"⟩ "SailorCandles", .methodLinkNest "SailorCandles$Chapel" 35 ⟨"SailorCandles", "copyRow", "([I[I)V"⟩ "SailorCandles", .methodLinkNest "SailorCandles$Chapel" 39 ⟨"SailorCandles", "copyMarks", "([Z[Z)V"⟩ "SailorCandles", .methodLinkNest "SailorCandles$Harbour" 32 ⟨"SailorCandles", "put", "([III)V"⟩ "SailorCandles", .methodLinkNest "SailorCandles$Harbour" 39 ⟨"SailorCandles", "mark", "([ZIZ)V"⟩ "SailorCandles", .methodLinkNest "SailorCandlesLaw" 99 ⟨"SailorCandlesLaw$Sim", "<init>", "()V"⟩ "SailorCandlesLaw", .castable "java/lang/IndexOutOfBoundsException" "java/lang/IndexOutOfBoundsException", .castable "java/lang/IllegalStateException" "java/lang/IllegalStateException", .castable "java/lang/IllegalArgumentException" "java/lang/IllegalArgumentException", .declares (Bundle.initS "java/lang/RuntimeException"), .declares (Bundle.initS "java/lang/Exception"), .declares (Bundle.initS "java/lang/Throwable")]
def gxs : List (Nat × String) := [(95, "wax is bought by 1 to 500"), (233, "no such watcher"), (229, "no such ship"), (143, "the ship is not out"), (238, "this watcher has sighted the ship"), (240, "nights are not in their bounds"), (231, "no such sailor"), (30, "masts are 1 to 3"), (41, "there are 5 ships"), (62, "no such mast"), (68, "the ship is away"), (73, "there are 16 sailors"), (82, "there are 4 watchers"), (106, "the ship is at home"), (138, "nobody votes for this sailor")]
def gxc : List (String × String) := [("java/lang/IndexOutOfBoundsException", "java/lang/IllegalStateException"), ("java/lang/IllegalArgumentException", "java/lang/IllegalStateException")]
def Gx (U : State) : Prop := (∀ w ∈ gxn, va_Nw w U) ∧ (∀ q ∈ gxs, ∃ a, vk_R "SailorCandles" q.1 q.2 a U) ∧ (∀ q ∈ gxc, va_Nc q.1 q.2 U) ∧ (Cond.arrayOver (.array .int)).before #[] U = true
theorem Gx.same {u U : State} (h : u.vm = U.vm) (g : Gx u) : Gx U := by
  refine ⟨fun w hw => va_Nw.same ?_ h (g.1 w hw), fun q hq => ?_, fun q hq => ?_, over_moved (by rw [h]; exact Vm.Alike.refl _) g.2.2.2⟩
  · revert w hw
    decide +kernel
  · obtain ⟨a, ha⟩ := g.2.1 q hq
    exact ⟨a, vk_R.same h.symm ha⟩
  · exact va_Nc.moved (by rw [h]; exact Vm.Alike.refl _) (g.2.2.1 q hq)
theorem Gx.warmN {s U : State} (hW : s.WarmedH U.vm) (g : ∀ w ∈ gxn, va_Nw w s) : ∀ w ∈ gxn, va_Nw w U := by
  have key : ∀ w ∈ gxn, (∃ a i b n d h, w = .fieldLinkNest a i b n d h) ∨ (∃ a i x h, w = .methodLinkNest a i x h) ∨ (∃ C T, w = .castable C T) ∨ ∃ x, w = .declares x := by
    intro w hw
    simp only [gxn, List.mem_cons, List.not_mem_nil, or_false] at hw
    rcases hw with rfl | rfl | rfl | rfl | rfl | rfl | rfl | rfl | rfl | rfl | rfl | rfl | rfl | rfl | rfl | rfl | rfl | rfl | rfl | rfl | rfl | rfl | rfl | rfl | rfl | rfl | rfl | rfl | rfl | rfl
    · exact Or.inl ⟨_, _, _, _, _, _, rfl⟩
    · exact Or.inl ⟨_, _, _, _, _, _, rfl⟩
    · exact Or.inl ⟨_, _, _, _, _, _, rfl⟩
    · exact Or.inl ⟨_, _, _, _, _, _, rfl⟩
    · exact Or.inl ⟨_, _, _, _, _, _, rfl⟩
    · exact Or.inl ⟨_, _, _, _, _, _, rfl⟩
    · exact Or.inl ⟨_, _, _, _, _, _, rfl⟩
    · exact Or.inl ⟨_, _, _, _, _, _, rfl⟩
    · exact Or.inl ⟨_, _, _, _, _, _, rfl⟩
    · exact Or.inl ⟨_, _, _, _, _, _, rfl⟩
    · exact Or.inl ⟨_, _, _, _, _, _, rfl⟩
    · exact Or.inl ⟨_, _, _, _, _, _, rfl⟩
    · exact Or.inl ⟨_, _, _, _, _, _, rfl⟩
    · exact Or.inl ⟨_, _, _, _, _, _, rfl⟩
    · exact Or.inl ⟨_, _, _, _, _, _, rfl⟩
    · exact Or.inr (Or.inl ⟨_, _, _, _, rfl⟩)
    · exact Or.inr (Or.inl ⟨_, _, _, _, rfl⟩)
    · exact Or.inr (Or.inl ⟨_, _, _, _, rfl⟩)
    · exact Or.inr (Or.inl ⟨_, _, _, _, rfl⟩)
    · exact Or.inr (Or.inl ⟨_, _, _, _, rfl⟩)
    · exact Or.inr (Or.inl ⟨_, _, _, _, rfl⟩)
    · exact Or.inr (Or.inl ⟨_, _, _, _, rfl⟩)
    · exact Or.inr (Or.inl ⟨_, _, _, _, rfl⟩)
    · exact Or.inr (Or.inl ⟨_, _, _, _, rfl⟩)
    · exact Or.inr (Or.inr (Or.inl ⟨_, _, rfl⟩))
    · exact Or.inr (Or.inr (Or.inl ⟨_, _, rfl⟩))
    · exact Or.inr (Or.inr (Or.inl ⟨_, _, rfl⟩))
    · exact Or.inr (Or.inr (Or.inr ⟨_, rfl⟩))
    · exact Or.inr (Or.inr (Or.inr ⟨_, rfl⟩))
    · exact Or.inr (Or.inr (Or.inr ⟨_, rfl⟩))
  intro w hw
  rcases key w hw with ⟨a, i, b, n, d, h, rfl⟩ | ⟨a, i, x, h, rfl⟩ | ⟨C, T, rfl⟩ | ⟨x, rfl⟩
  · exact va_Nw.warmF hW (g _ hw)
  · exact va_Nw.warmM hW (g _ hw)
  · exact va_Nw.warmC hW (g _ hw)
  · exact va_Nw.warmD hW (g _ hw)
theorem Gx.warm {s U : State} (hW : s.WarmedH U.vm) (g : Gx s) : Gx U := by
  refine ⟨Gx.warmN hW g.1, fun q hq => ?_, fun q hq => va_Nc.moved hW.alike (g.2.2.1 q hq), over_moved hW.alike g.2.2.2⟩
  obtain ⟨a, ha⟩ := g.2.1 q hq
  exact ⟨a, vk_R.warm hW ha⟩
theorem Gx.nw {s : State} (g : Gx s) (i : Nat) {w : Cond} (h : gxn[i]? = some w) : va_Nw w s := g.1 w (List.mem_of_getElem? h)
/-- the two static fields that a made exception reads -/
def Zx (A : Nat → Prop) (U : State) (H : Heap) : Prop := vx_Zq Bundle.tN "UNASSIGNED_STACK" Bundle.steD A U H ∧ vx_Zq Bundle.tN "SUPPRESSED_SENTINEL" Bundle.listD A U H
/-- the world of a method at its start, and behind it -/
def PW (E : Ev) (ws : va_W) (sz : Nat) (U : State) : Prop := U.heap.size = sz ∧ va_P E.1 vwCl ws U.heap ∧ va_K E.1 vwCl (tysE E) U ∧ va_D (fun _ => True) ws ∧ Gx U
def PX (E : Ev) (ws : va_W) (sz : Nat) (U : State) : Prop := PW E ws sz U ∧ Zx (va_A ws sz) U U.heap
def BW (E : Ev) (A : Nat → Prop) (w1 : va_W) (t : State) : Prop := va_P E.1 vwCl w1 t.heap ∧ va_K E.1 vwCl (tysE E) t ∧ va_D A w1
/-- a world now, with what was written since the start -/
def Wd (E : Ev) (A : Nat → Prop) (H0 : Heap) (ws : va_W) (H : Heap) (locs : List Loc) : Prop := va_P E.1 vwCl ws H ∧ va_D A ws ∧ va_S A H0 H locs
/-- contracts of methods that return: an int, nothing, a long, a double -/
def MI (l : Launch) (E : Ev) (y : MethodName) (wy : List Cond) (rm : Room) (AV : List Value) (ws : va_W) (F : Int32) (w1 : va_W) : Prop :=
  ∀ sz, Met l y wy rm (va_Pc AV (PW E ws sz)) (va_Qi (fun r (_ : Unit) => r = F) (fun _ t => BW E (va_A ws sz) w1 t) (va_A ws sz)) rm.cells rm.slots (va_A ws sz)
def MV (l : Launch) (E : Ev) (y : MethodName) (wy : List Cond) (rm : Room) (AV : List Value) (ws : va_W) (w1 : va_W) : Prop :=
  ∀ sz, Met l y wy rm (va_Pc AV (PW E ws sz)) (va_Qv (fun (_ : Unit) => True) (fun _ t => BW E (va_A ws sz) w1 t) (va_A ws sz)) rm.cells rm.slots (va_A ws sz)
def ML (l : Launch) (E : Ev) (y : MethodName) (wy : List Cond) (rm : Room) (AV : List Value) (ws : va_W) (F : Int64) (w1 : va_W) : Prop :=
  ∀ sz, Met l y wy rm (va_Pc AV (PW E ws sz)) (va_Ql (fun r (_ : Unit) => r = F) (fun _ t => BW E (va_A ws sz) w1 t) (va_A ws sz)) rm.cells rm.slots (va_A ws sz)
def MD (l : Launch) (E : Ev) (y : MethodName) (wy : List Cond) (rm : Room) (AV : List Value) (ws : va_W) (F : UInt64) (w1 : va_W) : Prop :=
  ∀ sz, Met l y wy rm (va_Pc AV (PW E ws sz)) (va_Qd (fun r (_ : Unit) => r = F) (fun _ t => BW E (va_A ws sz) w1 t) (va_A ws sz)) rm.cells rm.slots (va_A ws sz)
/-- which exception: 1 a wrong index, 2 a wrong state, 3 a wrong argument -/
def exN (k : Nat) : String := if k = 1 then "java/lang/IndexOutOfBoundsException" else if k = 2 then "java/lang/IllegalStateException" else "java/lang/IllegalArgumentException"
/-- contracts of methods that return or throw: T = 0: they return; else the exception, and nothing is changed -/
def XI (l : Launch) (E : Ev) (y : MethodName) (wy : List Cond) (rm : Room) (AV : List Value) (ws : va_W) (T : Nat) (F : Int32) (w1 : va_W) : Prop :=
  ∀ sz, vx_Met l y wy rm (va_Pc AV (PX E ws sz)) (va_Qi (fun r (_ : Unit) => T = 0 ∧ r = F) (fun _ t => BW E (va_A ws sz) w1 t) (va_A ws sz)) (vx_X (fun (_ : Unit) => T ≠ 0) (fun n _ t => n = exN T ∧ BW E (va_A ws sz) ws t) (va_A ws sz)) rm.cells rm.slots (va_A ws sz)
def XV (l : Launch) (E : Ev) (y : MethodName) (wy : List Cond) (rm : Room) (AV : List Value) (ws : va_W) (T : Nat) (w1 : va_W) : Prop :=
  ∀ sz, vx_Met l y wy rm (va_Pc AV (PX E ws sz)) (va_Qv (fun (_ : Unit) => T = 0) (fun _ t => BW E (va_A ws sz) w1 t) (va_A ws sz)) (vx_X (fun (_ : Unit) => T ≠ 0) (fun n _ t => n = exN T ∧ BW E (va_A ws sz) ws t) (va_A ws sz)) rm.cells rm.slots (va_A ws sz)
theorem PW.blind {E : Ev} {AV : List Value} {ws : va_W} {sz : Nat} : FrameBlind (va_Pc AV (PW E ws sz)) := fun a U g mk q => by
  obtain ⟨q0, q1, q2, q3, q4, q5⟩ := q
  exact ⟨q0, q1, q2, va_K.moved (u := U) (U := U.calling g mk a) (Vm.Alike.refl U.vm) q3, q4, Gx.same (u := U) (U := U.calling g mk a) rfl q5⟩
theorem PX.blind {E : Ev} {AV : List Value} {ws : va_W} {sz : Nat} : FrameBlind (va_Pc AV (PX E ws sz)) := fun a U g mk q => by
  obtain ⟨q0, q1, q2⟩ := q
  exact ⟨q0, (PW.blind a U g mk ⟨q0, q1⟩).2, vx_Zq.moved (u := U) (U := U.calling g mk a) (Vm.Alike.refl U.vm) q2.1, vx_Zq.moved (u := U) (U := U.calling g mk a) (Vm.Alike.refl U.vm) q2.2⟩
section PWS
variable {E : Ev} {A : Nat → Prop} {s : State} {ws wc : va_W} {H : Heap} {locs : List Loc} {AV : List Value}
theorem pwS (hw : Wd E A s.heap ws H locs) (hK : va_K E.1 vwCl (tysE E) s) (hG : Gx s) (isC : List Nat) (hC : isC.map (fun i => ws[i]?) = wc.map some) (hn : va_nd isC = true) : PreS s H (va_Pc AV (PW E wc H.size)) AV := by
  refine ⟨PW.blind, fun U hU hW => ⟨rfl, by rw [hU], ?_, va_K.moved hW.alike hK, (hw.2.1.sub isC hn hC).weaken (fun _ _ _ _ => trivial), Gx.warm hW hG⟩⟩
  rw [hU]
  intro k q hk
  have h1 : (isC.map (fun i => ws[i]?))[k]? = some (some q) := by rw [hC, List.getElem?_map, hk]; rfl
  rw [List.getElem?_map] at h1
  cases hi : isC[k]? with
  | none => rw [hi] at h1; cases h1
  | some i => rw [hi] at h1; exact hw.1 i q (Option.some.inj h1)
theorem pwX (hw : Wd E A s.heap ws H locs) (hK : va_K E.1 vwCl (tysE E) s) (hG : Gx s) (hZ : Zx A s s.heap) (hA : ∀ q, s.heap.size ≤ q → A q) (isC : List Nat) (hC : isC.map (fun i => ws[i]?) = wc.map some) (hn : va_nd isC = true) : PreS s H (va_Pc AV (PX E wc H.size)) AV := by
  have h1 := pwS (AV := AV) hw hK hG isC hC hn
  have hF := va_free hw.2.1 hw.2.2 hA isC hC
  refine ⟨PX.blind, fun U hU hW => ⟨rfl, (h1.2 U hU hW).2, ?_, ?_⟩⟩
  · rw [hU]
    exact vx_Zq.moved hW.alike ((hZ.1.kept hw.2.2.2.1).narrow hF)
  · rw [hU]
    exact vx_Zq.moved hW.alike ((hZ.2.kept hw.2.2.2.1).narrow hF)
theorem pwV {C : String} {b : Nat} {ci q0 : Nat} {q : vw_C} {fs : List Value} {Pc : Array Value → State → Prop} {As : List Value} (hw : Wd E A s.heap ws H locs) (hK : va_K E.1 vwCl (tysE E) s) (hc : vwCl[ci]? = some q) (hq : q.1 = C) (he : ws[q0]? = some (b, .inr (ci, fs))) (h : PreS s H Pc (.ref b :: As)) : PreV s H C b Pc As := by
  refine ⟨h.1, ?_, h.2⟩
  subst hq
  exact va_recv hK hw.1 hc he
end PWS
/-- a world with some cells replaced -/
def rpW : va_W → List Nat → va_W → va_W
  | ws, i :: is, e :: es => rpW (ws.set i e) is es
  | ws, _, _ => ws
theorem rpW_len : ∀ (ws : va_W) (is : List Nat) (es : va_W), (rpW ws is es).length = ws.length
  | ws, [], [] => rfl
  | ws, [], _ :: _ => rfl
  | ws, _ :: _, [] => rfl
  | ws, i :: is, e :: es => by rw [rpW, rpW_len, List.length_set]
theorem rpW_get : ∀ (is : List Nat) (es ws : va_W), va_nd is = true → (∀ i ∈ is, i < ws.length) → is.length = es.length → ∀ (k : Nat) (q : Nat × va_E), (rpW ws is es)[k]? = some q → (∃ j : Nat, is[j]? = some k ∧ es[j]? = some q) ∨ (k ∉ is ∧ ws[k]? = some q)
  | [], es, ws, _, _, _, k, q, h => by
    have h2 : (rpW ws [] es) = ws := by cases es <;> rfl
    rw [h2] at h
    exact Or.inr ⟨by simp, h⟩
  | i :: is, [], ws, _, _, hl, _, _, _ => by simp at hl
  | i :: is, e :: es, ws, hn, hi, hl, k, q, h => by
    simp only [va_nd, Bool.and_eq_true, decide_eq_true_eq] at hn
    rw [rpW] at h
    rcases rpW_get is es (ws.set i e) hn.2 (fun j hj => by rw [List.length_set]; exact hi j (List.mem_cons_of_mem _ hj)) (by simpa using hl) k q h with ⟨j, h1, h2⟩ | ⟨h1, h2⟩
    · exact Or.inl ⟨j + 1, by simpa using h1, by simpa using h2⟩
    · by_cases hk : k = i
      · subst hk
        rw [List.getElem?_set_self (hi k List.mem_cons_self)] at h2
        exact Or.inl ⟨0, rfl, by simpa using h2⟩
      · rw [List.getElem?_set_ne (Ne.symm hk)] at h2
        exact Or.inr ⟨by simp [hk, h1], h2⟩
section KC
variable {p : Program} {l : Launch} {e : Env} {R : Room} {s : State} {m : MethodId} {args : Array Value} {below : List Frame} {meth : Method} {c : Code} {H : Heap} {locs : List Loc} {cells slots : Nat} {Q : State → Prop}
variable {E : Ev} {A : Nat → Prop} {H0 : Heap} {ws wc w1 ws' : va_W} {mc ms : Nat} {pc : Nat} {ls : Array Slot} {st0 rest : List Value} {a : Array Value}
/-- behind a call that keeps its cells' places -/
theorem Wd.behind {H1 : Heap} {locs1 : List Loc} {t : State} (hw : Wd E A H0 ws H locs) (hA : ∀ q, H0.size ≤ q → A q) (isC : List Nat) (hC : isC.map (fun i => ws[i]?) = wc.map some) (hn : va_nd isC = true) (had : w1.map Prod.fst = wc.map Prod.fst) (hws : rpW ws isC w1 = ws')
    (ht : t.heap = H1) (hB : BW E (va_A wc H.size) w1 t) (hk : ∀ q : Nat, q < H.size → ¬ va_A wc H.size q → H1[q]? = H[q]?) (hS : va_S A H0 H1 locs1) : Wd E A H0 ws' H1 locs1 := by
  subst hws
  have hF := va_free hw.2.1 hw.2.2 hA isC hC
  have hlen : isC.length = wc.length := by have := congrArg List.length hC; simpa using this
  have hlen1 : w1.length = wc.length := by have := congrArg List.length had; simpa using this
  have at' : ∀ (j i : Nat), isC[j]? = some i → ∃ q, wc[j]? = some q ∧ ws[i]? = some q := by
    intro j i hj
    have h1 : (isC.map (fun i => ws[i]?))[j]? = some (ws[i]?) := by rw [List.getElem?_map, hj]; rfl
    rw [hC, List.getElem?_map] at h1
    cases hq : wc[j]? with
    | none => rw [hq] at h1; cases h1
    | some q => rw [hq] at h1; exact ⟨q, rfl, (Option.some.inj h1).symm⟩
  have hlt : ∀ i ∈ isC, i < ws.length := by
    intro i hi
    obtain ⟨j, hj⟩ := List.getElem?_of_mem hi
    obtain ⟨q, -, h2⟩ := at' j i hj
    exact (List.getElem?_eq_some_iff.mp h2).1
  have fst' : ∀ (j : Nat) (q1 : Nat × va_E), w1[j]? = some q1 → ∃ q, wc[j]? = some q ∧ q.1 = q1.1 := by
    intro j q1 h
    have h1 : (w1.map Prod.fst)[j]? = some q1.1 := by rw [List.getElem?_map, h]; rfl
    rw [had, List.getElem?_map] at h1
    cases hq : wc[j]? with
    | none => rw [hq] at h1; cases h1
    | some q => rw [hq] at h1; exact ⟨q, rfl, Option.some.inj h1⟩
  have apart : ∀ (k : Nat) (q : Nat × va_E), k ∉ isC → ws[k]? = some q → q.1 < H.size ∧ ¬ va_A wc H.size q.1 := by
    intro k q hk hq
    have hl := (hw.1 k q hq).lt
    refine ⟨hl, fun h => ?_⟩
    rcases h with ⟨k2, e2, h⟩ | h
    · have hj : ∃ i, isC[k2]? = some i := by
        have : k2 < isC.length := by rw [hlen]; exact (List.getElem?_eq_some_iff.mp h).1
        exact ⟨isC[k2], List.getElem?_eq_getElem this⟩
      obtain ⟨i, hi⟩ := hj
      obtain ⟨q2, h3, h4⟩ := at' k2 i hi
      have e9 : q2 = (q.1, e2) := Option.some.inj (h3.symm.trans h)
      subst e9
      have hij := hw.2.1.1 k i q (q.1, e2) hq h4 rfl
      subst hij
      exact hk (List.mem_of_getElem? hi)
    · omega
  have hP1 := hB.1
  rw [ht] at hP1
  have key : ∀ (k : Nat) (q : Nat × va_E), (rpW ws isC w1)[k]? = some q → (∃ j, isC[j]? = some k ∧ w1[j]? = some q) ∨ (k ∉ isC ∧ ws[k]? = some q) := rpW_get isC w1 ws hn hlt (by omega)
  have same : ∀ (k : Nat) (q : Nat × va_E), (rpW ws isC w1)[k]? = some q → ∃ q0, ws[k]? = some q0 ∧ q0.1 = q.1 := by
    intro k q h
    rcases key k q h with ⟨j, h1, h2⟩ | ⟨h1, h2⟩
    · obtain ⟨q9, a1, a2⟩ := fst' j q h2
      obtain ⟨q8, b1, b2⟩ := at' j k h1
      have : q8 = q9 := Option.some.inj (b1.symm.trans a1)
      exact ⟨q8, b2, by rw [this]; exact a2⟩
    · exact ⟨q, h2, rfl⟩
  refine ⟨fun k q h => ?_, ⟨fun i j x y hx hy hxy => ?_, fun k q h => ?_⟩, hS⟩
  · rcases key k q h with ⟨j, h1, h2⟩ | ⟨h1, h2⟩
    · exact hP1 j q h2
    · obtain ⟨g1, g2⟩ := apart k q h1 h2
      exact (hw.1 k q h2).kept (hk q.1 g1 g2)
  · obtain ⟨x0, a1, a2⟩ := same i x hx
    obtain ⟨y0, b1, b2⟩ := same j y hy
    exact hw.2.1.1 i j x0 y0 a1 b1 (a2.trans (hxy.trans b2.symm))
  · obtain ⟨q0, a1, a2⟩ := same k q h
    rw [← a2]
    exact hw.2.1.2 k q0 a1
theorem kc_i {F : Int32} (hr : va_Run p l e R s m args below meth c H locs cells slots mc ms (F0 m pc ls st0) rest (va_Qi (fun r (_ : Unit) => r = F) (fun _ t => BW E (va_A wc H.size) w1 t) (va_A wc H.size) a) (va_A wc H.size)) (hw : Wd E A H0 ws H locs) (hA : ∀ q, H0.size ≤ q → A q) (isC : List Nat) (hC : isC.map (fun i => ws[i]?) = wc.map some) (hn : va_nd isC = true) (had : w1.map Prod.fst = wc.map Prod.fst) (hws : rpW ws isC w1 = ws')
    (kk : ∀ (H1 : Heap) (locs1 : List Loc), Wd E A H0 ws' H1 locs1 → W p l e R s m args below meth c H1 locs1 (cells + mc) (slots + ms) Q (F0 m (pc + 3) ls (.int F :: rest))) : W p l e R s m args below meth c H locs cells slots Q (F0 m pc ls st0) := by
  have hF := va_free hw.2.1 hw.2.2 hA isC hC
  refine va_calli hr hw.2.2 (fun q _ h => hF q h) hF (fun r u t H1 locs1 ht hvm hp hB hz hk hS => ?_)
  subst hp
  exact kk H1 locs1 (hw.behind hA isC hC hn had hws ht hB hk hS)
theorem kc_l {F : Int64} (hr : va_Run p l e R s m args below meth c H locs cells slots mc ms (F0 m pc ls st0) rest (va_Ql (fun r (_ : Unit) => r = F) (fun _ t => BW E (va_A wc H.size) w1 t) (va_A wc H.size) a) (va_A wc H.size)) (hw : Wd E A H0 ws H locs) (hA : ∀ q, H0.size ≤ q → A q) (isC : List Nat) (hC : isC.map (fun i => ws[i]?) = wc.map some) (hn : va_nd isC = true) (had : w1.map Prod.fst = wc.map Prod.fst) (hws : rpW ws isC w1 = ws')
    (kk : ∀ (H1 : Heap) (locs1 : List Loc), Wd E A H0 ws' H1 locs1 → W p l e R s m args below meth c H1 locs1 (cells + mc) (slots + ms) Q (F0 m (pc + 3) ls (.long F :: rest))) : W p l e R s m args below meth c H locs cells slots Q (F0 m pc ls st0) := by
  have hF := va_free hw.2.1 hw.2.2 hA isC hC
  refine va_calll hr hw.2.2 (fun q _ h => hF q h) hF (fun r u t H1 locs1 ht hvm hp hB hz hk hS => ?_)
  subst hp
  exact kk H1 locs1 (hw.behind hA isC hC hn had hws ht hB hk hS)
theorem kc_d {F : UInt64} (hr : va_Run p l e R s m args below meth c H locs cells slots mc ms (F0 m pc ls st0) rest (va_Qd (fun r (_ : Unit) => r = F) (fun _ t => BW E (va_A wc H.size) w1 t) (va_A wc H.size) a) (va_A wc H.size)) (hw : Wd E A H0 ws H locs) (hA : ∀ q, H0.size ≤ q → A q) (isC : List Nat) (hC : isC.map (fun i => ws[i]?) = wc.map some) (hn : va_nd isC = true) (had : w1.map Prod.fst = wc.map Prod.fst) (hws : rpW ws isC w1 = ws')
    (kk : ∀ (H1 : Heap) (locs1 : List Loc), Wd E A H0 ws' H1 locs1 → W p l e R s m args below meth c H1 locs1 (cells + mc) (slots + ms) Q (F0 m (pc + 3) ls (.double F :: rest))) : W p l e R s m args below meth c H locs cells slots Q (F0 m pc ls st0) := by
  have hF := va_free hw.2.1 hw.2.2 hA isC hC
  refine va_calld hr hw.2.2 (fun q _ h => hF q h) hF (fun r u t H1 locs1 ht hvm hp hB hz hk hS => ?_)
  subst hp
  exact kk H1 locs1 (hw.behind hA isC hC hn had hws ht hB hk hS)
theorem kc_v (hr : va_Run p l e R s m args below meth c H locs cells slots mc ms (F0 m pc ls st0) rest (va_Qv (fun (_ : Unit) => True) (fun _ t => BW E (va_A wc H.size) w1 t) (va_A wc H.size) a) (va_A wc H.size)) (hw : Wd E A H0 ws H locs) (hA : ∀ q, H0.size ≤ q → A q) (isC : List Nat) (hC : isC.map (fun i => ws[i]?) = wc.map some) (hn : va_nd isC = true) (had : w1.map Prod.fst = wc.map Prod.fst) (hws : rpW ws isC w1 = ws')
    (kk : ∀ (H1 : Heap) (locs1 : List Loc), Wd E A H0 ws' H1 locs1 → W p l e R s m args below meth c H1 locs1 (cells + mc) (slots + ms) Q (F0 m (pc + 3) ls rest)) : W p l e R s m args below meth c H locs cells slots Q (F0 m pc ls st0) := by
  have hF := va_free hw.2.1 hw.2.2 hA isC hC
  refine va_callv hr hw.2.2 (fun q _ h => hF q h) hF (fun u t H1 locs1 ht hvm hp hB hz hk hS => ?_)
  exact kk H1 locs1 (hw.behind hA isC hC hn had hws ht hB hk hS)
/-- calls that may throw -/
theorem kx_i {T : Nat} {F : Int32} (hr : vx_Run p l e R s m args below meth c H locs cells slots mc ms (F0 m pc ls st0) rest (va_Qi (fun r (_ : Unit) => T = 0 ∧ r = F) (fun _ t => BW E (va_A wc H.size) w1 t) (va_A wc H.size) a) (vx_X (fun (_ : Unit) => T ≠ 0) (fun n _ t => n = exN T ∧ BW E (va_A wc H.size) wc t) (va_A wc H.size)) (va_A wc H.size)) (hw : Wd E A H0 ws H locs) (hA : ∀ q, H0.size ≤ q → A q) (isC : List Nat) (hC : isC.map (fun i => ws[i]?) = wc.map some) (hn : va_nd isC = true) (had : w1.map Prod.fst = wc.map Prod.fst) (hws : rpW ws isC w1 = ws') (hws0 : rpW ws isC wc = ws)
    (kx : ∀ (H1 : Heap) (locs1 : List Loc) (ce : Cell) (q9 : Addr), T ≠ 0 → Wd E A H0 ws H1 locs1 → H1[q9]? = some ce → ce.vm = .none → s.vm.findClass (exN T) = some ce.cls → vx_W p l e R s m args below meth c H1 locs1 (cells + mc) (slots + ms) Q (F0 m pc ls rest) q9)
    (kk : ∀ (H1 : Heap) (locs1 : List Loc), T = 0 → Wd E A H0 ws' H1 locs1 → W p l e R s m args below meth c H1 locs1 (cells + mc) (slots + ms) Q (F0 m (pc + 3) ls (.int F :: rest))) : W p l e R s m args below meth c H locs cells slots Q (F0 m pc ls st0) := by
  have hF := va_free hw.2.1 hw.2.2 hA isC hC
  refine vx_calli hr hw.2.2 (fun q _ h => hF q h) hF (fun q _ h => hF q h) (fun n ce q9 u t H1 locs1 ht hvm hp hB hz hk hS h1 h2 h3 => ?_) (fun r u t H1 locs1 ht hvm hp hB hz hk hS => ?_)
  · rw [hB.1] at h3
    exact kx H1 locs1 ce q9 hp (hw.behind hA isC hC hn rfl hws0 ht hB.2 hk hS) h1 h2 h3
  · obtain ⟨hp, rfl⟩ := hp
    exact kk H1 locs1 hp (hw.behind hA isC hC hn had hws ht hB hk hS)
theorem kx_v {T : Nat} (hr : vx_Run p l e R s m args below meth c H locs cells slots mc ms (F0 m pc ls st0) rest (va_Qv (fun (_ : Unit) => T = 0) (fun _ t => BW E (va_A wc H.size) w1 t) (va_A wc H.size) a) (vx_X (fun (_ : Unit) => T ≠ 0) (fun n _ t => n = exN T ∧ BW E (va_A wc H.size) wc t) (va_A wc H.size)) (va_A wc H.size)) (hw : Wd E A H0 ws H locs) (hA : ∀ q, H0.size ≤ q → A q) (isC : List Nat) (hC : isC.map (fun i => ws[i]?) = wc.map some) (hn : va_nd isC = true) (had : w1.map Prod.fst = wc.map Prod.fst) (hws : rpW ws isC w1 = ws') (hws0 : rpW ws isC wc = ws)
    (kx : ∀ (H1 : Heap) (locs1 : List Loc) (ce : Cell) (q9 : Addr), T ≠ 0 → Wd E A H0 ws H1 locs1 → H1[q9]? = some ce → ce.vm = .none → s.vm.findClass (exN T) = some ce.cls → vx_W p l e R s m args below meth c H1 locs1 (cells + mc) (slots + ms) Q (F0 m pc ls rest) q9)
    (kk : ∀ (H1 : Heap) (locs1 : List Loc), T = 0 → Wd E A H0 ws' H1 locs1 → W p l e R s m args below meth c H1 locs1 (cells + mc) (slots + ms) Q (F0 m (pc + 3) ls rest)) : W p l e R s m args below meth c H locs cells slots Q (F0 m pc ls st0) := by
  have hF := va_free hw.2.1 hw.2.2 hA isC hC
  refine vx_callv hr hw.2.2 (fun q _ h => hF q h) hF (fun q _ h => hF q h) (fun n ce q9 u t H1 locs1 ht hvm hp hB hz hk hS h1 h2 h3 => ?_) (fun u t H1 locs1 ht hvm hp hB hz hk hS => ?_)
  · rw [hB.1] at h3
    exact kx H1 locs1 ce q9 hp (hw.behind hA isC hC hn rfl hws0 ht hB.2 hk hS) h1 h2 h3
  · exact kk H1 locs1 hp (hw.behind hA isC hC hn had hws ht hB hk hS)
end KC
/-- the ends of methods -/
abbrev EndI (E : Ev) (A : Nat → Prop) (F : Int32) (w1 : va_W) (below : List Frame) (args : Array Value) (s : State) (mc ms : Nat) : State → Prop := MQ below (va_Qi (fun r (_ : Unit) => r = F) (fun _ t => BW E A w1 t) A) args s mc ms A
abbrev EndV (E : Ev) (A : Nat → Prop) (w1 : va_W) (below : List Frame) (args : Array Value) (s : State) (mc ms : Nat) : State → Prop := MQ below (va_Qv (fun (_ : Unit) => True) (fun _ t => BW E A w1 t) A) args s mc ms A
abbrev EndL (E : Ev) (A : Nat → Prop) (F : Int64) (w1 : va_W) (below : List Frame) (args : Array Value) (s : State) (mc ms : Nat) : State → Prop := MQ below (va_Ql (fun r (_ : Unit) => r = F) (fun _ t => BW E A w1 t) A) args s mc ms A
abbrev EndD (E : Ev) (A : Nat → Prop) (F : UInt64) (w1 : va_W) (below : List Frame) (args : Array Value) (s : State) (mc ms : Nat) : State → Prop := MQ below (va_Qd (fun r (_ : Unit) => r = F) (fun _ t => BW E A w1 t) A) args s mc ms A
abbrev XndI (E : Ev) (A : Nat → Prop) (T : Nat) (F : Int32) (ws w1 : va_W) (below : List Frame) (args : Array Value) (s : State) (mc ms : Nat) : State → Prop := vx_MQ below (va_Qi (fun r (_ : Unit) => T = 0 ∧ r = F) (fun _ t => BW E A w1 t) A) (vx_X (fun (_ : Unit) => T ≠ 0) (fun n _ t => n = exN T ∧ BW E A ws t) A) args s mc ms A
abbrev XndV (E : Ev) (A : Nat → Prop) (T : Nat) (ws w1 : va_W) (below : List Frame) (args : Array Value) (s : State) (mc ms : Nat) : State → Prop := vx_MQ below (va_Qv (fun (_ : Unit) => T = 0) (fun _ t => BW E A w1 t) A) (vx_X (fun (_ : Unit) => T ≠ 0) (fun n _ t => n = exN T ∧ BW E A ws t) A) args s mc ms A
section ENDS
variable {p : Program} {l : Launch} {e : Env} {R : Room} {s : State} {m : MethodId} {args : Array Value} {below : List Frame} {meth : Method} {c : Code} {H : Heap} {locs : List Loc} {cells slots : Nat}
variable {cc : ByteArray} {E : Ev} {A : Nat → Prop} {ws w0 w1 : va_W} {pc : Nat} {ls : Array Slot}
theorem k_iret {F v : Int32} {ty : FieldType} (hx : p.tables.exec = Jvm.exec) (hb : c.code = cc) (hr : meth.sig.returnType = some ty) (hlocks : meth.locks = false) (hK : va_K E.1 vwCl (tysE E) s) (hw : Wd E A s.heap ws H locs) (hn : narrow ty (.int v) = .int v) (hdg : decode cc pc = .ok (.ireturn, 1)) (hv : v = F) (hww : ws = w1) : W p l e R s m args below meth c H locs cells slots (EndI E A F w1 below args s cells slots) (F0 m pc ls [.int v]) := by
  subst hv; subst hww
  exact W.zret hx hb hr hn (fun t ht hW => ⟨⟨v, (), rfl, rfl, by rw [ht]; exact hw.1, va_K.moved hW.alike hK, hw.2.1⟩, hw.2.2.F ht⟩) hw.2.2.2.2 hdg
theorem k_vret (hx : p.tables.exec = Jvm.exec) (hb : c.code = cc) (hr : meth.sig.returnType = none) (hlocks : meth.locks = false) (hK : va_K E.1 vwCl (tysE E) s) (hw : Wd E A s.heap ws H locs) (hdg : decode cc pc = .ok (.return_, 1)) (hww : ws = w1) : W p l e R s m args below meth c H locs cells slots (EndV E A w1 below args s cells slots) (F0 m pc ls []) := by
  subst hww
  exact W.vret hx hb hr (fun t ht hW => ⟨⟨(), rfl, trivial, by rw [ht]; exact hw.1, va_K.moved hW.alike hK, hw.2.1⟩, hw.2.2.F ht⟩) hw.2.2.2.2 hdg
theorem k_lret {F v : Int64} (hx : p.tables.exec = Jvm.exec) (hb : c.code = cc) (hr : meth.sig.returnType = some .long) (hlocks : meth.locks = false) (hK : va_K E.1 vwCl (tysE E) s) (hw : Wd E A s.heap ws H locs) (hdg : decode cc pc = .ok (.lreturn, 1)) (hv : v = F) (hww : ws = w1) : W p l e R s m args below meth c H locs cells slots (EndL E A F w1 below args s cells slots) (F0 m pc ls [.long v]) := by
  subst hv; subst hww
  exact W.lret hx hb hr (fun t ht hW => ⟨⟨v, (), rfl, rfl, by rw [ht]; exact hw.1, va_K.moved hW.alike hK, hw.2.1⟩, hw.2.2.F ht⟩) hw.2.2.2.2 hdg
theorem k_dret {F v : UInt64} (hx : p.tables.exec = Jvm.exec) (hb : c.code = cc) (hr : meth.sig.returnType = some .double) (hlocks : meth.locks = false) (hK : va_K E.1 vwCl (tysE E) s) (hw : Wd E A s.heap ws H locs) (hdg : decode cc pc = .ok (.dreturn, 1)) (hv : v = F) (hww : ws = w1) : W p l e R s m args below meth c H locs cells slots (EndD E A F w1 below args s cells slots) (F0 m pc ls [.double v]) := by
  subst hv; subst hww
  exact W.dret hx hb hr (fun t ht hW => ⟨⟨v, (), rfl, rfl, by rw [ht]; exact hw.1, va_K.moved hW.alike hK, hw.2.1⟩, hw.2.2.F ht⟩) hw.2.2.2.2 hdg
theorem k_xiret {T : Nat} {F v : Int32} {ty : FieldType} (hx : p.tables.exec = Jvm.exec) (hb : c.code = cc) (hr : meth.sig.returnType = some ty) (hlocks : meth.locks = false) (hK : va_K E.1 vwCl (tysE E) s) (hw : Wd E A s.heap ws H locs) (hn : narrow ty (.int v) = .int v) (hdg : decode cc pc = .ok (.ireturn, 1)) (hT : T = 0) (hv : v = F) (hww : ws = w1) : W p l e R s m args below meth c H locs cells slots (XndI E A T F w0 w1 below args s cells slots) (F0 m pc ls [.int v]) := by
  subst hv; subst hww
  exact vx_ret (W.zret hx hb hr hn (fun t ht hW => ⟨⟨v, (), rfl, ⟨hT, rfl⟩, by rw [ht]; exact hw.1, va_K.moved hW.alike hK, hw.2.1⟩, hw.2.2.F ht⟩) hw.2.2.2.2 hdg)
theorem k_xvret {T : Nat} (hx : p.tables.exec = Jvm.exec) (hb : c.code = cc) (hr : meth.sig.returnType = none) (hlocks : meth.locks = false) (hK : va_K E.1 vwCl (tysE E) s) (hw : Wd E A s.heap ws H locs) (hdg : decode cc pc = .ok (.return_, 1)) (hT : T = 0) (hww : ws = w1) : W p l e R s m args below meth c H locs cells slots (XndV E A T w0 w1 below args s cells slots) (F0 m pc ls []) := by
  subst hww
  exact vx_ret (W.vret hx hb hr (fun t ht hW => ⟨⟨(), rfl, hT, by rw [ht]; exact hw.1, va_K.moved hW.alike hK, hw.2.1⟩, hw.2.2.F ht⟩) hw.2.2.2.2 hdg)
end ENDS
/-- what a method's body stands on -/
def Cx (E : Ev) (own : String) (cc : ByteArray) (nL : Nat) (ret : Option FieldType) (wy : List Cond) (p : Program) (s : State) (m : MethodId) (args : Array Value) (meth : Method) (c : Code) (A : Nat → Prop) : Prop :=
  p.tables.exec = Jvm.exec ∧ c.code = cc ∧ c.maxLocals = nL ∧ meth.sig.returnType = ret ∧ s.vm.findClass own = some m.cls ∧ (∀ w ∈ wy, w.before args s = true) ∧ meth.locks = false ∧ va_K E.1 vwCl (tysE E) s ∧ Gx s ∧ (∀ q, s.heap.size ≤ q → A q)
theorem k_entry {p : Program} {l : Launch} {y : MethodName} {wy wy' : List Cond} {rm : Room} {cc : ByteArray} {maxL : Nat} {ret : Option FieldType} {e : Env} {s : State} {m : MethodId} {args : Array Value} {below : List Frame} {meth : Method} {c : Code} {s₁ : State} {E : Ev} {AV : List Value} {ws : va_W} {Q : State → Prop} (hwy : wy = Cond.code y cc maxL ret :: wy') (hsz : (lg_sl AV).length ≤ maxL)
    (B : BodyLoose p l y (headSpec wy rm) cc maxL ret e s m args below meth c s₁) (hml : c.maxLocals = maxL) (hv : va_Pc AV (PW E ws s.heap.size) args s)
    (body : ∀ (ls : Array Slot), args = AV.toArray → lv_has ls maxL (lv_args 0 AV) → Cx E y.cls cc maxL ret wy p s m args meth c (va_A ws s.heap.size) → Wd E (va_A ws s.heap.size) s.heap ws s.heap [] → W p l e (headSpec wy rm).room s m args below meth c s.heap [] 0 0 Q (F0 m 0 ls [])) :
    W p l e (headSpec wy rm).room s m args below meth c s.heap [] 0 0 Q (entryFrame m args maxL) := by
  obtain ⟨rfl, hz, hP, hK, hD, hG⟩ := hv
  have hl := lv_entry AV (n := maxL) hsz
  rw [lg_entry_eq]
  refine body _ rfl hl ⟨B.exec, B.bytes, hml, B.returns, findClass_of_methodNamed B.named, atoms_spec (ws := wy) B.pre, B.notSynchronized, hK, hG, fun q h => Or.inr h⟩ ⟨hP, hD.self, va_S.rf⟩
section BODIES
variable {l : Launch} {E : Ev} {y : MethodName} {wy wy' : List Cond} {rm : Room} {AV : List Value} {ws w1 : va_W} {cc : ByteArray} {maxL : Nat} {ret : Option FieldType}
theorem k_bI {F : Int32} (hy : plainName y.cls = true) (hwy : wy = Cond.code y cc maxL ret :: wy') (hsz : (lg_sl AV).length ≤ maxL)
    (body : ∀ (p : Program) (e : Env) (s : State) (m : MethodId) (args : Array Value) (below : List Frame) (meth : Method) (c : Code) (A : Nat → Prop) (ls : Array Slot), Cx E y.cls cc maxL ret wy p s m args meth c A → lv_has ls maxL (lv_args 0 AV) → Wd E A s.heap ws s.heap [] → W p l e rm s m args below meth c s.heap [] 0 0 (EndI E A F w1 below args s rm.cells rm.slots) (F0 m 0 ls [])) : MI l E y wy rm AV ws F w1 := by
  intro sz
  refine Met.ofW (cc := cc) (maxL := maxL) (ret := ret) hy hwy ?_
  intro p e s m args below meth c s₁ B hml hv
  have hz := hv.2.1
  subst hz
  exact k_entry hwy hsz B hml hv (fun ls _ hl hC hw => body p e s m args below meth c _ ls hC hl hw)
theorem k_bV (hy : plainName y.cls = true) (hwy : wy = Cond.code y cc maxL ret :: wy') (hsz : (lg_sl AV).length ≤ maxL)
    (body : ∀ (p : Program) (e : Env) (s : State) (m : MethodId) (args : Array Value) (below : List Frame) (meth : Method) (c : Code) (A : Nat → Prop) (ls : Array Slot), Cx E y.cls cc maxL ret wy p s m args meth c A → lv_has ls maxL (lv_args 0 AV) → Wd E A s.heap ws s.heap [] → W p l e rm s m args below meth c s.heap [] 0 0 (EndV E A w1 below args s rm.cells rm.slots) (F0 m 0 ls [])) : MV l E y wy rm AV ws w1 := by
  intro sz
  refine Met.ofW (cc := cc) (maxL := maxL) (ret := ret) hy hwy ?_
  intro p e s m args below meth c s₁ B hml hv
  have hz := hv.2.1
  subst hz
  exact k_entry hwy hsz B hml hv (fun ls _ hl hC hw => body p e s m args below meth c _ ls hC hl hw)
theorem k_bL {F : Int64} (hy : plainName y.cls = true) (hwy : wy = Cond.code y cc maxL ret :: wy') (hsz : (lg_sl AV).length ≤ maxL)
    (body : ∀ (p : Program) (e : Env) (s : State) (m : MethodId) (args : Array Value) (below : List Frame) (meth : Method) (c : Code) (A : Nat → Prop) (ls : Array Slot), Cx E y.cls cc maxL ret wy p s m args meth c A → lv_has ls maxL (lv_args 0 AV) → Wd E A s.heap ws s.heap [] → W p l e rm s m args below meth c s.heap [] 0 0 (EndL E A F w1 below args s rm.cells rm.slots) (F0 m 0 ls [])) : ML l E y wy rm AV ws F w1 := by
  intro sz
  refine Met.ofW (cc := cc) (maxL := maxL) (ret := ret) hy hwy ?_
  intro p e s m args below meth c s₁ B hml hv
  have hz := hv.2.1
  subst hz
  exact k_entry hwy hsz B hml hv (fun ls _ hl hC hw => body p e s m args below meth c _ ls hC hl hw)
theorem k_bD {F : UInt64} (hy : plainName y.cls = true) (hwy : wy = Cond.code y cc maxL ret :: wy') (hsz : (lg_sl AV).length ≤ maxL)
    (body : ∀ (p : Program) (e : Env) (s : State) (m : MethodId) (args : Array Value) (below : List Frame) (meth : Method) (c : Code) (A : Nat → Prop) (ls : Array Slot), Cx E y.cls cc maxL ret wy p s m args meth c A → lv_has ls maxL (lv_args 0 AV) → Wd E A s.heap ws s.heap [] → W p l e rm s m args below meth c s.heap [] 0 0 (EndD E A F w1 below args s rm.cells rm.slots) (F0 m 0 ls [])) : MD l E y wy rm AV ws F w1 := by
  intro sz
  refine Met.ofW (cc := cc) (maxL := maxL) (ret := ret) hy hwy ?_
  intro p e s m args below meth c s₁ B hml hv
  have hz := hv.2.1
  subst hz
  exact k_entry hwy hsz B hml hv (fun ls _ hl hC hw => body p e s m args below meth c _ ls hC hl hw)
theorem k_bXI {T : Nat} {F : Int32} (hy : plainName y.cls = true) (hwy : wy = Cond.code y cc maxL ret :: wy') (hsz : (lg_sl AV).length ≤ maxL)
    (body : ∀ (p : Program) (e : Env) (s : State) (m : MethodId) (args : Array Value) (below : List Frame) (meth : Method) (c : Code) (A : Nat → Prop) (ls : Array Slot), Cx E y.cls cc maxL ret wy p s m args meth c A → (∀ x ∈ c.exceptionTable.toList, False) → Zx A s s.heap → lv_has ls maxL (lv_args 0 AV) → Wd E A s.heap ws s.heap [] → W p l e rm s m args below meth c s.heap [] 0 0 (XndI E A T F ws w1 below args s rm.cells rm.slots) (F0 m 0 ls [])) : XI l E y wy rm AV ws T F w1 := by
  intro sz
  refine vx_ofW (cc := cc) (maxL := maxL) (ret := ret) hy hwy ?_
  intro p e s m args below meth c s₁ B hml ht hv
  obtain ⟨hv1, hv2, hZ⟩ := hv
  have hz := hv2.1
  subst hz
  exact k_entry hwy hsz B hml ⟨hv1, hv2⟩ (fun ls _ hl hC hw => body p e s m args below meth c _ ls hC ht hZ hl hw)
theorem k_bXV {T : Nat} (hy : plainName y.cls = true) (hwy : wy = Cond.code y cc maxL ret :: wy') (hsz : (lg_sl AV).length ≤ maxL)
    (body : ∀ (p : Program) (e : Env) (s : State) (m : MethodId) (args : Array Value) (below : List Frame) (meth : Method) (c : Code) (A : Nat → Prop) (ls : Array Slot), Cx E y.cls cc maxL ret wy p s m args meth c A → (∀ x ∈ c.exceptionTable.toList, False) → Zx A s s.heap → lv_has ls maxL (lv_args 0 AV) → Wd E A s.heap ws s.heap [] → W p l e rm s m args below meth c s.heap [] 0 0 (XndV E A T ws w1 below args s rm.cells rm.slots) (F0 m 0 ls [])) : XV l E y wy rm AV ws T w1 := by
  intro sz
  refine vx_ofW (cc := cc) (maxL := maxL) (ret := ret) hy hwy ?_
  intro p e s m args below meth c s₁ B hml ht hv
  obtain ⟨hv1, hv2, hZ⟩ := hv
  have hz := hv2.1
  subst hz
  exact k_entry hwy hsz B hml ⟨hv1, hv2⟩ (fun ls _ hl hC hw => body p e s m args below meth c _ ls hC ht hZ hl hw)
end BODIES
/-! rows over Wd -/
section ROWS
variable {p : Program} {l : Launch} {e : Env} {R : Room} {s : State} {m : MethodId} {args : Array Value} {below : List Frame} {meth : Method} {c : Code} {H : Heap} {locs : List Loc} {cells slots : Nat} {Q : State → Prop}
variable {cc : ByteArray} {E : Ev} {A : Nat → Prop} {H0 : Heap} {ws ws' : va_W} {pc : Nat} {ls : Array Slot} {rest : List Value} {a : Nat}
theorem k_get {own C : String} (hx : p.tables.exec = Jvm.exec) (hb : c.code = cc) (hown : s.vm.findClass own = some m.cls) (hK : va_K E.1 vwCl (tysE E) s) (hw : Wd E A H0 ws H locs) {T : u_T} {N ci index : Nat} {Ts : List Cond} (hts : ∀ w ∈ Ts, w.before args s = true) (hin : ∀ w ∈ u_ws C T N, w ∈ Ts) (q0 : Nat) {fs : List Value} (he : ws[q0]? = some (a, .inr (ci, fs))) (hc : vwCl[ci]? = some (C, T, N)) (k : Nat) (hk : k < N) (hlink : (Cond.fieldLink own index (T k).1 (T k).2.1 (T k).2.2.1).before args s = true) {v : Value} (hv : fs[k]? = some v) (hdg : decode cc pc = .ok (.getfield index, 3))
    (kk : W p l e R s m args below meth c H locs cells slots Q (F0 m (pc + 3) ls (v :: rest))) : W p l e R s m args below meth c H locs cells slots Q (F0 m pc ls (.ref a :: rest)) :=
  va_get hx hb hts hin hown hK hw.1 q0 he hc k hk hlink (fun _ h => h) hv hdg kk
theorem k_getN {own C host : String} (hx : p.tables.exec = Jvm.exec) (hb : c.code = cc) (hown : s.vm.findClass own = some m.cls) (hK : va_K E.1 vwCl (tysE E) s) (hw : Wd E A H0 ws H locs) {T : u_T} {N ci index : Nat} {Ts : List Cond} (hts : ∀ w ∈ Ts, w.before args s = true) (hin : ∀ w ∈ u_ws C T N, w ∈ Ts) (q0 : Nat) {fs : List Value} (he : ws[q0]? = some (a, .inr (ci, fs))) (hc : vwCl[ci]? = some (C, T, N)) (k : Nat) (hk : k < N) (hlink : va_Nw (Cond.fieldLinkNest own index (T k).1 (T k).2.1 (T k).2.2.1 host) s) {v : Value} (hv : fs[k]? = some v) (hdg : decode cc pc = .ok (.getfield index, 3))
    (kk : W p l e R s m args below meth c H locs cells slots Q (F0 m (pc + 3) ls (v :: rest))) : W p l e R s m args below meth c H locs cells slots Q (F0 m pc ls (.ref a :: rest)) :=
  va_getN hx hb hts hin hown hK hw.1 q0 he hc k hk (va_Nw.use rfl hlink) (fun _ h => h) hv hdg kk
theorem k_put {own C : String} (hx : p.tables.exec = Jvm.exec) (hb : c.code = cc) (hown : s.vm.findClass own = some m.cls) (hK : va_K E.1 vwCl (tysE E) s) (hw : Wd E A H0 ws H locs) {T : u_T} {N ci index : Nat} {Ts : List Cond} (hts : ∀ w ∈ Ts, w.before args s = true) (hin : ∀ w ∈ u_ws C T N, w ∈ Ts) (ty0 : Nat → FieldType) (hty : ∀ k, k < N → parseFieldDescriptor (T k).2.2.1 = some (ty0 k)) (hnm : ∀ a, a < N → ∀ b, b < N → a ≠ b → (T a).2.1 ≠ (T b).2.1) (q0 : Nat) {fs : List Value} (he : ws[q0]? = some (a, .inr (ci, fs))) (hc : vwCl[ci]? = some (C, T, N)) (k : Nat) (hk : k < N) (hlink : (Cond.fieldLink own index (T k).1 (T k).2.1 (T k).2.2.1).before args s = true) (hfin : (T k).2.2.2 = false) {v : Int32} (hd : ty0 k = .int) (hl : k < fs.length) (hdg : decode cc pc = .ok (.putfield index, 3)) (hws : ws.set q0 (a, .inr (ci, fs.set k (.int v))) = ws')
    (kk : ∀ (H1 : Heap) (locs1 : List Loc), Wd E A H0 ws' H1 locs1 → W p l e R s m args below meth c H1 locs1 cells slots Q (F0 m (pc + 3) ls rest)) : W p l e R s m args below meth c H locs cells slots Q (F0 m pc ls (.int v :: .ref a :: rest)) := by
  subst hws
  exact va_put (ty := .int) hx hb hts hin ty0 hty hnm hown hK hw.1 hw.2.1 hw.2.2 q0 he hc k hk hlink (fun _ h => h) hfin (by rw [hty k hk, hd]) rfl rfl hl hdg (fun H1 locs1 h1 h2 h3 => kk H1 locs1 ⟨h1, h2, h3⟩)
theorem k_putN {own C host : String} (hx : p.tables.exec = Jvm.exec) (hb : c.code = cc) (hown : s.vm.findClass own = some m.cls) (hK : va_K E.1 vwCl (tysE E) s) (hw : Wd E A H0 ws H locs) {T : u_T} {N ci index : Nat} {Ts : List Cond} (hts : ∀ w ∈ Ts, w.before args s = true) (hin : ∀ w ∈ u_ws C T N, w ∈ Ts) (ty0 : Nat → FieldType) (hty : ∀ k, k < N → parseFieldDescriptor (T k).2.2.1 = some (ty0 k)) (hnm : ∀ a, a < N → ∀ b, b < N → a ≠ b → (T a).2.1 ≠ (T b).2.1) (q0 : Nat) {fs : List Value} (he : ws[q0]? = some (a, .inr (ci, fs))) (hc : vwCl[ci]? = some (C, T, N)) (k : Nat) (hk : k < N) (hlink : va_Nw (Cond.fieldLinkNest own index (T k).1 (T k).2.1 (T k).2.2.1 host) s) (hfin : (T k).2.2.2 = false) {v : Int32} (hd : ty0 k = .int) (hl : k < fs.length) (hdg : decode cc pc = .ok (.putfield index, 3)) (hws : ws.set q0 (a, .inr (ci, fs.set k (.int v))) = ws')
    (kk : ∀ (H1 : Heap) (locs1 : List Loc), Wd E A H0 ws' H1 locs1 → W p l e R s m args below meth c H1 locs1 cells slots Q (F0 m (pc + 3) ls rest)) : W p l e R s m args below meth c H locs cells slots Q (F0 m pc ls (.int v :: .ref a :: rest)) := by
  subst hws
  exact va_putN (ty := .int) hx hb hts hin ty0 hty hnm hown hK hw.1 hw.2.1 hw.2.2 q0 he hc k hk (va_Nw.use rfl hlink) (fun _ h => h) hfin (by rw [hty k hk, hd]) rfl rfl hl hdg (fun H1 locs1 h1 h2 h3 => kk H1 locs1 ⟨h1, h2, h3⟩)
theorem k_ild (hx : p.tables.exec = Jvm.exec) (hb : c.code = cc) (hK : va_K E.1 vwCl (tysE E) s) (hw : Wd E A H0 ws H locs) (q0 : Nat) {n : Nat} {f : Nat → Int32} (ha : ws[q0]? = some (a, aI E n f)) {i : Int32} (hin : vp_in i n) {v : Int32} (hv : f i.toNatClampNeg = v) (hdg : decode cc pc = .ok (.iaload, 1))
    (kk : W p l e R s m args below meth c H locs cells slots Q (F0 m (pc + 1) ls (.int v :: rest))) : W p l e R s m args below meth c H locs cells slots Q (F0 m pc ls (.int i :: .ref a :: rest)) := by
  subst hv
  exact va_iald hx hb hK hw.1 q0 0 ha rfl hin hdg kk
theorem k_ildN (hx : p.tables.exec = Jvm.exec) (hb : c.code = cc) (hK : va_K E.1 vwCl (tysE E) s) (hw : Wd E A H0 ws H locs) (q0 : Nat) {n : Nat} {f : Nat → Int32} (ha : ws[q0]? = some (a, aI E n f)) {i : Nat} (hi : i < n) (hn : n < 2 ^ 31) (hdg : decode cc pc = .ok (.iaload, 1))
    (kk : W p l e R s m args below meth c H locs cells slots Q (F0 m (pc + 1) ls (.int (f i) :: rest))) : W p l e R s m args below meth c H locs cells slots Q (F0 m pc ls (.int (nI i) :: .ref a :: rest)) :=
  k_ild hx hb hK hw q0 ha (vp_in_nI hi hn) (by rw [nI_clamp (by omega)]) hdg kk
theorem k_zld (hx : p.tables.exec = Jvm.exec) (hb : c.code = cc) (hK : va_K E.1 vwCl (tysE E) s) (hw : Wd E A H0 ws H locs) (q0 : Nat) {n : Nat} {f : Nat → Bool} (ha : ws[q0]? = some (a, aZ E n f)) {i : Int32} (hin : vp_in i n) (hdg : decode cc pc = .ok (.baload, 1))
    (kk : W p l e R s m args below meth c H locs cells slots Q (F0 m (pc + 1) ls (.int (bI (f i.toNatClampNeg)) :: rest))) : W p l e R s m args below meth c H locs cells slots Q (F0 m pc ls (.int i :: .ref a :: rest)) :=
  va_zald hx hb hK hw.1 q0 1 ha rfl hin hdg kk
theorem k_zldN (hx : p.tables.exec = Jvm.exec) (hb : c.code = cc) (hK : va_K E.1 vwCl (tysE E) s) (hw : Wd E A H0 ws H locs) (q0 : Nat) {n : Nat} {f : Nat → Bool} (ha : ws[q0]? = some (a, aZ E n f)) {i : Nat} (hi : i < n) (hn : n < 2 ^ 31) (hdg : decode cc pc = .ok (.baload, 1))
    (kk : W p l e R s m args below meth c H locs cells slots Q (F0 m (pc + 1) ls (.int (bI (f i)) :: rest))) : W p l e R s m args below meth c H locs cells slots Q (F0 m pc ls (.int (nI i) :: .ref a :: rest)) := by
  refine k_zld hx hb hK hw q0 ha (vp_in_nI hi hn) hdg ?_
  rw [nI_clamp (by omega)]
  exact kk
theorem k_ist (hx : p.tables.exec = Jvm.exec) (hb : c.code = cc) (hK : va_K E.1 vwCl (tysE E) s) (hw : Wd E A H0 ws H locs) (q0 : Nat) {n : Nat} {f : Nat → Int32} (ha : ws[q0]? = some (a, aI E n f)) {i v : Int32} (hin : vp_in i n) (hdg : decode cc pc = .ok (.iastore, 1)) (hws : ws.set q0 (a, aI E n (upd f i.toNatClampNeg v)) = ws')
    (kk : ∀ (H1 : Heap) (locs1 : List Loc), Wd E A H0 ws' H1 locs1 → W p l e R s m args below meth c H1 locs1 cells slots Q (F0 m (pc + 1) ls rest)) : W p l e R s m args below meth c H locs cells slots Q (F0 m pc ls (.int v :: .int i :: .ref a :: rest)) := by
  subst hws
  exact va_iast hx hb hK hw.1 hw.2.1 hw.2.2 q0 0 ha rfl hin hdg (fun H1 locs1 h1 h2 h3 => kk H1 locs1 ⟨h1, h2, h3⟩)
theorem k_istN (hx : p.tables.exec = Jvm.exec) (hb : c.code = cc) (hK : va_K E.1 vwCl (tysE E) s) (hw : Wd E A H0 ws H locs) (q0 : Nat) {n : Nat} {f : Nat → Int32} (ha : ws[q0]? = some (a, aI E n f)) {i : Nat} {v : Int32} (hi : i < n) (hn : n < 2 ^ 31) (hdg : decode cc pc = .ok (.iastore, 1)) (hws : ws.set q0 (a, aI E n (upd f i v)) = ws')
    (kk : ∀ (H1 : Heap) (locs1 : List Loc), Wd E A H0 ws' H1 locs1 → W p l e R s m args below meth c H1 locs1 cells slots Q (F0 m (pc + 1) ls rest)) : W p l e R s m args below meth c H locs cells slots Q (F0 m pc ls (.int v :: .int (nI i) :: .ref a :: rest)) :=
  k_ist hx hb hK hw q0 ha (vp_in_nI hi hn) hdg (by rw [nI_clamp (by omega)]; exact hws) kk
theorem k_zst (hx : p.tables.exec = Jvm.exec) (hb : c.code = cc) (hK : va_K E.1 vwCl (tysE E) s) (hw : Wd E A H0 ws H locs) (q0 : Nat) {n : Nat} {f : Nat → Bool} (ha : ws[q0]? = some (a, aZ E n f)) {i : Int32} {v : Bool} (hin : vp_in i n) (hdg : decode cc pc = .ok (.bastore, 1)) (hws : ws.set q0 (a, aZ E n (updB f i.toNatClampNeg v)) = ws')
    (kk : ∀ (H1 : Heap) (locs1 : List Loc), Wd E A H0 ws' H1 locs1 → W p l e R s m args below meth c H1 locs1 cells slots Q (F0 m (pc + 1) ls rest)) : W p l e R s m args below meth c H locs cells slots Q (F0 m pc ls (.int (bI v) :: .int i :: .ref a :: rest)) := by
  subst hws
  refine va_zast hx hb hK hw.1 hw.2.1 hw.2.2 q0 1 ha rfl hin hdg (fun H1 locs1 h1 h2 h3 => kk H1 locs1 ?_)
  rw [bI_v, bI_upd] at h1 h2
  exact ⟨h1, h2, h3⟩
theorem k_zstN (hx : p.tables.exec = Jvm.exec) (hb : c.code = cc) (hK : va_K E.1 vwCl (tysE E) s) (hw : Wd E A H0 ws H locs) (q0 : Nat) {n : Nat} {f : Nat → Bool} (ha : ws[q0]? = some (a, aZ E n f)) {i : Nat} {v : Bool} (hi : i < n) (hn : n < 2 ^ 31) (hdg : decode cc pc = .ok (.bastore, 1)) (hws : ws.set q0 (a, aZ E n (updB f i v)) = ws')
    (kk : ∀ (H1 : Heap) (locs1 : List Loc), Wd E A H0 ws' H1 locs1 → W p l e R s m args below meth c H1 locs1 cells slots Q (F0 m (pc + 1) ls rest)) : W p l e R s m args below meth c H locs cells slots Q (F0 m pc ls (.int (bI v) :: .int (nI i) :: .ref a :: rest)) :=
  k_zst hx hb hK hw q0 ha (vp_in_nI hi hn) hdg (by rw [nI_clamp (by omega)]; exact hws) kk
theorem k_lenI (hx : p.tables.exec = Jvm.exec) (hb : c.code = cc) (hK : va_K E.1 vwCl (tysE E) s) (hw : Wd E A H0 ws H locs) (q0 : Nat) {n : Nat} {f : Nat → Int32} (ha : ws[q0]? = some (a, aI E n f)) (hdg : decode cc pc = .ok (.arraylength, 1))
    (kk : W p l e R s m args below meth c H locs cells slots Q (F0 m (pc + 1) ls (.int (nI n) :: rest))) : W p l e R s m args below meth c H locs cells slots Q (F0 m pc ls (.ref a :: rest)) :=
  va_alen hx hb hK hw.1 q0 0 ha rfl rfl hdg kk
theorem k_lenZ (hx : p.tables.exec = Jvm.exec) (hb : c.code = cc) (hK : va_K E.1 vwCl (tysE E) s) (hw : Wd E A H0 ws H locs) (q0 : Nat) {n : Nat} {f : Nat → Bool} (ha : ws[q0]? = some (a, aZ E n f)) (hdg : decode cc pc = .ok (.arraylength, 1))
    (kk : W p l e R s m args below meth c H locs cells slots Q (F0 m (pc + 1) ls (.int (nI n) :: rest))) : W p l e R s m args below meth c H locs cells slots Q (F0 m pc ls (.ref a :: rest)) :=
  va_alen hx hb hK hw.1 q0 1 ha rfl rfl hdg kk
theorem Wd.to (hw : Wd E A H0 ws H locs) (h : ws = ws') : Wd E A H0 ws' H locs := h ▸ hw
end ROWS
