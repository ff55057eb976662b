-- ===== PART A: goes FIRST, ahead of the names: the tables' words, and 'selects' of the private methods out of them =====
/-- a private method of a class that the tables say can be made, by its rows of tables_1 -/
def lw_okq (q : MethodName × Nat) : Prop := (q.1.cls ≠ "java/lang/invoke/MethodHandle" ∧ q.1.cls ≠ "java/lang/invoke/VarHandle") ∧ Cond.instantiable q.1.cls q.2 ∈ tables_1 ∧ Cond.privateMethod q.1 ∈ tables_1 ∧ Cond.instanceMethod q.1 ∈ tables_1
theorem lw_p0 : lw_okq (⟨"java/lang/Throwable", "fillInStackTrace", "(I)Ljava/lang/Throwable;"⟩, 6) := ⟨⟨by decide +kernel, by decide +kernel⟩, List.mem_of_getElem? (i := 158) (by decide +kernel), List.mem_of_getElem? (i := 156) (by decide +kernel), List.mem_of_getElem? (i := 157) (by decide +kernel)⟩
theorem lw_p1 : lw_okq (⟨"SailorCandles", "needNewSighting", "(II)V"⟩, 3) := ⟨⟨by decide +kernel, by decide +kernel⟩, List.mem_of_getElem? (i := 13) (by decide +kernel), List.mem_of_getElem? (i := 192) (by decide +kernel), List.mem_of_getElem? (i := 193) (by decide +kernel)⟩
theorem lw_p2 : lw_okq (⟨"SailorCandles", "needWatcher", "(I)V"⟩, 3) := ⟨⟨by decide +kernel, by decide +kernel⟩, List.mem_of_getElem? (i := 13) (by decide +kernel), List.mem_of_getElem? (i := 196) (by decide +kernel), List.mem_of_getElem? (i := 197) (by decide +kernel)⟩
theorem lw_p3 : lw_okq (⟨"SailorCandles", "needShip", "(I)V"⟩, 3) := ⟨⟨by decide +kernel, by decide +kernel⟩, List.mem_of_getElem? (i := 13) (by decide +kernel), List.mem_of_getElem? (i := 216) (by decide +kernel), List.mem_of_getElem? (i := 217) (by decide +kernel)⟩
theorem lw_p4 : lw_okq (⟨"SailorCandles$Chapel", "ageSightings", "()V"⟩, 10) := ⟨⟨by decide +kernel, by decide +kernel⟩, List.mem_of_getElem? (i := 62) (by decide +kernel), List.mem_of_getElem? (i := 286) (by decide +kernel), List.mem_of_getElem? (i := 287) (by decide +kernel)⟩
theorem lw_p5 : lw_okq (⟨"SailorCandles$Chapel", "doubt", "(I)V"⟩, 10) := ⟨⟨by decide +kernel, by decide +kernel⟩, List.mem_of_getElem? (i := 62) (by decide +kernel), List.mem_of_getElem? (i := 293) (by decide +kernel), List.mem_of_getElem? (i := 294) (by decide +kernel)⟩
theorem lw_p6 : lw_okq (⟨"SailorCandles$Chapel", "unringBells", "()V"⟩, 10) := ⟨⟨by decide +kernel, by decide +kernel⟩, List.mem_of_getElem? (i := 62) (by decide +kernel), List.mem_of_getElem? (i := 300) (by decide +kernel), List.mem_of_getElem? (i := 301) (by decide +kernel)⟩
theorem lw_p7 : lw_okq (⟨"SailorCandles$Chapel", "burnCandles", "()I"⟩, 10) := ⟨⟨by decide +kernel, by decide +kernel⟩, List.mem_of_getElem? (i := 62) (by decide +kernel), List.mem_of_getElem? (i := 305) (by decide +kernel), List.mem_of_getElem? (i := 306) (by decide +kernel)⟩
theorem lw_p8 : lw_okq (⟨"SailorCandles$Chapel", "burnCandle", "(I)V"⟩, 10) := ⟨⟨by decide +kernel, by decide +kernel⟩, List.mem_of_getElem? (i := 62) (by decide +kernel), List.mem_of_getElem? (i := 314) (by decide +kernel), List.mem_of_getElem? (i := 315) (by decide +kernel)⟩
theorem lw_p9 : lw_okq (⟨"SailorCandles$Chapel", "lightCandle", "(I)Z"⟩, 10) := ⟨⟨by decide +kernel, by decide +kernel⟩, List.mem_of_getElem? (i := 62) (by decide +kernel), List.mem_of_getElem? (i := 318) (by decide +kernel), List.mem_of_getElem? (i := 319) (by decide +kernel)⟩
theorem lw_p10 : lw_okq (⟨"SailorCandles$Chapel", "countNightOut", "()V"⟩, 10) := ⟨⟨by decide +kernel, by decide +kernel⟩, List.mem_of_getElem? (i := 62) (by decide +kernel), List.mem_of_getElem? (i := 322) (by decide +kernel), List.mem_of_getElem? (i := 323) (by decide +kernel)⟩
theorem lw_p11 : lw_okq (⟨"SailorCandles$Harbour", "countOfShip", "([ZI)I"⟩, 8) := ⟨⟨by decide +kernel, by decide +kernel⟩, List.mem_of_getElem? (i := 21) (by decide +kernel), List.mem_of_getElem? (i := 334) (by decide +kernel), List.mem_of_getElem? (i := 335) (by decide +kernel)⟩
theorem lw_p12 : lw_okq (⟨"SailorCandles", "needSailor", "(I)V"⟩, 3) := ⟨⟨by decide +kernel, by decide +kernel⟩, List.mem_of_getElem? (i := 13) (by decide +kernel), List.mem_of_getElem? (i := 396) (by decide +kernel), List.mem_of_getElem? (i := 397) (by decide +kernel)⟩
theorem lw_p13 : lw_okq (⟨"SailorCandles", "wouldStayLit", "(II)Z"⟩, 3) := ⟨⟨by decide +kernel, by decide +kernel⟩, List.mem_of_getElem? (i := 13) (by decide +kernel), List.mem_of_getElem? (i := 482) (by decide +kernel), List.mem_of_getElem? (i := 483) (by decide +kernel)⟩
theorem lw_p14 : lw_okq (⟨"SailorCandles", "mixShip", "(JI)J"⟩, 3) := ⟨⟨by decide +kernel, by decide +kernel⟩, List.mem_of_getElem? (i := 13) (by decide +kernel), List.mem_of_getElem? (i := 499) (by decide +kernel), List.mem_of_getElem? (i := 500) (by decide +kernel)⟩
theorem lw_p15 : lw_okq (⟨"SailorCandles", "mixSailor", "(JI)J"⟩, 3) := ⟨⟨by decide +kernel, by decide +kernel⟩, List.mem_of_getElem? (i := 13) (by decide +kernel), List.mem_of_getElem? (i := 506) (by decide +kernel), List.mem_of_getElem? (i := 507) (by decide +kernel)⟩
def lw_privs_1 : List (MethodName × Nat) := [(⟨"java/lang/Throwable", "fillInStackTrace", "(I)Ljava/lang/Throwable;"⟩, 6), (⟨"SailorCandles", "needNewSighting", "(II)V"⟩, 3), (⟨"SailorCandles", "needWatcher", "(I)V"⟩, 3), (⟨"SailorCandles", "needShip", "(I)V"⟩, 3), (⟨"SailorCandles$Chapel", "ageSightings", "()V"⟩, 10), (⟨"SailorCandles$Chapel", "doubt", "(I)V"⟩, 10), (⟨"SailorCandles$Chapel", "unringBells", "()V"⟩, 10), (⟨"SailorCandles$Chapel", "burnCandles", "()I"⟩, 10), (⟨"SailorCandles$Chapel", "burnCandle", "(I)V"⟩, 10), (⟨"SailorCandles$Chapel", "lightCandle", "(I)Z"⟩, 10), (⟨"SailorCandles$Chapel", "countNightOut", "()V"⟩, 10), (⟨"SailorCandles$Harbour", "countOfShip", "([ZI)I"⟩, 8), (⟨"SailorCandles", "needSailor", "(I)V"⟩, 3), (⟨"SailorCandles", "wouldStayLit", "(II)Z"⟩, 3), (⟨"SailorCandles", "mixShip", "(JI)J"⟩, 3), (⟨"SailorCandles", "mixSailor", "(JI)J"⟩, 3)]
theorem lw_r1 : ∀ q ∈ lw_privs_1, lw_okq q := List.forall_mem_cons.mpr ⟨lw_p0, List.forall_mem_cons.mpr ⟨lw_p1, List.forall_mem_cons.mpr ⟨lw_p2, List.forall_mem_cons.mpr ⟨lw_p3, List.forall_mem_cons.mpr ⟨lw_p4, List.forall_mem_cons.mpr ⟨lw_p5, List.forall_mem_cons.mpr ⟨lw_p6, List.forall_mem_cons.mpr ⟨lw_p7, List.forall_mem_cons.mpr ⟨lw_p8, List.forall_mem_cons.mpr ⟨lw_p9, List.forall_mem_cons.mpr ⟨lw_p10, List.forall_mem_cons.mpr ⟨lw_p11, List.forall_mem_cons.mpr ⟨lw_p12, List.forall_mem_cons.mpr ⟨lw_p13, List.forall_mem_cons.mpr ⟨lw_p14, List.forall_mem_cons.mpr ⟨lw_p15, fun _ h => absurd h List.not_mem_nil⟩⟩⟩⟩⟩⟩⟩⟩⟩⟩⟩⟩⟩⟩⟩⟩
def lw_privs : List (MethodName × Nat) := lw_privs_1
def lw_tbl : List Cond := k2_sels lw_privs ++ tables_1
theorem lw_privs_ok : ∀ q ∈ lw_privs, lw_okq q := lw_r1
/-- the streams that the claim lets the run draw from -/
abbrev lw_cs : List Choice := [Jvm.Choice.named "NaN.bits"]
theorem lw_bits : nanBits ∈ lw_cs := by first | decide | exact List.mem_cons_self | simp [lw_cs, nanBits]
-- ===== end of PART A; then your names; then what follows =====
/-! ===== BEGIN words of one list among another's, by their places ===== -/
theorem goodIn_r {big : List Cond} (ws : List Cond) (ps : List Nat) (hp : ws = ps.filterMap (fun i => big[i]?)) (h : ws.all goodWord = true) : GoodIn big ws := by
  intro w hw
  have h1 := List.all_eq_true.mp h w hw
  rw [hp] at hw
  obtain ⟨i, -, hi⟩ := List.mem_filterMap.mp hw
  have hm : w ∈ big := by first | exact List.mem_of_getElem? hi | exact List.getElem?_mem hi
  exact ⟨hm, good_of_word h1⟩
theorem goodIn_app {big a b : List Cond} (ha : GoodIn big a) (hb : GoodIn big b) : GoodIn big (a ++ b) := fun w h => (List.mem_append.mp h).elim (ha w) (hb w)
theorem goodIn_ca {big a b : List Cond} {c : Cond} (ha : GoodIn big (c :: a)) (hb : GoodIn big b) : GoodIn big (c :: (a ++ b)) := fun w h => (List.mem_cons.mp h).elim (fun e => ha w (List.mem_cons.mpr (Or.inl e))) (fun h => (List.mem_append.mp h).elim (fun h => ha w (List.mem_cons.mpr (Or.inr h))) (hb w))
theorem goodIn_sub {big ws : List Cond} (hm : ∀ w ∈ ws, w ∈ big) (h : ws.all goodWord = true) : GoodIn big ws := fun w hw => ⟨hm w hw, good_of_word (List.all_eq_true.mp h w hw)⟩
/-! ===== END ===== -/

/-! ===== BEGIN exceptions that leave a method, and their catching by the caller (launches without stack traces) ===== -/
section VXA
/-! The laws vx_back, vx_callV, vx_callS, vx_callSW, vx_throw0, vx_throwS follow proofs of the library, with one case more: JvmDerived/Free/Laws.lean (Back.of_free), Shelf42/LK1.lean (callV, callS), Shelf/KitTraced.lean (throwNew0V, throwNewS). -/
/-- where a method has thrown q: the class by its name, the cell, what was written, the world -/
def vx_T (XC : String → State → State → Prop) (st : State) (q : Addr) (t : State) (mc ms : Nat) (free : Addr → Prop) : Prop :=
  ∃ (E : String) (ce : Cell) (L : List Loc), XC E st t ∧ t.heap[q]? = some ce ∧ ce.vm = .none ∧ st.vm.findClass E = some ce.cls ∧ st.WarmedH t.vm ∧ st.sameButNew ({ t with vm := st.vm } : State) L mc ms ∧ ∀ z ∈ L, free z.base
def vx_Q (Qc : Array Value → State → Outcome → State → Prop) (XC : String → State → State → Prop) (mc ms : Nat) (free : Addr → Prop) : Array Value → State → Outcome → State → Prop := fun a st o t =>
  (Qc a st o t ∧ ∃ L, FrameEnd st o t L mc ms ∧ ∀ q ∈ L, free q.base) ∨ ∃ q, o = .threw q ∧ vx_T XC st q t mc ms free
/-- a callee that returns or throws -/
def vx_Met (l : Launch) (y : MethodName) (ws : List Cond) (rm : Room) (Pc : Array Value → State → Prop) (Qc : Array Value → State → Outcome → State → Prop) (XC : String → State → State → Prop) (mc ms : Nat) (free : Addr → Prop) : Prop :=
  MetFree l y (headSpec ws rm) Pc (fun _ _ _ _ _ => True) (vx_Q Qc XC mc ms free)
def vx_Post (XC : String → State → State → Prop) (mc ms : Nat) (free : Addr → Prop) : Pt → Array Value → Addr → Pt → Prop := fun A a q B =>
  ∃ (g : JFrame) (mk : MethodId) (t : State) (L : List Loc) (E : String) (ce : Cell), B.U.heap = t.heap ∧ B.U.vm = t.vm ∧ XC E (A.U.calling g mk a) t ∧ t.heap[q]? = some ce ∧ ce.vm = .none ∧ A.U.vm.findClass E = some ce.cls ∧ B.locs = A.locs ++ L ∧ (∀ z ∈ L, free z.base) ∧ B.cells = A.cells + mc ∧ B.slots = A.slots + ms
def vx_Back (l : Launch) (R : Room) (p : Program) (e : Env) (below : List Frame) (s : State) (sargs : Array Value) (y : MethodName) (len W9 : Nat)
    (Pre : Pt → Array Value → Prop) (Post : Pt → Array Value → Option Value → Pt → Prop) (PostX : Pt → Array Value → Addr → Pt → Prop) : Prop :=
  ∀ (m : MethodId) (meth : Method) (c : Code) (A : Pt) (g : JFrame) (ig : Instr) (mk : MethodId) (a : Array Value),
    Stand p l e R s m sargs below meth c A.U A.locs A.cells A.slots → g.method = m → g.locals.size = c.maxLocals → decode c.code g.pc = .ok (ig, len) →
    2 * g.monitorRoom + (g.stack.map fun v => v.category).sum ≤ W9 → A.U.methodNamed? y = some mk → Pre A a →
    (∃ (v : Option Value) (B : Pt), Stand p l e R s m sargs below meth c B.U B.locs B.cells B.slots ∧ Post A a v B ∧
      Steps p.tables e below (doInvoke e (A.U.setTop g) [] mk a).1 (B.U.setTop { g with pc := g.pc + len, stack := v.toList ++ g.stack })) ∨
    (∃ (q : Addr) (B : Pt), Stand p l e R s m sargs below meth c B.U B.locs B.cells B.slots ∧ PostX A a q B ∧
      Steps p.tables e below (doInvoke e (A.U.setTop g) [] mk a).1 ((B.U.setTop g).pushFrame (.throwing q)))
section Payer
variable {l : Launch} {R : Room} {p : Program} {e : Env} {below : List Frame} {s : State} {sargs : Array Value} {y : MethodName} {len W9 : Nat}
theorem vx_back {ws : List Cond} {rm : Room} {Pc : Array Value → State → Prop} {Qc : Array Value → State → Outcome → State → Prop} {XC : String → State → State → Prop} {mc ms : Nat} {free : Addr → Prop} {bytes : ByteArray} {maxL : Nat} {ret : Option FieldType}
    (hM : vx_Met l y ws rm Pc Qc XC mc ms free) (hblind : FrameBlind Pc) (hrc : rm.cells = mc) (hrs : rm.slots = ms)
    (hframes : rm.frames + 1 ≤ R.frames) (hlocals : W9 + (maxL + 11) + rm.locals ≤ R.locals)
    (hws : ∀ w ∈ ws, ∀ a' U, s.WarmedH U.vm → w.before a' U = true) (hcode : Cond.code y bytes maxL ret ∈ ws) (hinit : ∀ a' U, s.WarmedH U.vm → (Cond.initialized y.cls).before a' U = true) :
    vx_Back l R p e below s sargs y len W9 (PreOf R mc ms Pc) (PostOf Qc mc ms free) (vx_Post XC mc ms free) := by
  intro m meth c A g ig mk a X hg hsize hdg hW hn hp
  have h1 : (headSpec ws rm).pre.before a A.U = true := atoms_intro fun w hw => hws w hw _ _ X.warmed
  have h2 : (Cond.code y bytes maxL ret).before a A.U = true := hws _ hcode _ _ X.warmed
  have h3 : (Cond.initialized y.cls).before a A.U = true := hinit _ _ X.warmed
  have h4 : A.cells + (headSpec ws rm).room.cells ≤ R.cells := by rw [show (headSpec ws rm).room.cells = mc from hrc]; exact hp.1
  have h5 : A.slots + (headSpec ws rm).room.slots ≤ R.slots := by rw [show (headSpec ws rm).room.slots = ms from hrs]; exact hp.2.1
  have hPc : Pc a (A.U.calling g mk a) := hblind _ _ _ _ hp.2.2
  obtain ⟨U, Ls, c0, s0⟩ := A
  dsimp only [Pt.U, Pt.locs, Pt.cells, Pt.slots] at h1 h2 h3 h4 h5 X hn hPc ⊢
  obtain ⟨methY, cY, hmY, hcY, -, hlY, -, -, -, -⟩ := Cond.code_spec hn h2
  obtain ⟨kY, hkY, -⟩ := className_of_methodNamed hn
  have hinitY : kY.init = .initialized := Cond.initialized_spec (findClass_of_methodNamed hn) hkY h3
  have h : At U g.method c below := by rw [hg]; exact X.here
  have hlocals9 : W9 + (maxL + 11) + (headSpec ws rm).room.locals ≤ R.locals := hlocals
  have happ : (headSpec ws rm).appliesLoose y e.platform (U.calling g mk a) = true :=
    Spec.appliesLoose_calling (g := g) h hdg hn hkY hinitY
      (X.room_calling (g := g) (R' := (headSpec ws rm).room) hsize hmY hcY hframes (by rw [hlY]; omega) h4 h5) h1
  obtain ⟨mid, hmid⟩ := h.above
  have hfr : (U.setTop g).frames = (.java g :: mid) ++ below := by rw [State.frames_setTop' g h.top, hmid]; rfl
  obtain ⟨o, s₂, hsteps, -, hend, hq⟩ := Steps.callFree hM p X.admits X.cas X.clock (acts := []) hfr happ hPc trivial
  have hq' : vx_Q Qc XC mc ms free a (U.calling g mk a) o s₂ := hq
  rw [State.frames_setTop' g h.top] at hend
  obtain ⟨g₀, hg0⟩ := Option.isSome_iff_exists.mp h.top
  obtain ⟨r, hr⟩ := State.topJava?_eq_some.mp hg0
  have hr' : (({ U with heap := s₂.heap, slotsUsed := s₂.slotsUsed } : State).setVm s₂.vm).frames = .java g₀ :: r := hr
  rcases hq' with ⟨hqc, L, hfe, hL⟩ | ⟨q, rfl, E, ce, L, hx, hce, hcv, hcl, hW₂, hsm, hL⟩
  · obtain ⟨⟨v, rfl⟩, hW₂, e2, q2, q3, q4, q5, q6⟩ := id hfe
    have e3 : s₂ = ({ (U.calling g mk a).setFrames s₂.frames with heap := s₂.heap, slotsUsed := s₂.slotsUsed } : State).setVm s₂.vm := by
      have : s₂ = ({ s₂ with vm := (U.calling g mk a).vm } : State).setVm s₂.vm := rfl
      rw [e2] at this
      exact this
    obtain ⟨c₂, i₂, len₂, hc₂, hd₂, hf₂⟩ := hend
    have hW' : U.WarmedH s₂.vm := hW₂
    have hcc : c₂ = c := by
      have h1 : s₂.code? g.method = U.code? g.method := by
        rw [State.code?_eq, State.code?_eq, hW'.alike.method?]
      exact Option.some.inj (hc₂.symm.trans (h1.trans h.code))
    subst hcc
    have hlen : len₂ = len := by rw [hdg] at hd₂; cases hd₂; rfl
    subst hlen
    have hs₂ : s₂ = (({ U with heap := s₂.heap, slotsUsed := s₂.slotsUsed } : State).setVm s₂.vm).setTop { g with pc := g.pc + len₂, stack := v.toList ++ g.stack } := by
      refine e3.trans ?_
      rw [hf₂, State.calling_eq h.top, State.setFrames_setFrames, State.setTop_of_frames _ hr', hr]
      rfl
    have hsame : U.sameButNew ({ U with heap := s₂.heap, slotsUsed := s₂.slotsUsed } : State) L mc ms := by
      refine ⟨?_, q2, q3, q4, q5, q6⟩
      obtain ⟨t, ht, -⟩ := State.frames_cons hr
      show ({ U with heap := s₂.heap, slotsUsed := s₂.slotsUsed } : State) = { U.setFrames U.frames with heap := s₂.heap, slotsUsed := s₂.slotsUsed }
      rw [State.setFrames_self ht]
    subst hg
    refine Or.inl ⟨v, ⟨(({ U with heap := s₂.heap, slotsUsed := s₂.slotsUsed } : State).setVm s₂.vm), Ls ++ L, c0 + mc, s0 + ms⟩,
      ⟨X.admits, X.cas, X.clock, X.frames, X.room, X.hears, X.method, X.code, (X.here.setHeapUsed s₂.heap s₂.slotsUsed).setVm hW'.alike, X.tail, State.WarmedH.trans X.warmed hW', X.limits, X.bytes, X.same.trans (hsame.setVm s.vm)⟩,
      ⟨g, mk, s₂, L, rfl, rfl, hqc, rfl, hL, rfl, rfl⟩, ?_⟩
    show Steps p.tables e below _ ((({ U with heap := s₂.heap, slotsUsed := s₂.slotsUsed } : State).setVm s₂.vm).setTop { g with pc := g.pc + len₂, stack := v.toList ++ g.stack })
    rw [← hs₂]
    exact hsteps
  · obtain ⟨e2, q2, q3, q4, q5, q6⟩ := id hsm
    have e3 : s₂ = ({ (U.calling g mk a).setFrames s₂.frames with heap := s₂.heap, slotsUsed := s₂.slotsUsed } : State).setVm s₂.vm := by
      have : s₂ = ({ s₂ with vm := (U.calling g mk a).vm } : State).setVm s₂.vm := rfl
      rw [e2] at this
      exact this
    have hf₂ : s₂.frames = .throwing q :: .java g :: U.frames.tail := hend
    have hW' : U.WarmedH s₂.vm := hW₂
    have hs₂ : s₂ = ((({ U with heap := s₂.heap, slotsUsed := s₂.slotsUsed } : State).setVm s₂.vm).setTop g).pushFrame (.throwing q) := by
      refine e3.trans ?_
      rw [hf₂, State.calling_eq h.top, State.setFrames_setFrames, State.pushFrame, State.frames_setTop _ hr', State.setTop_of_frames _ hr', State.setFrames_setFrames, hr]
      rfl
    have hsame : U.sameButNew ({ U with heap := s₂.heap, slotsUsed := s₂.slotsUsed } : State) L mc ms := by
      refine ⟨?_, q2, q3, q4, q5, q6⟩
      obtain ⟨t, ht, -⟩ := State.frames_cons hr
      show ({ U with heap := s₂.heap, slotsUsed := s₂.slotsUsed } : State) = { U.setFrames U.frames with heap := s₂.heap, slotsUsed := s₂.slotsUsed }
      rw [State.setFrames_self ht]
    subst hg
    refine Or.inr ⟨q, ⟨(({ U with heap := s₂.heap, slotsUsed := s₂.slotsUsed } : State).setVm s₂.vm), Ls ++ L, c0 + mc, s0 + ms⟩,
      ⟨X.admits, X.cas, X.clock, X.frames, X.room, X.hears, X.method, X.code, (X.here.setHeapUsed s₂.heap s₂.slotsUsed).setVm hW'.alike, X.tail, State.WarmedH.trans X.warmed hW', X.limits, X.bytes, X.same.trans (hsame.setVm s.vm)⟩,
      ⟨g, mk, s₂, L, E, ce, rfl, rfl, hx, hce, hcv, hcl, rfl, hL, rfl, rfl⟩, ?_⟩
    show Steps p.tables e below _ (((({ U with heap := s₂.heap, slotsUsed := s₂.slotsUsed } : State).setVm s₂.vm).setTop g).pushFrame (.throwing q))
    rw [← hs₂]
    exact hsteps
end Payer
section Calls
variable {p : Program} {l : Launch} {e : Env} {R : Room} {s : State} {m : MethodId} {args : Array Value} {below : List Frame} {meth : Method} {c : Code} {T : State} {locs : List Loc} {cells slots : Nat}
theorem vx_callV (X : Stand p l e R s m args below meth c T locs cells slots) (hexec : p.tables.exec = Jvm.exec) {own C : String} {index : Nat} {y : MethodName} {bytes : ByteArray} {maxL : Nat} {ret : Option FieldType}
    (hown : s.vm.findClass own = some m.cls) (hlink : (Cond.methodLink own index y).before args s = true) (hinst : (Cond.instanceMethod y).before args s = true) (hsel : (Cond.selects C y y).before args s = true)
    (hcode : (Cond.code y bytes maxL ret).before args s = true) (hy : y.cls ≠ "java/lang/invoke/MethodHandle" ∧ y.cls ≠ "java/lang/invoke/VarHandle")
    {W9 : Nat} {Pre : Pt → Array Value → Prop} {Post : Pt → Array Value → Option Value → Pt → Prop} {PostX : Pt → Array Value → Addr → Pt → Prop} (hK : vx_Back l R p e below s args y 3 W9 Pre Post PostX)
    {b : Addr} {cellB : Cell} (hcell : T.heap[b]? = some cellB) (hobj : cellB.vm.isStatics = false) (hcls : s.vm.findClass C = some cellB.cls)
    {g : JFrame} (hg : g.method = m) (hsize : g.locals.size = c.maxLocals) {argsL rest : List Value} (hlen : ∀ sig, parseMethodDescriptor y.desc = some sig → argsL.length = sig.parameters.length)
    (hstack : g.stack = argsL.reverse ++ .ref b :: rest) (hW : 2 * g.monitorRoom + (rest.map fun v => v.category).sum ≤ W9) (hdg : decode c.code g.pc = .ok (.invokevirtual index, 3))
    (hpre : ∀ vm₁, s.WarmedH vm₁ → Pre ⟨T.setVm vm₁, locs, cells, slots⟩ (Value.ref b :: argsL).toArray) :
    (∃ (v : Option Value) (vm₁ : Vm) (B : Pt), s.WarmedH vm₁ ∧ Stand p l e R s m args below meth c B.U B.locs B.cells B.slots ∧ Post ⟨T.setVm vm₁, locs, cells, slots⟩ (Value.ref b :: argsL).toArray v B ∧
      ∀ target, Steps p.tables e below (B.U.setTop { g with pc := g.pc + 3, stack := v.toList ++ rest }) target → Steps p.tables e below (T.setTop g) target) ∨
    (∃ (q : Addr) (vm₁ : Vm) (B : Pt), s.WarmedH vm₁ ∧ Stand p l e R s m args below meth c B.U B.locs B.cells B.slots ∧ PostX ⟨T.setVm vm₁, locs, cells, slots⟩ (Value.ref b :: argsL).toArray q B ∧
      Steps p.tables e below (T.setTop g) ((B.U.setTop { g with stack := rest }).pushFrame (.throwing q))) := by
  obtain ⟨mk, methM, hnamed, hmethM, hstM, habM⟩ := Cond.instanceMethod_spec hinst
  obtain ⟨methM', cM, hmethM', -, -, -, -, -, -, hsigM⟩ := Cond.code_spec hnamed hcode
  cases hmethM.symm.trans hmethM'
  obtain ⟨c2, r2, m2, q1, q2, q3, q4, kP, hkP, hkPi⟩ := Cond.selects_spec hsel
  cases hcls.symm.trans q1
  cases (State.methodFound?_of_named hnamed hy).symm.trans q2
  cases hnamed.symm.trans q3
  have hselP : selectMethod e.platform s.vm cellB.cls mk = .method mk := by rw [Launch.admits_selectMethod X.admits]; exact q4
  obtain ⟨vm₁, X₁, hstep₁⟩ := X.invokevirtual hexec hown hlink hnamed hmethM hstM hkP hkPi hy (a := b) (cell := cellB) hcell
    (fun z h => by rw [h] at hobj; cases hobj) hselP hmethM habM hkP hkPi (g := g) hg (argsL := argsL) (rest := rest) (hlen _ hsigM) hstack hdg
  rcases hK m meth c ⟨T.setVm vm₁, locs, cells, slots⟩ { g with stack := rest } (.invokevirtual index) mk (Value.ref b :: argsL).toArray X₁ hg hsize hdg hW (X₁.named hnamed) (hpre vm₁ X₁.warmed) with ⟨v, B, X', hpost, hsteps⟩ | ⟨q, B, X', hpost, hsteps⟩
  · exact Or.inl ⟨v, vm₁, B, X₁.warmed, X', hpost, fun target h => hstep₁ _ fun acts => by rw [doInvoke_state]; exact hsteps.trans h⟩
  · exact Or.inr ⟨q, vm₁, B, X₁.warmed, X', hpost, hstep₁ _ fun acts => by rw [doInvoke_state]; exact hsteps⟩
theorem vx_callS (X : Stand p l e R s m args below meth c T locs cells slots) (hexec : p.tables.exec = Jvm.exec) {own : String} {index : Nat} {y : MethodName} {bytes : ByteArray} {maxL : Nat} {ret : Option FieldType}
    (hown : s.vm.findClass own = some m.cls) (hlink : (Cond.methodLink own index y).before args s = true) (hstat : (Cond.static y).before args s = true) (hinit : (Cond.initialized y.cls).before args s = true)
    (hcode : (Cond.code y bytes maxL ret).before args s = true) (hy : y.cls ≠ "java/lang/invoke/MethodHandle" ∧ y.cls ≠ "java/lang/invoke/VarHandle")
    {W9 : Nat} {Pre : Pt → Array Value → Prop} {Post : Pt → Array Value → Option Value → Pt → Prop} {PostX : Pt → Array Value → Addr → Pt → Prop} (hK : vx_Back l R p e below s args y 3 W9 Pre Post PostX)
    {g : JFrame} (hg : g.method = m) (hsize : g.locals.size = c.maxLocals) {argsL rest : List Value} (hlen : ∀ sig, parseMethodDescriptor y.desc = some sig → argsL.length = sig.parameters.length)
    (hstack : g.stack = argsL.reverse ++ rest) (hW : 2 * g.monitorRoom + (rest.map fun v => v.category).sum ≤ W9) (hdg : decode c.code g.pc = .ok (.invokestatic index, 3))
    (hpre : ∀ vm₁, s.WarmedH vm₁ → Pre ⟨T.setVm vm₁, locs, cells, slots⟩ argsL.toArray) :
    (∃ (v : Option Value) (vm₁ : Vm) (B : Pt), s.WarmedH vm₁ ∧ Stand p l e R s m args below meth c B.U B.locs B.cells B.slots ∧ Post ⟨T.setVm vm₁, locs, cells, slots⟩ argsL.toArray v B ∧
      ∀ target, Steps p.tables e below (B.U.setTop { g with pc := g.pc + 3, stack := v.toList ++ rest }) target → Steps p.tables e below (T.setTop g) target) ∨
    (∃ (q : Addr) (vm₁ : Vm) (B : Pt), s.WarmedH vm₁ ∧ Stand p l e R s m args below meth c B.U B.locs B.cells B.slots ∧ PostX ⟨T.setVm vm₁, locs, cells, slots⟩ argsL.toArray q B ∧
      Steps p.tables e below (T.setTop g) ((B.U.setTop { g with stack := rest }).pushFrame (.throwing q))) := by
  obtain ⟨mk, hnamed⟩ := Cond.code_named hcode
  obtain ⟨methM, cM, hmethM, -, -, -, -, -, -, hsigM⟩ := Cond.code_spec hnamed hcode
  have hstatic : methM.isStatic = true := Cond.static_spec hnamed hmethM hstat
  obtain ⟨kP, hkP, -⟩ := className_of_methodNamed hnamed
  have hinitP : kP.init = .initialized := Cond.initialized_spec (findClass_of_methodNamed hnamed) hkP hinit
  obtain ⟨vm₁, X₁, hstep₁⟩ := X.invokestatic hexec hown hlink hnamed hmethM hstatic hkP hinitP hy (g := g) hg (argsL := argsL) (rest := rest) (hlen _ hsigM) hstack hdg
  rcases hK m meth c ⟨T.setVm vm₁, locs, cells, slots⟩ { g with stack := rest } (.invokestatic index) mk argsL.toArray X₁ hg hsize hdg hW (X₁.named hnamed) (hpre vm₁ X₁.warmed) with ⟨v, B, X', hpost, hsteps⟩ | ⟨q, B, X', hpost, hsteps⟩
  · exact Or.inl ⟨v, vm₁, B, X₁.warmed, X', hpost, fun target h => hstep₁ _ fun acts => by rw [doInvoke_state]; exact hsteps.trans h⟩
  · exact Or.inr ⟨q, vm₁, B, X₁.warmed, X', hpost, hstep₁ _ fun acts => by rw [doInvoke_state]; exact hsteps⟩
end Calls
theorem vx_cls {s : State} {T : State} {vm₁ : Vm} {E : String} {k : ClassId} (hW : s.WarmedH vm₁) (h : (T.setVm vm₁).vm.findClass E = some k) : s.vm.findClass E = some k := by
  have h1 : vm₁.findClass E = some k := h
  rw [hW.alike.findClass] at h1
  exact h1
/-- the method's frame g, with q thrown over it -/
def vx_W (p : Program) (l : Launch) (e : Env) (R : Room) (s : State) (m : MethodId) (args : Array Value) (below : List Frame) (meth : Method) (c : Code) (H : Heap) (locs : List Loc) (cells slots : Nat) (Q : State → Prop) (g : JFrame) (q : Addr) : Prop :=
  ∀ T : State, T.heap = H → Stand p l e R s m args below meth c T locs cells slots → ∃ t, Steps p.tables e below ((T.setTop g).pushFrame (.throwing q)) t ∧ Q t
def vx_Run (p : Program) (l : Launch) (e : Env) (R : Room) (s : State) (m : MethodId) (args : Array Value) (below : List Frame) (meth : Method) (c : Code) (H : Heap) (locs : List Loc) (cells slots mc ms : Nat) (g : JFrame) (rest : List Value) (Qa : State → Outcome → State → Prop) (XC : String → State → State → Prop) (free : Addr → Prop) : Prop :=
  ∀ T : State, T.heap = H → Stand p l e R s m args below meth c T locs cells slots →
    (∃ (v : Option Value) (st₀ t T' : State) (L : List Loc), st₀.heap = H ∧ Stand p l e R s m args below meth c T' (locs ++ L) (cells + mc) (slots + ms) ∧ (∀ q ∈ L, free q.base) ∧ T'.heap = t.heap ∧ T'.vm = t.vm ∧ Qa st₀ (.returned v) t ∧
      Goes p e below T g T' { g with pc := g.pc + 3, stack := v.toList ++ rest }) ∨
    (∃ (q : Addr) (st₀ t T' : State) (L : List Loc) (E : String) (ce : Cell), st₀.heap = H ∧ Stand p l e R s m args below meth c T' (locs ++ L) (cells + mc) (slots + ms) ∧ (∀ z ∈ L, free z.base) ∧ T'.heap = t.heap ∧ T'.vm = t.vm ∧ XC E st₀ t ∧ t.heap[q]? = some ce ∧ ce.vm = .none ∧ s.vm.findClass E = some ce.cls ∧
      Steps p.tables e below (T.setTop g) ((T'.setTop { g with stack := rest }).pushFrame (.throwing q)))
def vx_X {S : Type} (px : S → Prop) (B : String → S → State → Prop) (A : Nat → Prop) : String → State → State → Prop := fun E st t => ∃ u : S, px u ∧ B E u t ∧ va_F A st t
section Runs
variable {p : Program} {l : Launch} {e : Env} {R : Room} {s : State} {m : MethodId} {args : Array Value} {below : List Frame} {meth : Method} {c : Code} {H : Heap} {locs : List Loc} {cells slots : Nat}
variable {y : MethodName} {bytes cc : ByteArray} {maxL nL mc ms n index : Nat} {ret : Option FieldType} {ws : List Cond} {rm : Room} {Pc : Array Value → State → Prop} {Qc : Array Value → State → Outcome → State → Prop} {XC : String → State → State → Prop} {free : Addr → Prop} {Ts : List Cond} {own C : String} {b : Addr} {As rest : List Value} {g : JFrame}
theorem vx_callBack (cb : CallB R s args own index y bytes maxL ret ws rm mc ms n) (hM : vx_Met l y ws rm Pc Qc XC mc ms free) (hbl : FrameBlind Pc) : vx_Back l R p e below s args y 3 8 (PreOf R mc ms Pc) (PostOf Qc mc ms free) (vx_Post XC mc ms free) := by
  obtain ⟨hrc, hrs, hfr, hlo, hws, hcw, -, hini, -⟩ := cb
  exact vx_back (bytes := bytes) (maxL := maxL) (ret := ret) hM hbl hrc hrs hfr hlo hws hcw (fun a' U hW => word_at hW (Or.inl (by first | rfl | simp [Cond.onTables, Cond.keeps, Cond.steady])) hini)
theorem vx_runV (S : CallFix p m c cc nL s args Ts own) (hM : vx_Met l y ws rm Pc Qc XC mc ms free) (cw : CallW R s args own C index y bytes maxL ret ws rm mc ms n) (hp : PreV s H C b Pc As)
    (hg : g.method = m) (hn : As.length = n) (hsize : g.locals.size = nL) (hstack : g.stack = As.reverse ++ .ref b :: rest) (hW : 2 * g.monitorRoom + (rest.map fun v => v.category).sum ≤ 8) (hdg : decode cc g.pc = .ok (.invokevirtual index, 3)) (hf : cells + mc ≤ R.cells ∧ slots + ms ≤ R.slots) :
    vx_Run p l e R s m args below meth c H locs cells slots mc ms g rest (Qc (Value.ref b :: As).toArray) XC free := by
  have hK : vx_Back l R p e below s args y 3 8 (PreOf R mc ms Pc) (PostOf Qc mc ms free) (vx_Post XC mc ms free) := vx_callBack cw.1 hM hp.1
  obtain ⟨⟨-, -, -, -, -, -, hcode, -, hy, hlen, hl⟩, hin, hse⟩ := cw
  obtain ⟨hx, hb, hml, ho, -⟩ := S
  obtain ⟨-, ⟨cellB, hcB, hoB, hclB⟩, hPc⟩ := hp
  intro T hT X
  rcases vx_callV X hx (C := C) (bytes := bytes) (maxL := maxL) (ret := ret) ho hl hin hse hcode hy hK (by rw [hT]; exact hcB) hoB hclB hg (hsize.trans hml.symm) (argsL := As) (rest := rest) (fun sig h => hn.trans (hlen sig h)) hstack hW (by rw [hb]; exact hdg)
    (fun vm₁ hW₁ => ⟨hf.1, hf.2, hPc (T.setVm vm₁) hT hW₁⟩) with ⟨v, vm₁, ⟨U', l2, c2, s2⟩, hW₁, X', ⟨g', mk, t, L, e1, e2, hq, h1, hL, h2, h3⟩, st⟩ | ⟨q, vm₁, ⟨U', l2, c2, s2⟩, hW₁, X', ⟨g', mk, t, L, E, ce, e1, e2, hq, hce, hcv, hcl, h1, hL, h2, h3⟩, st⟩
  · dsimp only [Pt.U, Pt.locs, Pt.cells, Pt.slots] at X' e1 e2 h1 h2 h3 st
    subst h1; subst h2; subst h3
    exact Or.inl ⟨v, (T.setVm vm₁).calling g' mk (Value.ref b :: As).toArray, t, U', L, hT, X', hL, e1, e2, hq, st⟩
  · dsimp only [Pt.U, Pt.locs, Pt.cells, Pt.slots] at X' e1 e2 h1 h2 h3 st hcl
    subst h1; subst h2; subst h3
    exact Or.inr ⟨q, (T.setVm vm₁).calling g' mk (Value.ref b :: As).toArray, t, U', L, E, ce, hT, X', hL, e1, e2, hq, hce, hcv, vx_cls hW₁ hcl, st⟩
theorem vx_runS (S : CallFix p m c cc nL s args Ts own) (hM : vx_Met l y ws rm Pc Qc XC mc ms free) (cw : CallB R s args own index y bytes maxL ret ws rm mc ms n ∧ (Cond.static y).before args s = true) (hp : PreS s H Pc As)
    (hg : g.method = m) (hn : As.length = n) (hsize : g.locals.size = nL) (hstack : g.stack = As.reverse ++ rest) (hW : 2 * g.monitorRoom + (rest.map fun v => v.category).sum ≤ 8) (hdg : decode cc g.pc = .ok (.invokestatic index, 3)) (hf : cells + mc ≤ R.cells ∧ slots + ms ≤ R.slots) :
    vx_Run p l e R s m args below meth c H locs cells slots mc ms g rest (Qc As.toArray) XC free := by
  have hK : vx_Back l R p e below s args y 3 8 (PreOf R mc ms Pc) (PostOf Qc mc ms free) (vx_Post XC mc ms free) := vx_callBack cw.1 hM hp.1
  obtain ⟨⟨-, -, -, -, -, -, hcode, hini, hy, hlen, hl⟩, hstt⟩ := cw
  obtain ⟨hx, hb, hml, ho, -⟩ := S
  intro T hT X
  rcases vx_callS X hx (bytes := bytes) (maxL := maxL) (ret := ret) ho hl hstt hini hcode hy hK hg (hsize.trans hml.symm) (argsL := As) (rest := rest) (fun sig h => hn.trans (hlen sig h)) hstack hW (by rw [hb]; exact hdg)
    (fun vm₁ hW₁ => ⟨hf.1, hf.2, hp.2 (T.setVm vm₁) hT hW₁⟩) with ⟨v, vm₁, ⟨U', l2, c2, s2⟩, hW₁, X', ⟨g', mk, t, L, e1, e2, hq, h1, hL, h2, h3⟩, st⟩ | ⟨q, vm₁, ⟨U', l2, c2, s2⟩, hW₁, X', ⟨g', mk, t, L, E, ce, e1, e2, hq, hce, hcv, hcl, h1, hL, h2, h3⟩, st⟩
  · dsimp only [Pt.U, Pt.locs, Pt.cells, Pt.slots] at X' e1 e2 h1 h2 h3 st
    subst h1; subst h2; subst h3
    exact Or.inl ⟨v, (T.setVm vm₁).calling g' mk As.toArray, t, U', L, hT, X', hL, e1, e2, hq, st⟩
  · dsimp only [Pt.U, Pt.locs, Pt.cells, Pt.slots] at X' e1 e2 h1 h2 h3 st hcl
    subst h1; subst h2; subst h3
    exact Or.inr ⟨q, (T.setVm vm₁).calling g' mk As.toArray, t, U', L, E, ce, hT, X', hL, e1, e2, hq, hce, hcv, vx_cls hW₁ hcl, st⟩
end Runs
section Rows
variable {p : Program} {l : Launch} {e : Env} {R : Room} {s : State} {m : MethodId} {args : Array Value} {below : List Frame} {meth : Method} {c : Code} {H : Heap} {locs : List Loc} {cells slots : Nat} {Q : State → Prop}
variable {mc ms : Nat} {free : Addr → Prop} {A0 A1 : Nat → Prop} {H0 : Heap} {a : Array Value} {pc : Nat} {ls : Array Slot} {st0 rest : List Value}
theorem vx_keep {st₀ t T' : State} {L : List Loc} (h0 : st₀.heap = H) (e1 : T'.heap = t.heap) (hS : va_S A0 H0 H locs) (hA : ∀ q, q < H.size → A1 q → A0 q) (hf : ∀ q, free q → A0 q) (hL : ∀ q ∈ L, free q.base) (hF : va_F A1 st₀ t) :
    H.size ≤ T'.heap.size ∧ (∀ q : Nat, q < H.size → ¬ A1 q → T'.heap[q]? = H[q]?) ∧ va_S A0 H0 T'.heap (locs ++ L) := by
  obtain ⟨hz, hk⟩ := hF
  rw [h0] at hz hk
  exact ⟨by rw [e1]; exact hz, fun q h1 h2 => by rw [e1]; exact hk q h1 h2,
    ⟨Nat.le_trans hS.1 (by rw [e1]; exact hz), fun q h1 h2 => by rw [e1, hk q (Nat.lt_of_lt_of_le h1 hS.1) (fun z => h2 (hA q (Nat.lt_of_lt_of_le h1 hS.1) z))]; exact hS.2.1 q h1 h2, fun q hq => by
      rcases List.mem_append.mp hq with h | h
      · exact hS.2.2 q h
      · exact hf _ (hL q h)⟩⟩
theorem vx_calli {S SX : Type} {post : Int32 → S → Prop} {px : SX → Prop} {B : S → State → Prop} {BX : String → SX → State → Prop} {AX : Nat → Prop} (hr : vx_Run p l e R s m args below meth c H locs cells slots mc ms (F0 m pc ls st0) rest (va_Qi post B A1 a) (vx_X px BX AX) free) (hS : va_S A0 H0 H locs) (hA : ∀ q, q < H.size → A1 q → A0 q) (hf : ∀ q, free q → A0 q) (hAX : ∀ q, q < H.size → AX q → A0 q)
    (kx : ∀ (E : String) (ce : Cell) (q9 : Addr) (u : SX) (t : State) (H1 : Heap) (locs1 : List Loc), t.heap = H1 → s.vm.Alike t.vm → px u → BX E u t → H.size ≤ H1.size → (∀ q : Nat, q < H.size → ¬ AX q → H1[q]? = H[q]?) → va_S A0 H0 H1 locs1 → H1[q9]? = some ce → ce.vm = .none → s.vm.findClass E = some ce.cls → vx_W p l e R s m args below meth c H1 locs1 (cells + mc) (slots + ms) Q (F0 m pc ls rest) q9)
    (kk : ∀ (r : Int32) (u : S) (t : State) (H1 : Heap) (locs1 : List Loc), t.heap = H1 → s.vm.Alike t.vm → post r u → B u t → H.size ≤ H1.size → (∀ q : Nat, q < H.size → ¬ A1 q → H1[q]? = H[q]?) → va_S A0 H0 H1 locs1 → W p l e R s m args below meth c H1 locs1 (cells + mc) (slots + ms) Q (F0 m (pc + 3) ls (.int r :: rest))) : W p l e R s m args below meth c H locs cells slots Q (F0 m pc ls st0) := by
  intro T hT X
  rcases hr T hT X with ⟨v, st₀, t, T', L, h0, X', hL, e1, e2, ⟨⟨r, u, hv, hp, hb⟩, hF⟩, st⟩ | ⟨q, st₀, t, T', L, E, ce, h0, X', hL, e1, e2, ⟨u, hp, hb, hF⟩, hce, hcv, hcl, st⟩
  · cases hv
    obtain ⟨k1, k2, k3⟩ := vx_keep h0 e1 hS hA hf hL hF
    obtain ⟨t2, a1, b1⟩ := kk r u t T'.heap (locs ++ L) e1.symm (by rw [← e2]; exact X'.warmed.alike) hp hb k1 k2 k3 T' rfl X'
    exact ⟨t2, st t2 a1, b1⟩
  · obtain ⟨k1, k2, k3⟩ := vx_keep h0 e1 hS hAX hf hL hF
    obtain ⟨t2, a1, b1⟩ := kx E ce q u t T'.heap (locs ++ L) e1.symm (by rw [← e2]; exact X'.warmed.alike) hp hb k1 k2 k3 (by rw [e1]; exact hce) hcv hcl T' rfl X'
    exact ⟨t2, st.trans a1, b1⟩
theorem vx_calll {S SX : Type} {post : Int64 → S → Prop} {px : SX → Prop} {B : S → State → Prop} {BX : String → SX → State → Prop} {AX : Nat → Prop} (hr : vx_Run p l e R s m args below meth c H locs cells slots mc ms (F0 m pc ls st0) rest (va_Ql post B A1 a) (vx_X px BX AX) free) (hS : va_S A0 H0 H locs) (hA : ∀ q, q < H.size → A1 q → A0 q) (hf : ∀ q, free q → A0 q) (hAX : ∀ q, q < H.size → AX q → A0 q)
    (kx : ∀ (E : String) (ce : Cell) (q9 : Addr) (u : SX) (t : State) (H1 : Heap) (locs1 : List Loc), t.heap = H1 → s.vm.Alike t.vm → px u → BX E u t → H.size ≤ H1.size → (∀ q : Nat, q < H.size → ¬ AX q → H1[q]? = H[q]?) → va_S A0 H0 H1 locs1 → H1[q9]? = some ce → ce.vm = .none → s.vm.findClass E = some ce.cls → vx_W p l e R s m args below meth c H1 locs1 (cells + mc) (slots + ms) Q (F0 m pc ls rest) q9)
    (kk : ∀ (r : Int64) (u : S) (t : State) (H1 : Heap) (locs1 : List Loc), t.heap = H1 → s.vm.Alike t.vm → post r u → B u t → H.size ≤ H1.size → (∀ q : Nat, q < H.size → ¬ A1 q → H1[q]? = H[q]?) → va_S A0 H0 H1 locs1 → W p l e R s m args below meth c H1 locs1 (cells + mc) (slots + ms) Q (F0 m (pc + 3) ls (.long r :: rest))) : W p l e R s m args below meth c H locs cells slots Q (F0 m pc ls st0) := by
  intro T hT X
  rcases hr T hT X with ⟨v, st₀, t, T', L, h0, X', hL, e1, e2, ⟨⟨r, u, hv, hp, hb⟩, hF⟩, st⟩ | ⟨q, st₀, t, T', L, E, ce, h0, X', hL, e1, e2, ⟨u, hp, hb, hF⟩, hce, hcv, hcl, st⟩
  · cases hv
    obtain ⟨k1, k2, k3⟩ := vx_keep h0 e1 hS hA hf hL hF
    obtain ⟨t2, a1, b1⟩ := kk r u t T'.heap (locs ++ L) e1.symm (by rw [← e2]; exact X'.warmed.alike) hp hb k1 k2 k3 T' rfl X'
    exact ⟨t2, st t2 a1, b1⟩
  · obtain ⟨k1, k2, k3⟩ := vx_keep h0 e1 hS hAX hf hL hF
    obtain ⟨t2, a1, b1⟩ := kx E ce q u t T'.heap (locs ++ L) e1.symm (by rw [← e2]; exact X'.warmed.alike) hp hb k1 k2 k3 (by rw [e1]; exact hce) hcv hcl T' rfl X'
    exact ⟨t2, st.trans a1, b1⟩
theorem vx_callf {S SX : Type} {post : UInt32 → S → Prop} {px : SX → Prop} {B : S → State → Prop} {BX : String → SX → State → Prop} {AX : Nat → Prop} (hr : vx_Run p l e R s m args below meth c H locs cells slots mc ms (F0 m pc ls st0) rest (va_Qf post B A1 a) (vx_X px BX AX) free) (hS : va_S A0 H0 H locs) (hA : ∀ q, q < H.size → A1 q → A0 q) (hf : ∀ q, free q → A0 q) (hAX : ∀ q, q < H.size → AX q → A0 q)
    (kx : ∀ (E : String) (ce : Cell) (q9 : Addr) (u : SX) (t : State) (H1 : Heap) (locs1 : List Loc), t.heap = H1 → s.vm.Alike t.vm → px u → BX E u t → H.size ≤ H1.size → (∀ q : Nat, q < H.size → ¬ AX q → H1[q]? = H[q]?) → va_S A0 H0 H1 locs1 → H1[q9]? = some ce → ce.vm = .none → s.vm.findClass E = some ce.cls → vx_W p l e R s m args below meth c H1 locs1 (cells + mc) (slots + ms) Q (F0 m pc ls rest) q9)
    (kk : ∀ (r : UInt32) (u : S) (t : State) (H1 : Heap) (locs1 : List Loc), t.heap = H1 → s.vm.Alike t.vm → post r u → B u t → H.size ≤ H1.size → (∀ q : Nat, q < H.size → ¬ A1 q → H1[q]? = H[q]?) → va_S A0 H0 H1 locs1 → W p l e R s m args below meth c H1 locs1 (cells + mc) (slots + ms) Q (F0 m (pc + 3) ls (.float r :: rest))) : W p l e R s m args below meth c H locs cells slots Q (F0 m pc ls st0) := by
  intro T hT X
  rcases hr T hT X with ⟨v, st₀, t, T', L, h0, X', hL, e1, e2, ⟨⟨r, u, hv, hp, hb⟩, hF⟩, st⟩ | ⟨q, st₀, t, T', L, E, ce, h0, X', hL, e1, e2, ⟨u, hp, hb, hF⟩, hce, hcv, hcl, st⟩
  · cases hv
    obtain ⟨k1, k2, k3⟩ := vx_keep h0 e1 hS hA hf hL hF
    obtain ⟨t2, a1, b1⟩ := kk r u t T'.heap (locs ++ L) e1.symm (by rw [← e2]; exact X'.warmed.alike) hp hb k1 k2 k3 T' rfl X'
    exact ⟨t2, st t2 a1, b1⟩
  · obtain ⟨k1, k2, k3⟩ := vx_keep h0 e1 hS hAX hf hL hF
    obtain ⟨t2, a1, b1⟩ := kx E ce q u t T'.heap (locs ++ L) e1.symm (by rw [← e2]; exact X'.warmed.alike) hp hb k1 k2 k3 (by rw [e1]; exact hce) hcv hcl T' rfl X'
    exact ⟨t2, st.trans a1, b1⟩
theorem vx_calld {S SX : Type} {post : UInt64 → S → Prop} {px : SX → Prop} {B : S → State → Prop} {BX : String → SX → State → Prop} {AX : Nat → Prop} (hr : vx_Run p l e R s m args below meth c H locs cells slots mc ms (F0 m pc ls st0) rest (va_Qd post B A1 a) (vx_X px BX AX) free) (hS : va_S A0 H0 H locs) (hA : ∀ q, q < H.size → A1 q → A0 q) (hf : ∀ q, free q → A0 q) (hAX : ∀ q, q < H.size → AX q → A0 q)
    (kx : ∀ (E : String) (ce : Cell) (q9 : Addr) (u : SX) (t : State) (H1 : Heap) (locs1 : List Loc), t.heap = H1 → s.vm.Alike t.vm → px u → BX E u t → H.size ≤ H1.size → (∀ q : Nat, q < H.size → ¬ AX q → H1[q]? = H[q]?) → va_S A0 H0 H1 locs1 → H1[q9]? = some ce → ce.vm = .none → s.vm.findClass E = some ce.cls → vx_W p l e R s m args below meth c H1 locs1 (cells + mc) (slots + ms) Q (F0 m pc ls rest) q9)
    (kk : ∀ (r : UInt64) (u : S) (t : State) (H1 : Heap) (locs1 : List Loc), t.heap = H1 → s.vm.Alike t.vm → post r u → B u t → H.size ≤ H1.size → (∀ q : Nat, q < H.size → ¬ A1 q → H1[q]? = H[q]?) → va_S A0 H0 H1 locs1 → W p l e R s m args below meth c H1 locs1 (cells + mc) (slots + ms) Q (F0 m (pc + 3) ls (.double r :: rest))) : W p l e R s m args below meth c H locs cells slots Q (F0 m pc ls st0) := by
  intro T hT X
  rcases hr T hT X with ⟨v, st₀, t, T', L, h0, X', hL, e1, e2, ⟨⟨r, u, hv, hp, hb⟩, hF⟩, st⟩ | ⟨q, st₀, t, T', L, E, ce, h0, X', hL, e1, e2, ⟨u, hp, hb, hF⟩, hce, hcv, hcl, st⟩
  · cases hv
    obtain ⟨k1, k2, k3⟩ := vx_keep h0 e1 hS hA hf hL hF
    obtain ⟨t2, a1, b1⟩ := kk r u t T'.heap (locs ++ L) e1.symm (by rw [← e2]; exact X'.warmed.alike) hp hb k1 k2 k3 T' rfl X'
    exact ⟨t2, st t2 a1, b1⟩
  · obtain ⟨k1, k2, k3⟩ := vx_keep h0 e1 hS hAX hf hL hF
    obtain ⟨t2, a1, b1⟩ := kx E ce q u t T'.heap (locs ++ L) e1.symm (by rw [← e2]; exact X'.warmed.alike) hp hb k1 k2 k3 (by rw [e1]; exact hce) hcv hcl T' rfl X'
    exact ⟨t2, st.trans a1, b1⟩
theorem vx_callv {S SX : Type} {post : S → Prop} {px : SX → Prop} {B : S → State → Prop} {BX : String → SX → State → Prop} {AX : Nat → Prop} (hr : vx_Run p l e R s m args below meth c H locs cells slots mc ms (F0 m pc ls st0) rest (va_Qv post B A1 a) (vx_X px BX AX) free) (hS : va_S A0 H0 H locs) (hA : ∀ q, q < H.size → A1 q → A0 q) (hf : ∀ q, free q → A0 q) (hAX : ∀ q, q < H.size → AX q → A0 q)
    (kx : ∀ (E : String) (ce : Cell) (q9 : Addr) (u : SX) (t : State) (H1 : Heap) (locs1 : List Loc), t.heap = H1 → s.vm.Alike t.vm → px u → BX E u t → H.size ≤ H1.size → (∀ q : Nat, q < H.size → ¬ AX q → H1[q]? = H[q]?) → va_S A0 H0 H1 locs1 → H1[q9]? = some ce → ce.vm = .none → s.vm.findClass E = some ce.cls → vx_W p l e R s m args below meth c H1 locs1 (cells + mc) (slots + ms) Q (F0 m pc ls rest) q9)
    (kk : ∀ (u : S) (t : State) (H1 : Heap) (locs1 : List Loc), t.heap = H1 → s.vm.Alike t.vm → post u → B u t → H.size ≤ H1.size → (∀ q : Nat, q < H.size → ¬ A1 q → H1[q]? = H[q]?) → va_S A0 H0 H1 locs1 → W p l e R s m args below meth c H1 locs1 (cells + mc) (slots + ms) Q (F0 m (pc + 3) ls (rest))) : W p l e R s m args below meth c H locs cells slots Q (F0 m pc ls st0) := by
  intro T hT X
  rcases hr T hT X with ⟨v, st₀, t, T', L, h0, X', hL, e1, e2, ⟨⟨u, hv, hp, hb⟩, hF⟩, st⟩ | ⟨q, st₀, t, T', L, E, ce, h0, X', hL, e1, e2, ⟨u, hp, hb, hF⟩, hce, hcv, hcl, st⟩
  · cases hv
    obtain ⟨k1, k2, k3⟩ := vx_keep h0 e1 hS hA hf hL hF
    obtain ⟨t2, a1, b1⟩ := kk u t T'.heap (locs ++ L) e1.symm (by rw [← e2]; exact X'.warmed.alike) hp hb k1 k2 k3 T' rfl X'
    exact ⟨t2, st t2 a1, b1⟩
  · obtain ⟨k1, k2, k3⟩ := vx_keep h0 e1 hS hAX hf hL hF
    obtain ⟨t2, a1, b1⟩ := kx E ce q u t T'.heap (locs ++ L) e1.symm (by rw [← e2]; exact X'.warmed.alike) hp hb k1 k2 k3 (by rw [e1]; exact hce) hcv hcl T' rfl X'
    exact ⟨t2, st.trans a1, b1⟩
/-- caught by the row x of this method's table; the rows ahead don't take it -/
theorem vx_catch {own name : String} {E : String} {ce : Cell} {q : Addr} (hown : s.vm.findClass own = some m.cls) (pre : List ExceptionTableEntry) (x : ExceptionTableEntry) (suf : List ExceptionTableEntry) (hsplit : c.exceptionTable.toList = pre ++ x :: suf)
    (hpass : ∀ z ∈ pre, covers z pc = false ∨ (z.catchType ≠ 0 ∧ ∃ nm : String, (Cond.classLink own z.catchType nm).before args s = true ∧ va_Nc E nm s)) (hx : covers x pc = true) (h0 : x.catchType ≠ 0)
    (hlink : (Cond.classLink own x.catchType name).before args s = true) (hcast : (Cond.castable E name).before args s = true) (hcell : H[q]? = some ce) (hv : ce.vm = .none) (hcl : s.vm.findClass E = some ce.cls)
    (kk : W p l e R s m args below meth c H locs cells slots Q (F0 m x.handlerPc ls [.ref q])) : vx_W p l e R s m args below meth c H locs cells slots Q (F0 m pc ls rest) q := by
  intro T hT X
  have hpl : e.platform.magicAccessors = ({} : Platform).magicAccessors := by rw [X.admits.platform]
  obtain ⟨c3, c4, hc3, hc4, hasg⟩ := Cond.castable_spec hcast
  cases Option.some.inj (hc3.symm.trans hcl)
  obtain ⟨c5, hc5, hcl5⟩ := Cond.classLink_spec hown hlink e.platform hpl
  cases Option.some.inj (hc4.symm.trans hc5)
  obtain ⟨vm', X', st⟩ := X.thenCaughtThrough q (g := F0 m pc ls rest) rfl (Steps.refl _) (by rw [hT]; exact hcell) (by rw [hv]; rfl) (by obtain ⟨k9, h9, -⟩ := Vm.findClass_spec hcl; exact ⟨k9, h9⟩) pre x suf hsplit
    (fun z hz => by
      rcases hpass z hz with h | ⟨hz0, nm, hl1, hn1⟩
      · exact Or.inl h
      · obtain ⟨c6, hc6, hcl6⟩ := Cond.classLink_spec hown hl1 e.platform hpl
        obtain ⟨a8, b8, h1, h2, h3⟩ := hn1
        cases Option.some.inj (h1.symm.trans hcl)
        cases Option.some.inj (h2.symm.trans hc6)
        exact Or.inr ⟨hz0, _, hcl6, h3⟩) hx (Or.inr ⟨h0, c4, hcl5, hasg⟩)
  obtain ⟨t, a1, b1⟩ := kk (T.setVm vm') hT X'
  exact ⟨t, st.trans a1, b1⟩
end Rows
section Ends
variable {p : Program} {l : Launch} {e : Env} {R : Room} {s : State} {m : MethodId} {args : Array Value} {below : List Frame} {meth : Method} {c : Code} {H : Heap} {locs : List Loc} {cells slots : Nat} {Q : State → Prop}
variable {mc ms : Nat} {free : Addr → Prop} {A0 A1 : Nat → Prop} {H0 : Heap} {a : Array Value} {ls : Array Slot} {st0 rest : List Value}
variable {Qc : Array Value → State → Outcome → State → Prop} {XC : String → State → State → Prop}
/-- what a body that may throw owes at its end -/
def vx_MQ (below : List Frame) (Qc : Array Value → State → Outcome → State → Prop) (XC : String → State → State → Prop) (a : Array Value) (s : State) (mc ms : Nat) (free : Addr → Prop) : State → Prop := fun t =>
  ∃ o, t.status = .running ∧ Ended t below o ∧ vx_Q Qc XC mc ms free a s o t
theorem vx_ret {g : JFrame} {mc ms : Nat} (k : W p l e R s m args below meth c H locs cells slots (MQ below Qc args s mc ms free) g) : W p l e R s m args below meth c H locs cells slots (vx_MQ below Qc XC args s mc ms free) g := by
  intro T hT X
  obtain ⟨t, a1, o, b1, b2, b3, b4⟩ := k T hT X
  exact ⟨t, a1, o, b1, b2, Or.inl ⟨b3, b4⟩⟩
/-- not caught here: it goes on to the caller -/
theorem vx_widen {g : JFrame} {q : Addr} {k n : Nat} (h1 : cells ≤ k) (h2 : slots ≤ n) (kk : vx_W p l e R s m args below meth c H locs k n Q g q) : vx_W p l e R s m args below meth c H locs cells slots Q g q := fun T hT X => kk T hT (stand_widen X h1 h2)
theorem vx_out {pc : Nat} {E : String} {ce : Cell} {q : Addr} {mc ms : Nat} (hout : ∀ x ∈ c.exceptionTable.toList, covers x pc = false) (hlocks : meth.locks = false) (hcell : H[q]? = some ce) (hv : ce.vm = .none) (hcl : s.vm.findClass E = some ce.cls)
    (hx : ∀ t : State, t.heap = H → s.vm.Alike t.vm → XC E s t) (hf : ∀ z ∈ locs, free z.base) (hc : cells ≤ mc) (hs : slots ≤ ms) :
    vx_W p l e R s m args below meth c H locs cells slots (vx_MQ below Qc XC args s mc ms free) (F0 m pc ls rest) q := by
  intro T hT X
  obtain ⟨st1, hrun, hend, hW, hsm⟩ := X.leaveThrown q (g := F0 m pc ls rest) rfl rfl rfl hout hlocks
  have hcell9 : (T.setFrames (.throwing q :: below)).heap[q]? = some ce := by
    show T.heap[q]? = some ce
    rw [hT]; exact hcell
  exact ⟨_, st1, .threw q, hrun, hend, Or.inr ⟨q, rfl, E, ce, locs, hx _ hT hW.alike, hcell9, hv, hcl, hW, hsm.mono hc hs, hf⟩⟩
theorem vx_frame {U : State} {k n : Nat} (h : s.sameButNew ({ U with vm := s.vm } : State) locs k n) : s.heap.size ≤ U.heap.size ∧ ∀ q : Nat, q < s.heap.size → (∀ z ∈ locs, z.base ≠ q) → U.heap[q]? = s.heap[q]? := by
  obtain ⟨-, h2, -, -, -, h6⟩ := h
  refine ⟨h2, fun q hq hz => ?_⟩
  obtain ⟨c9, e1, e2, e3, e4⟩ := h6 q _ (Array.getElem?_eq_getElem hq)
  have hs : c9.slots = (s.heap[q]).slots := Array.ext_getElem? fun i => e4 i fun hm => hz _ hm rfl
  have h9 : c9 = s.heap[q] := by
    rw [hs] at e2
    exact e2
  have e5 : U.heap[q]? = some c9 := e1
  rw [e5, h9, Array.getElem?_eq_getElem hq]
/-- the words of a throw but the four that speak of the heap -/
def vx_no (w : Cond) : Bool := decide (w ≠ .isRef (.static Bundle.tN "UNASSIGNED_STACK" Bundle.steD)) && decide (w ≠ .isRef (.static Bundle.tN "SUPPRESSED_SENTINEL" Bundle.listD)) && decide (w ≠ .laysStatic Bundle.tN "UNASSIGNED_STACK" Bundle.steD) && decide (w ≠ .laysStatic Bundle.tN "SUPPRESSED_SENTINEL" Bundle.listD)
def vx_at0 (own : String) (ic : Nat) (X : String) (names : List String) : List Cond := (Bundle.ownAtoms0 own ic X names).filter vx_no
def vx_atS (own : String) (ic : Nat) (X : String) (names : List String) : List Cond := (Bundle.ownAtoms own ic X names).filter vx_no
/-- a word that the tables alone decide, or a good one -/
def vx_ot (w : Cond) : Bool := w.onTables || goodWord w
theorem vx_ot_at {args a' : Array Value} {s U : State} {w : Cond} (hW : s.WarmedH U.vm) (hvm : s.vm = U.vm) (hg : vx_ot w = true) (h : w.before args s = true) : w.before a' U = true := by
  simp only [vx_ot, Bool.or_eq_true] at hg
  rcases hg with hg | hg
  · exact va_tabs hg hvm h
  · exact word_at hW (good_of_word hg) h
/-- a list's words: the good ones out of the method's own list, the others by premises of their own -/
theorem vx_hat {args : Array Value} {s : State} {L B : List Cond} (h1 : ∀ w ∈ L.filter goodWord, w.before args s = true) (h2 : ∀ w ∈ L.filter (fun w => !goodWord w), w ∈ B) (h3 : ∀ w ∈ B, w.before args s = true) : ∀ w ∈ L, w.before args s = true := by
  intro w hw
  by_cases g : goodWord w = true
  · exact h1 w (List.mem_filter.mpr ⟨hw, g⟩)
  · refine h3 w (h2 w (List.mem_filter.mpr ⟨hw, ?_⟩))
    show (!goodWord w) = true
    cases hgw : goodWord w
    · rfl
    · exact absurd hgw g
theorem vx_c {args : Array Value} {s : State} {w : Cond} {B : List Cond} (h : w.before args s = true) (t : ∀ w ∈ B, w.before args s = true) : ∀ w' ∈ w :: B, w'.before args s = true := fun w' h' => (List.mem_cons.mp h').elim (fun e => by rw [e]; exact h) (t w')
theorem vx_n {args : Array Value} {s : State} : ∀ w ∈ ([] : List Cond), w.before args s = true := fun _ h => nomatch h
theorem vx_own {args : Array Value} {s : State} {L : List Cond} (h1 : ∀ w ∈ L.filter vx_no, w.before args s = true)
    (hU : (Cond.isRef (.static Bundle.tN "UNASSIGNED_STACK" Bundle.steD)).before args s = true) (hN : (Cond.isRef (.static Bundle.tN "SUPPRESSED_SENTINEL" Bundle.listD)).before args s = true)
    (lU : (Cond.laysStatic Bundle.tN "UNASSIGNED_STACK" Bundle.steD).before args s = true) (lN : (Cond.laysStatic Bundle.tN "SUPPRESSED_SENTINEL" Bundle.listD).before args s = true) : ∀ w ∈ L, w.before args s = true := by
  intro w hw
  by_cases e1 : w = .isRef (.static Bundle.tN "UNASSIGNED_STACK" Bundle.steD)
  · rw [e1]; exact hU
  · by_cases e2 : w = .isRef (.static Bundle.tN "SUPPRESSED_SENTINEL" Bundle.listD)
    · rw [e2]; exact hN
    · by_cases e3 : w = .laysStatic Bundle.tN "UNASSIGNED_STACK" Bundle.steD
      · rw [e3]; exact lU
      · by_cases e4 : w = .laysStatic Bundle.tN "SUPPRESSED_SENTINEL" Bundle.listD
        · rw [e4]; exact lN
        · exact h1 w (List.mem_filter.mpr ⟨hw, by unfold vx_no; rw [decide_eq_true e1, decide_eq_true e2, decide_eq_true e3, decide_eq_true e4]; rfl⟩)
/-- where a static field lies, its class's statics cell in H -/
def vx_L (C n d : String) (A : Nat → Prop) (U : State) (H : Heap) : Prop := ∃ (c : ClassId) (k : Class) (i : Nat) (f : Field) (a : Nat) (cell : Cell), U.vm.findClass C = some c ∧ U.fieldFound? C n d = some (c, k, i, f) ∧ f.isStatic = true ∧ k.statics = some a ∧ H[a]? = some cell ∧ cell.vm.isStatics = true ∧ cell.cls = c ∧ f.slot < cell.slots.size ∧ k.staticTypes[f.slot]? = some f.type ∧ ¬ A a
theorem vx_L.moved {C n d : String} {A : Nat → Prop} {u U : State} {H : Heap} (hvm : u.vm.Alike U.vm) (h : vx_L C n d A u H) : vx_L C n d A U H := by
  obtain ⟨c, k, i, f, a, cell, h1, h2, h3, h4, h5, h6, h7, h8, h9, h10⟩ := h
  obtain ⟨k', hi', he⟩ := State.fieldFound?_setVm hvm h2
  exact ⟨c, k', i, f, a, cell, by rw [hvm.findClass]; exact h1, hi', h3, by rw [he]; exact h4, h5, h6, h7, h8, by rw [he]; exact h9, h10⟩
theorem vx_L.kept {C n d : String} {A : Nat → Prop} {U : State} {H H1 : Heap} (h : vx_L C n d A U H) (hq : ∀ a : Nat, a < H.size → ¬ A a → H1[a]? = H[a]?) : vx_L C n d A U H1 := by
  obtain ⟨c, k, i, f, a, cell, h1, h2, h3, h4, h5, h6, h7, h8, h9, h10⟩ := h
  exact ⟨c, k, i, f, a, cell, h1, h2, h3, h4, by rw [hq a (Array.getElem?_eq_some_iff.mp h5).1 h10]; exact h5, h6, h7, h8, h9, h10⟩
theorem vx_L.narrow {C n d : String} {A B : Nat → Prop} {U : State} {H : Heap} (h : vx_L C n d A U H) (hAB : ∀ q, B q → A q) : vx_L C n d B U H := by
  obtain ⟨c, k, i, f, a, cell, h1, h2, h3, h4, h5, h6, h7, h8, h9, h10⟩ := h
  exact ⟨c, k, i, f, a, cell, h1, h2, h3, h4, h5, h6, h7, h8, h9, fun z => h10 (hAB _ z)⟩
theorem vx_L.word {C n d : String} {A : Nat → Prop} {s : State} {args : Array Value} (h : vx_L C n d A s s.heap) : (Cond.laysStatic C n d).before args s = true := by
  obtain ⟨c, k, i, f, a, cell, h1, h2, h3, h4, h5, h6, h7, h8, h9, -⟩ := h
  show (Cond.laysStatic C n d).holds args s none s [] = true
  exact Cond.laysStatic_of h1 h2 h3 h4 h5 h6 h7 h8 h9
/-- .. and what it holds: null or some reference -/
def vx_Zq (C n d : String) (A : Nat → Prop) (U : State) (H : Heap) : Prop := va_Zq C n d A U H ∧ vx_L C n d A U H
theorem vx_Zq.moved {C n d : String} {A : Nat → Prop} {u U : State} {H : Heap} (hvm : u.vm.Alike U.vm) (h : vx_Zq C n d A u H) : vx_Zq C n d A U H := ⟨va_Zq.moved hvm h.1, vx_L.moved hvm h.2⟩
theorem vx_Zq.kept {C n d : String} {A : Nat → Prop} {U : State} {H H1 : Heap} (h : vx_Zq C n d A U H) (hq : ∀ a : Nat, a < H.size → ¬ A a → H1[a]? = H[a]?) : vx_Zq C n d A U H1 := ⟨va_Zq.kept h.1 hq, vx_L.kept h.2 hq⟩
theorem vx_Zq.narrow {C n d : String} {A B : Nat → Prop} {U : State} {H : Heap} (h : vx_Zq C n d A U H) (hAB : ∀ q, B q → A q) : vx_Zq C n d B U H := ⟨va_Zq.narrow h.1 hAB, vx_L.narrow h.2 hAB⟩
theorem vx_Zqof {args : Array Value} {s : State} {C n d : String} {A : Nat → Prop} (hl : (Cond.laysStatic C n d).before args s = true) (hini : (Cond.initialized C).before args s = true) (h : (Cond.isRef (.static C n d)).before args s = true) (hA : ∀ a : Nat, a < s.heap.size → ¬ A a) : vx_Zq C n d A s s.heap := by
  refine ⟨va_Zqof hl hini h hA, ?_⟩
  obtain ⟨c, k, i, f, a, cell, h1, h2, h3, h4, h5, h6, h7, h8, h9⟩ := Cond.laysStatic_spec hl
  exact ⟨c, k, i, f, a, cell, h1, h2, h3, h4, h5, h6, h7, h8, h9, hA a (Array.getElem?_eq_some_iff.mp h5).1⟩
theorem vx_isRef {C n d : String} {v : Value} {A : Nat → Prop} {s : State} {args : Array Value} (h : va_Z C n d v A s s.heap) (hv : v.isRef = true) : (Cond.isRef (.static C n d)).before args s = true := by
  obtain ⟨cf, kf, fi, f, a, cell, h1, h2, h3, h4, h5, h6, h7, -⟩ := h
  have he : (Term.static C n d).eval args s none [] s = some v := by
    simp [Term.eval, State.fieldNamed?, h1, h2, h4, h5, h6, h7]
  simp only [Cond.before, Cond.holds, Cond.value, he]
  cases v <;> simp_all [Value.isRef]
theorem vx_isRefq {C n d : String} {A : Nat → Prop} {s : State} {args : Array Value} (h : va_Zq C n d A s s.heap) : (Cond.isRef (.static C n d)).before args s = true := by
  rcases h with h | ⟨t, h⟩
  · exact vx_isRef h rfl
  · exact vx_isRef h rfl
/-- the same frame, seen from here: as if the method were called anew in this heap -/
theorem vx_rebase {T : State} (X : Stand p l e R s m args below meth c T locs cells slots) {R' : Room} (hf : R'.frames ≤ R.frames) (hl : R'.locals ≤ R.locals) (hc : cells + R'.cells ≤ R.cells) (hs : slots + R'.slots ≤ R.slots) :
    Stand p l e R' ((T.setVm s.vm).setFrames (.invoking m args :: below)) m args below meth c T [] 0 0 := by
  have htop : (T.setVm s.vm).topJava?.isSome := X.here.top
  have hF : ((T.setVm s.vm).setFrames (.invoking m args :: below)).frames = .invoking m args :: below := State.frames_setFrames _ (State.cur_lt_of_top htop)
  obtain ⟨g₀, hg0⟩ := Option.isSome_iff_exists.mp htop
  obtain ⟨r, hr⟩ := State.topJava?_eq_some.mp hg0
  have hl9 : e.platform.stackLimits (T.setVm s.vm).me = e.platform.stackLimits s.me := X.limits
  have hb9 : (T.setVm s.vm).me.stackBytes = s.me.stackBytes := X.bytes
  refine ⟨X.admits, X.cas, X.clock, hF, ?_, X.hears, X.method, X.code, X.here, X.tail, X.warmed, ?_, ?_, ?_⟩
  · have h := X.room
    have hU : ((T.setVm s.vm).setFrames (.invoking m args :: below)).localsInUse = s.localsInUse := by
      rw [State.localsInUse_invoking hF (meth := meth) (c := c) X.method X.code, State.localsInUse_invoking X.frames X.method X.code]
    simp only [State.hasRoom, Bool.and_eq_true, decide_eq_true_eq] at h ⊢
    obtain ⟨⟨⟨⟨h1, h2, h3, h4, h5, h6⟩, h7⟩, h8⟩, h9⟩ := h
    rw [X.frames, List.length_cons] at h2 h3
    have q1 := X.heapSize
    have q2 := X.used
    simp only [hF, hU, List.length_cons, State.stackLimits_setFrames, State.stackBytes_setFrames, hl9, hb9]
    refine ⟨⟨⟨⟨by omega, by omega, by omega, by omega, by omega, h6⟩, ?_⟩, ?_⟩, X.book⟩
    · show T.heap.size + R'.cells ≤ e.platform.maxCells
      omega
    · show T.slotsUsed + R'.slots ≤ e.platform.maxSlots
      omega
  · rw [State.stackLimits_setFrames]; rfl
  · rw [State.stackBytes_setFrames]; rfl
  · refine ⟨?_, Nat.le_refl _, Nat.le_refl _, ?_, ?_, fun a c9 h9 => ⟨c9, h9, rfl, rfl, fun _ _ => rfl⟩⟩
    · obtain ⟨t, ht, -⟩ := State.frames_cons hr
      show T.setVm s.vm = { ((T.setVm s.vm).setFrames (.invoking m args :: below)).setFrames (T.setVm s.vm).frames with heap := T.heap, slotsUsed := T.slotsUsed }
      rw [State.setFrames_setFrames, State.setFrames_self ht]
      rfl
    · show T.slotsUsed = T.slotsUsed + ((T.heap.toList.drop T.heap.size).map (·.slots.size)).sum
      rw [List.drop_eq_nil_of_le (Nat.le_of_eq Array.length_toList)]
      rfl
    · show ((T.heap.toList.drop T.heap.size).map (·.slots.size)).sum ≤ 0
      rw [List.drop_eq_nil_of_le (Nat.le_of_eq Array.length_toList)]
      exact Nat.le_refl _
/-- 'throw new E()': new; dup; invokespecial; athrow -/
theorem vx_throw0 {cc : ByteArray} {pc : Nat} (hexec : p.tables.exec = Jvm.exec) (hb : c.code = cc) (hl : l.stackTraces = false) {own cls : String} {names : List String} {ik ic mc ms : Nat} {A : Nat → Prop}
    (hown : s.vm.findClass own = some m.cls) (hcls : Bundle.fit cls = true) (hnames : ∀ n ∈ names, Bundle.fit n = true)
    (hk : (Cond.classLink own ik cls).before args s = true) (hini : (Cond.initialized cls).before args s = true) (hat : ∀ w ∈ vx_at0 own ic cls names, w.before args s = true)
    (hgood : ∀ w ∈ Cond.classLink own ik cls :: Cond.initialized cls :: vx_at0 own ic cls names, vx_ot w = true)
    (hU : vx_Zq Bundle.tN "UNASSIGNED_STACK" Bundle.steD A s s.heap) (hN : vx_Zq Bundle.tN "SUPPRESSED_SENTINEL" Bundle.listD A s s.heap) (hS : va_S A s.heap H locs) (hsize : ls.size = c.maxLocals)
    (d0 : decode cc pc = .ok (.new ik, 3)) (d3 : decode cc (pc + 3) = .ok (.dup, 1)) (d4 : decode cc (pc + 4) = .ok (.invokespecial ic, 3)) (d7 : decode cc (pc + 7) = .ok (.athrow, 1))
    (hout : ∀ x ∈ c.exceptionTable.toList, covers x (pc + 7) = false)
    (hRframes : names.length + 3 < R.frames) (hRlocals : (rest.map fun v => v.category).sum + (13 * (names.length + 1) + 42) ≤ R.locals) (hRcells : cells + 1 ≤ R.cells) (hRslots : slots + 6 ≤ R.slots) (hlocks : meth.locks = false)
    (hx : ∀ t : State, s.vm.Alike t.vm → H.size ≤ t.heap.size → (∀ q : Nat, q < H.size → t.heap[q]? = H[q]?) → XC cls s t)
    (hf : ∀ z ∈ locs, free z.base) (hc : cells + 1 ≤ mc) (hs : slots + 6 ≤ ms) :
    W p l e R s m args below meth c H locs cells slots (vx_MQ below Qc XC args s mc ms free) (F0 m pc ls rest) := by
  intro T hT X
  have htr : e.platform.stackTraces = false := (show e.platform.stackTraces = l.stackTraces by rw [X.admits.platform]).trans hl
  have Y := vx_rebase X (R' := { frames := R.frames, locals := R.locals, cells := 1, slots := 6 }) (Nat.le_refl _) (Nat.le_refl _) hRcells hRslots
  obtain ⟨s', hA⟩ : ∃ z, z = (T.setVm s.vm).setFrames (.invoking m args :: below) := ⟨_, rfl⟩
  rw [← hA] at Y
  have hvm : s'.vm = s.vm := by rw [hA]; rfl
  have hhp : s'.heap = H := by rw [hA]; exact hT
  have hW0 : s.WarmedH s'.vm := by rw [hvm]; exact State.WarmedH.refl s
  have hat' : ∀ w ∈ vx_at0 own ic cls names, w.before args s' = true := fun w hw => vx_ot_at hW0 hvm.symm (hgood w (List.mem_cons_of_mem _ (List.mem_cons_of_mem _ hw))) (hat w hw)
  have hk' : (Cond.classLink own ik cls).before args s' = true := vx_ot_at hW0 hvm.symm (hgood _ List.mem_cons_self) hk
  have hini' : (Cond.initialized cls).before args s' = true := vx_ot_at hW0 hvm.symm (hgood _ (List.mem_cons_of_mem _ List.mem_cons_self)) hini
  have hU' : vx_Zq Bundle.tN "UNASSIGNED_STACK" Bundle.steD A s' s'.heap := by rw [hhp]; exact vx_Zq.moved hW0.alike (hU.kept hS.2.1)
  have hN' : vx_Zq Bundle.tN "SUPPRESSED_SENTINEL" Bundle.listD A s' s'.heap := by rw [hhp]; exact vx_Zq.moved hW0.alike (hN.kept hS.2.1)
  have h : ∀ w ∈ Bundle.ownAtoms0 own ic cls names, w.before args s' = true := vx_own hat' (vx_isRefq hU'.1) (vx_isRefq hN'.1) hU'.2.word hN'.2.word
  have hown' : s'.vm.findClass own = some m.cls := by rw [hvm]; exact hown
  have hins : (Cond.instantiable cls 6).before args s' = true := h _ (by simp [Bundle.ownAtoms0])
  obtain ⟨vm₁, cX, kX, hfX, hkX, -, -, X₁, st1⟩ := Y.newCold hexec (own := own) (C := cls) (index := ik) (n := 6) hown' hk' hins hini'
    (g := F0 m pc ls rest) rfl (by rw [hb]; exact d0) (Nat.le_refl _) (Nat.le_refl _)
  generalize hT1 : (T.setVm vm₁).pushCell { cls := cX, slots := kX.instanceTypes.map defaultValue, vm := .none } = T1 at X₁ st1
  have hcat : (Value.ref T.heap.size).category = 1 := rfl
  have hcellA : T1.heap[T.heap.size]? = some (freshCell cX kX) := by rw [← hT1]; exact State.heap_pushCell_size _ _
  have d3' : decode c.code (pc + 3) = .ok (.dup, 1) := by rw [hb]; exact d3
  obtain ⟨U, hsteps, hrun, hend, hW, hsame, ce, hce, hO⟩ := X₁.ctorThrow0 hexec htr (own := own) (cls := cls) (names := names) (ic := ic) hown' hcls hnames h (fun x hx => nomatch hx) hfX hkX hcellA (by rw [hhp, hT]; exact Nat.le_refl _)
    (g := { method := m, pc := pc + 4, locals := ls, stack := .ref T.heap.size :: .ref T.heap.size :: rest, locked := none }) rfl hsize rfl rfl (rest := rest) rfl
    (by rw [hb]; exact d4) (by rw [hb]; exact d7) hout hRframes (by simp only [List.map_cons, List.sum_cons, hcat]; omega) hlocks
  obtain ⟨f1, f2⟩ := vx_frame hsame
  rw [hhp] at f1 f2
  have hWs : s.WarmedH U.vm := State.WarmedH.trans hW0 hW
  have hcl : s.vm.findClass cls = some ce.cls := by
    have h9 := hO.cls
    rw [hvm] at h9
    exact h9
  have hall : s.sameButNew ({ U with vm := s.vm } : State) locs mc ms := by
    subst hA
    obtain ⟨e1, e2⟩ := hsame
    rw [State.setFrames_setFrames] at e1
    have h2 : (T.setVm s.vm).sameButNew ({ U with vm := s.vm } : State) [] (0 + 1) (0 + 6) := ⟨e1, e2⟩
    have h3 := X.same.trans h2
    rw [List.append_nil] at h3
    exact h3.mono hc hs
  refine ⟨U, ?_, .threw T.heap.size, hrun, hend, Or.inr ⟨T.heap.size, rfl, cls, ce, locs, hx U hWs.alike f1 (fun q hq => f2 q hq (fun z hz => nomatch hz)), hce, hO.vm, hcl, hWs, hall, hf⟩⟩
  refine st1 _ ?_
  show Steps p.tables e below (T1.setTop { method := m, pc := pc + 3, locals := ls, stack := .ref T.heap.size :: rest, locked := none }) _
  jvm_step X₁.here [X₁.here.top, hexec, d3', Value.category]
  exact hsteps
/-- 'throw new E("text")': new; dup; ldc; invokespecial; athrow -/
theorem vx_throwS {cc : ByteArray} {pc : Nat} (hexec : p.tables.exec = Jvm.exec) (hb : c.code = cc) (hl : l.stackTraces = false) {own cls text : String} {names : List String} {ik is ic mc ms sa : Nat} {A : Nat → Prop}
    (hown : s.vm.findClass own = some m.cls) (hcls : Bundle.fit cls = true) (hnames : ∀ n ∈ names, Bundle.fit n = true)
    (hk : (Cond.classLink own ik cls).before args s = true) (hini : (Cond.initialized cls).before args s = true) (hstr : vk_R own is text sa s) (hat : ∀ w ∈ vx_atS own ic cls names, w.before args s = true)
    (hgood : ∀ w ∈ Cond.classLink own ik cls :: Cond.initialized cls :: vx_atS own ic cls names, vx_ot w = true)
    (hU : vx_Zq Bundle.tN "UNASSIGNED_STACK" Bundle.steD A s s.heap) (hN : vx_Zq Bundle.tN "SUPPRESSED_SENTINEL" Bundle.listD A s s.heap) (hS : va_S A s.heap H locs) (hsize : ls.size = c.maxLocals)
    (d0 : decode cc pc = .ok (.new ik, 3)) (d3 : decode cc (pc + 3) = .ok (.dup, 1)) (d4 : decode cc (pc + 4) = .ok (.ldc is, 2)) (d6 : decode cc (pc + 6) = .ok (.invokespecial ic, 3)) (d9 : decode cc (pc + 9) = .ok (.athrow, 1))
    (hout : ∀ x ∈ c.exceptionTable.toList, covers x (pc + 9) = false)
    (hRframes : names.length + 3 < R.frames) (hRlocals : (rest.map fun v => v.category).sum + (13 * (names.length + 1) + 43) ≤ R.locals) (hRcells : cells + 1 ≤ R.cells) (hRslots : slots + 6 ≤ R.slots) (hlocks : meth.locks = false)
    (hx : ∀ t : State, s.vm.Alike t.vm → H.size ≤ t.heap.size → (∀ q : Nat, q < H.size → t.heap[q]? = H[q]?) → XC cls s t)
    (hf : ∀ z ∈ locs, free z.base) (hc : cells + 1 ≤ mc) (hs : slots + 6 ≤ ms) :
    W p l e R s m args below meth c H locs cells slots (vx_MQ below Qc XC args s mc ms free) (F0 m pc ls rest) := by
  intro T hT X
  have htr : e.platform.stackTraces = false := (show e.platform.stackTraces = l.stackTraces by rw [X.admits.platform]).trans hl
  have Y := vx_rebase X (R' := { frames := R.frames, locals := R.locals, cells := 1, slots := 6 }) (Nat.le_refl _) (Nat.le_refl _) hRcells hRslots
  obtain ⟨s', hA⟩ : ∃ z, z = (T.setVm s.vm).setFrames (.invoking m args :: below) := ⟨_, rfl⟩
  rw [← hA] at Y
  have hvm : s'.vm = s.vm := by rw [hA]; rfl
  have hhp : s'.heap = H := by rw [hA]; exact hT
  have hW0 : s.WarmedH s'.vm := by rw [hvm]; exact State.WarmedH.refl s
  have hat' : ∀ w ∈ vx_atS own ic cls names, w.before args s' = true := fun w hw => vx_ot_at hW0 hvm.symm (hgood w (List.mem_cons_of_mem _ (List.mem_cons_of_mem _ hw))) (hat w hw)
  have hk' : (Cond.classLink own ik cls).before args s' = true := vx_ot_at hW0 hvm.symm (hgood _ List.mem_cons_self) hk
  have hini' : (Cond.initialized cls).before args s' = true := vx_ot_at hW0 hvm.symm (hgood _ (List.mem_cons_of_mem _ List.mem_cons_self)) hini
  have hU' : vx_Zq Bundle.tN "UNASSIGNED_STACK" Bundle.steD A s' s'.heap := by rw [hhp]; exact vx_Zq.moved hW0.alike (hU.kept hS.2.1)
  have hN' : vx_Zq Bundle.tN "SUPPRESSED_SENTINEL" Bundle.listD A s' s'.heap := by rw [hhp]; exact vx_Zq.moved hW0.alike (hN.kept hS.2.1)
  have h : ∀ w ∈ Bundle.ownAtoms own ic cls names, w.before args s' = true := vx_own hat' (vx_isRefq hU'.1) (vx_isRefq hN'.1) hU'.2.word hN'.2.word
  have hown' : s'.vm.findClass own = some m.cls := by rw [hvm]; exact hown
  have hins : (Cond.instantiable cls 6).before args s' = true := h _ (by simp [Bundle.ownAtoms])
  obtain ⟨vm₁, cX, kX, hfX, hkX, -, -, X₁, st1⟩ := Y.newCold hexec (own := own) (C := cls) (index := ik) (n := 6) hown' hk' hins hini'
    (g := F0 m pc ls rest) rfl (by rw [hb]; exact d0) (Nat.le_refl _) (Nat.le_refl _)
  generalize hT1 : (T.setVm vm₁).pushCell { cls := cX, slots := kX.instanceTypes.map defaultValue, vm := .none } = T1 at X₁ st1
  have hcat : (Value.ref T.heap.size).category = 1 := rfl
  have hcellA : T1.heap[T.heap.size]? = some (freshCell cX kX) := by rw [← hT1]; exact State.heap_pushCell_size _ _
  have d3' : decode c.code (pc + 3) = .ok (.dup, 1) := by rw [hb]; exact d3
  have d4' : decode c.code (pc + 4) = .ok (.ldc is, 2) := by rw [hb]; exact d4
  have hstr' : vk_R own is text sa s' := vk_R.warm hW0 hstr
  obtain ⟨U, hsteps, hrun, hend, hW, hsame, ce, hce, hO⟩ := X₁.ctorThrowS hexec htr (own := own) (cls := cls) (names := names) (ic := ic) hown' hcls hnames h (fun x hx => nomatch hx) hfX hkX hcellA (by rw [hhp, hT]; exact Nat.le_refl _) (msg := .ref sa) rfl
    (g := { method := m, pc := pc + 6, locals := ls, stack := .ref sa :: .ref T.heap.size :: .ref T.heap.size :: rest, locked := none }) rfl hsize rfl rfl (rest := rest) rfl
    (by rw [hb]; exact d6) (by rw [hb]; exact d9) hout hRframes (by simp only [List.map_cons, List.sum_cons, hcat]; omega) hlocks
  obtain ⟨f1, f2⟩ := vx_frame hsame
  rw [hhp] at f1 f2
  have hWs : s.WarmedH U.vm := State.WarmedH.trans hW0 hW
  have hcl : s.vm.findClass cls = some ce.cls := by
    have h9 := hO.cls
    rw [hvm] at h9
    exact h9
  have hall : s.sameButNew ({ U with vm := s.vm } : State) locs mc ms := by
    subst hA
    obtain ⟨e1, e2⟩ := hsame
    rw [State.setFrames_setFrames] at e1
    have h2 : (T.setVm s.vm).sameButNew ({ U with vm := s.vm } : State) [] (0 + 1) (0 + 6) := ⟨e1, e2⟩
    have h3 := X.same.trans h2
    rw [List.append_nil] at h3
    exact h3.mono hc hs
  refine ⟨U, ?_, .threw T.heap.size, hrun, hend, Or.inr ⟨T.heap.size, rfl, cls, ce, locs, hx U hWs.alike f1 (fun q hq => f2 q hq (fun z hz => nomatch hz)), hce, hO.vm, hcl, hWs, hall, hf⟩⟩
  refine st1 _ ?_
  show Steps p.tables e below (T1.setTop { method := m, pc := pc + 3, locals := ls, stack := .ref T.heap.size :: rest, locked := none }) _
  jvm_step X₁.here [X₁.here.top, hexec, d3', Value.category]
  exact X₁.ldcString hexec (own := own) (text := text) (index := is) (a := sa) hown' hstr'.1 hstr'.2
    (g := { method := m, pc := pc + 4, locals := ls, stack := .ref T.heap.size :: .ref T.heap.size :: rest, locked := none }) rfl d4' _ hsteps
/-- 'throw new E("text")', the text by a wide index -/
theorem vx_throwSW {cc : ByteArray} {pc : Nat} (hexec : p.tables.exec = Jvm.exec) (hb : c.code = cc) (hl : l.stackTraces = false) {own cls text : String} {names : List String} {ik is ic mc ms sa : Nat} {A : Nat → Prop}
    (hown : s.vm.findClass own = some m.cls) (hcls : Bundle.fit cls = true) (hnames : ∀ n ∈ names, Bundle.fit n = true)
    (hk : (Cond.classLink own ik cls).before args s = true) (hini : (Cond.initialized cls).before args s = true) (hstr : vk_R own is text sa s) (hat : ∀ w ∈ vx_atS own ic cls names, w.before args s = true)
    (hgood : ∀ w ∈ Cond.classLink own ik cls :: Cond.initialized cls :: vx_atS own ic cls names, vx_ot w = true)
    (hU : vx_Zq Bundle.tN "UNASSIGNED_STACK" Bundle.steD A s s.heap) (hN : vx_Zq Bundle.tN "SUPPRESSED_SENTINEL" Bundle.listD A s s.heap) (hS : va_S A s.heap H locs) (hsize : ls.size = c.maxLocals)
    (d0 : decode cc pc = .ok (.new ik, 3)) (d3 : decode cc (pc + 3) = .ok (.dup, 1)) (d4 : decode cc (pc + 4) = .ok (.ldc_w is, 3)) (d7 : decode cc (pc + 7) = .ok (.invokespecial ic, 3)) (d10 : decode cc (pc + 10) = .ok (.athrow, 1))
    (hout : ∀ x ∈ c.exceptionTable.toList, covers x (pc + 10) = false)
    (hRframes : names.length + 3 < R.frames) (hRlocals : (rest.map fun v => v.category).sum + (13 * (names.length + 1) + 43) ≤ R.locals) (hRcells : cells + 1 ≤ R.cells) (hRslots : slots + 6 ≤ R.slots) (hlocks : meth.locks = false)
    (hx : ∀ t : State, s.vm.Alike t.vm → H.size ≤ t.heap.size → (∀ q : Nat, q < H.size → t.heap[q]? = H[q]?) → XC cls s t)
    (hf : ∀ z ∈ locs, free z.base) (hc : cells + 1 ≤ mc) (hs : slots + 6 ≤ ms) :
    W p l e R s m args below meth c H locs cells slots (vx_MQ below Qc XC args s mc ms free) (F0 m pc ls rest) := by
  intro T hT X
  have htr : e.platform.stackTraces = false := (show e.platform.stackTraces = l.stackTraces by rw [X.admits.platform]).trans hl
  have Y := vx_rebase X (R' := { frames := R.frames, locals := R.locals, cells := 1, slots := 6 }) (Nat.le_refl _) (Nat.le_refl _) hRcells hRslots
  obtain ⟨s', hA⟩ : ∃ z, z = (T.setVm s.vm).setFrames (.invoking m args :: below) := ⟨_, rfl⟩
  rw [← hA] at Y
  have hvm : s'.vm = s.vm := by rw [hA]; rfl
  have hhp : s'.heap = H := by rw [hA]; exact hT
  have hW0 : s.WarmedH s'.vm := by rw [hvm]; exact State.WarmedH.refl s
  have hat' : ∀ w ∈ vx_atS own ic cls names, w.before args s' = true := fun w hw => vx_ot_at hW0 hvm.symm (hgood w (List.mem_cons_of_mem _ (List.mem_cons_of_mem _ hw))) (hat w hw)
  have hk' : (Cond.classLink own ik cls).before args s' = true := vx_ot_at hW0 hvm.symm (hgood _ List.mem_cons_self) hk
  have hini' : (Cond.initialized cls).before args s' = true := vx_ot_at hW0 hvm.symm (hgood _ (List.mem_cons_of_mem _ List.mem_cons_self)) hini
  have hU' : vx_Zq Bundle.tN "UNASSIGNED_STACK" Bundle.steD A s' s'.heap := by rw [hhp]; exact vx_Zq.moved hW0.alike (hU.kept hS.2.1)
  have hN' : vx_Zq Bundle.tN "SUPPRESSED_SENTINEL" Bundle.listD A s' s'.heap := by rw [hhp]; exact vx_Zq.moved hW0.alike (hN.kept hS.2.1)
  have h : ∀ w ∈ Bundle.ownAtoms own ic cls names, w.before args s' = true := vx_own hat' (vx_isRefq hU'.1) (vx_isRefq hN'.1) hU'.2.word hN'.2.word
  have hown' : s'.vm.findClass own = some m.cls := by rw [hvm]; exact hown
  have hins : (Cond.instantiable cls 6).before args s' = true := h _ (by simp [Bundle.ownAtoms])
  obtain ⟨vm₁, cX, kX, hfX, hkX, -, -, X₁, st1⟩ := Y.newCold hexec (own := own) (C := cls) (index := ik) (n := 6) hown' hk' hins hini'
    (g := F0 m pc ls rest) rfl (by rw [hb]; exact d0) (Nat.le_refl _) (Nat.le_refl _)
  generalize hT1 : (T.setVm vm₁).pushCell { cls := cX, slots := kX.instanceTypes.map defaultValue, vm := .none } = T1 at X₁ st1
  have hcat : (Value.ref T.heap.size).category = 1 := rfl
  have hcellA : T1.heap[T.heap.size]? = some (freshCell cX kX) := by rw [← hT1]; exact State.heap_pushCell_size _ _
  have d3' : decode c.code (pc + 3) = .ok (.dup, 1) := by rw [hb]; exact d3
  have d4' : decode c.code (pc + 4) = .ok (.ldc_w is, 3) := by rw [hb]; exact d4
  have hstr' : vk_R own is text sa s' := vk_R.warm hW0 hstr
  obtain ⟨U, hsteps, hrun, hend, hW, hsame, ce, hce, hO⟩ := X₁.ctorThrowS hexec htr (own := own) (cls := cls) (names := names) (ic := ic) hown' hcls hnames h (fun x hx => nomatch hx) hfX hkX hcellA (by rw [hhp, hT]; exact Nat.le_refl _) (msg := .ref sa) rfl
    (g := { method := m, pc := pc + 7, locals := ls, stack := .ref sa :: .ref T.heap.size :: .ref T.heap.size :: rest, locked := none }) rfl hsize rfl rfl (rest := rest) rfl
    (by rw [hb]; exact d7) (by rw [hb]; exact d10) hout hRframes (by simp only [List.map_cons, List.sum_cons, hcat]; omega) hlocks
  obtain ⟨f1, f2⟩ := vx_frame hsame
  rw [hhp] at f1 f2
  have hWs : s.WarmedH U.vm := State.WarmedH.trans hW0 hW
  have hcl : s.vm.findClass cls = some ce.cls := by
    have h9 := hO.cls
    rw [hvm] at h9
    exact h9
  have hall : s.sameButNew ({ U with vm := s.vm } : State) locs mc ms := by
    subst hA
    obtain ⟨e1, e2⟩ := hsame
    rw [State.setFrames_setFrames] at e1
    have h2 : (T.setVm s.vm).sameButNew ({ U with vm := s.vm } : State) [] (0 + 1) (0 + 6) := ⟨e1, e2⟩
    have h3 := X.same.trans h2
    rw [List.append_nil] at h3
    exact h3.mono hc hs
  refine ⟨U, ?_, .threw T.heap.size, hrun, hend, Or.inr ⟨T.heap.size, rfl, cls, ce, locs, hx U hWs.alike f1 (fun q hq => f2 q hq (fun z hz => nomatch hz)), hce, hO.vm, hcl, hWs, hall, hf⟩⟩
  refine st1 _ ?_
  show Steps p.tables e below (T1.setTop { method := m, pc := pc + 3, locals := ls, stack := .ref T.heap.size :: rest, locked := none }) _
  jvm_step X₁.here [X₁.here.top, hexec, d3', Value.category]
  exact X₁.ldcStringW hexec (own := own) (text := text) (index := is) (a := sa) hown' hstr'.1 hstr'.2
    (g := { method := m, pc := pc + 4, locals := ls, stack := .ref T.heap.size :: .ref T.heap.size :: rest, locked := none }) rfl d4' _ hsteps
end Ends
section Bodies
variable {l : Launch}
theorem vx_ofW {y : MethodName} {ws ws' : List Cond} {rm : Room} {Pc : Array Value → State → Prop} {Qc : Array Value → State → Outcome → State → Prop} {XC : String → State → State → Prop} {mc ms : Nat} {free : Addr → Prop} {cc : ByteArray} {maxL : Nat} {ret : Option FieldType}
    (hy : plainName y.cls = true) (hw : ws = Cond.code y cc maxL ret :: ws')
    (body : ∀ p e s m args below meth c s₁, BodyLoose p l y (headSpec ws rm) cc maxL ret e s m args below meth c s₁ → c.maxLocals = maxL → (∀ x ∈ c.exceptionTable.toList, False) → Pc args s →
      W p l e (headSpec ws rm).room s m args below meth c s.heap [] 0 0 (vx_MQ below Qc XC args s mc ms free) (entryFrame m args maxL)) : vx_Met l y ws rm Pc Qc XC mc ms free := by
  refine MetFree.of_bodyS (code := cc) (maxLocals := maxL) (ret := ret) hy ?_ ?_
  · intro args s m h hn
    obtain ⟨meth, c, h1, h2, h3, h4, h5, h6, -, -⟩ := Cond.code_spec hn (atoms_spec (ws := ws) h _ (by rw [hw]; exact List.mem_cons_self))
    exact ⟨meth, c, h1, h2, h3, h4, h5, h6⟩
  · intro p e s m args below meth c s₁ B hml hP _
    have hh0 : s₁.heap = s.heap := by rw [B.state]; rfl
    have ht : ∀ x ∈ c.exceptionTable.toList, False := by
      obtain ⟨meth9, c9, h1, h2, -, -, -, -, h7, -⟩ := Cond.code_spec B.named (atoms_spec (ws := ws) B.pre _ (by rw [hw]; exact List.mem_cons_self))
      cases Option.some.inj (h1.symm.trans B.method)
      cases Option.some.inj (h2.symm.trans (Stand.of_body B).code)
      intro x hx
      rw [Array.isEmpty_iff.mp h7] at hx
      cases hx
    obtain ⟨t, a1, o, b1, b2, b3⟩ := body p e s m args below meth c s₁ B hml ht hP s₁ hh0 (Stand.of_body B)
    exact ⟨t, o, a1, b1, b2, b3⟩
/-- the table of a body with handlers -/
theorem vx_table {p : Program} {x y : MethodName} {S : Spec} {cc bytes : ByteArray} {maxL maxL' : Nat} {ret ret' : Option FieldType} {e : Env} {s s₁ : State} {m : MethodId} {args : Array Value} {below : List Frame} {meth : Method} {c : Code} {hh : List (Nat × Nat × Nat × Nat)}
    (B : BodyLoose p l y S cc maxL ret e s m args below meth c s₁) (h : (Cond.codeWith y bytes maxL' ret' hh).before args s = true) : c.exceptionTable.toList = tableOf hh := by
  obtain ⟨m9, meth9, c9, hn9, h1, h2, -, -, h6, -⟩ := Cond.codeWith_spec h
  cases Option.some.inj (hn9.symm.trans B.named)
  cases Option.some.inj (h1.symm.trans B.method)
  cases Option.some.inj (h2.symm.trans (Stand.of_body B).code)
  rw [← h6, table_eq]
end Bodies
end VXA
/-! ===== END ===== -/
/-! ===== BEGIN a static call of a method with an exception table ===== -/
section VXS
variable {p : Program} {l : Launch} {e : Env} {R : Room} {s : State} {m : MethodId} {args : Array Value} {below : List Frame} {meth : Method} {c : Code} {T : State} {H : Heap} {locs : List Loc} {cells slots : Nat}
abbrev vx_CSW (R : Room) (s : State) (args : Array Value) (own : String) (index : Nat) (y : MethodName) (bytes : ByteArray) (maxL : Nat) (ret : Option FieldType) (hh : List (Nat × Nat × Nat × Nat)) (ws : List Cond) (rm : Room) (mc ms n : Nat) : Prop :=
  (rm.cells = mc ∧ rm.slots = ms ∧ rm.frames + 1 ≤ R.frames ∧ 8 + (maxL + 11) + rm.locals ≤ R.locals ∧ (∀ w ∈ ws, ∀ (a' : Array Value) (U : State), s.WarmedH U.vm → w.before a' U = true) ∧ Cond.codeWith y bytes maxL ret hh ∈ ws) ∧
  (Cond.codeWith y bytes maxL ret hh).before args s = true ∧ (Cond.initialized y.cls).before args s = true ∧ (y.cls ≠ "java/lang/invoke/MethodHandle" ∧ y.cls ≠ "java/lang/invoke/VarHandle") ∧
  (∀ sig, parseMethodDescriptor y.desc = some sig → n = sig.parameters.length) ∧ (Cond.methodLink own index y).before args s = true ∧ (Cond.static y).before args s = true
theorem vx_cwSW {own : String} {index maxL mc ms : Nat} {y : MethodName} {bytes : ByteArray} {ret : Option FieldType} {hh : List (Nat × Nat × Nat × Nat)} {Ts ws ws' : List Cond} {rm : Room} (n : Nat) (ht : ∀ w ∈ Ts, w.before args s = true) (hT : GoodIn Ts (va_wsS own index y ws)) (hw : ws = Cond.codeWith y bytes maxL ret hh :: ws') (hrc : rm.cells = mc) (hrs : rm.slots = ms)
    (hd : y.cls ≠ "java/lang/invoke/MethodHandle" ∧ y.cls ≠ "java/lang/invoke/VarHandle" ∧ (parseMethodDescriptor y.desc).map (fun d => d.parameters.length) = some n) (hR : rm.frames + 1 ≤ R.frames ∧ 8 + (maxL + 11) + rm.locals ≤ R.locals) :
    vx_CSW R s args own index y bytes maxL ret hh ws rm mc ms n := by
  have ok : ∀ w ∈ va_wsS own index y ws, w.before args s = true := fun w h => ht w (hT w h).1
  have hG : GoodIn Ts ws := fun w h => hT w (by unfold va_wsS; exact List.mem_append_right _ h)
  have hc : Cond.codeWith y bytes maxL ret hh ∈ ws := by rw [hw]; exact List.mem_cons_self
  refine ⟨⟨hrc, hrs, hR.1, hR.2, pay_in ht hG, hc⟩, ht _ (hG _ hc).1, ok _ (by simp [va_wsS]), ⟨hd.1, hd.2.1⟩, fun sig h => ?_, ok _ (by simp [va_wsS]), ok _ (by simp [va_wsS])⟩
  have h2 := hd.2.2
  rw [h] at h2
  exact (Option.some.inj h2).symm
theorem vx_callSW (X : Stand p l e R s m args below meth c T locs cells slots) (hexec : p.tables.exec = Jvm.exec) {own : String} {index : Nat} {y : MethodName} {bytes : ByteArray} {maxL : Nat} {ret : Option FieldType} {hh : List (Nat × Nat × Nat × Nat)}
    (hown : s.vm.findClass own = some m.cls) (hlink : (Cond.methodLink own index y).before args s = true) (hstat : (Cond.static y).before args s = true) (hinit : (Cond.initialized y.cls).before args s = true)
    (hcode : (Cond.codeWith y bytes maxL ret hh).before args s = true) (hy : y.cls ≠ "java/lang/invoke/MethodHandle" ∧ y.cls ≠ "java/lang/invoke/VarHandle")
    {W9 : Nat} {Pre : Pt → Array Value → Prop} {Post : Pt → Array Value → Option Value → Pt → Prop} (hK : Back l R p e below s args y 3 W9 Pre Post)
    {g : JFrame} (hg : g.method = m) (hsize : g.locals.size = c.maxLocals) {argsL rest : List Value} (hlen : ∀ sig, parseMethodDescriptor y.desc = some sig → argsL.length = sig.parameters.length)
    (hstack : g.stack = argsL.reverse ++ rest) (hW : 2 * g.monitorRoom + (rest.map fun v => v.category).sum ≤ W9) (hdg : decode c.code g.pc = .ok (.invokestatic index, 3))
    (hpre : ∀ vm₁, s.WarmedH vm₁ → Pre ⟨T.setVm vm₁, locs, cells, slots⟩ argsL.toArray) :
    ∃ (v : Option Value) (vm₁ : Vm) (B : Pt), s.WarmedH vm₁ ∧ Stand p l e R s m args below meth c B.U B.locs B.cells B.slots ∧ Post ⟨T.setVm vm₁, locs, cells, slots⟩ argsL.toArray v B ∧
      ∀ target, Steps p.tables e below (B.U.setTop { g with pc := g.pc + 3, stack := v.toList ++ rest }) target → Steps p.tables e below (T.setTop g) target := by
  obtain ⟨mk, methM, cM, hnamed, hmethM, -, -, -, -, -, -, hsigM⟩ := Cond.codeWith_spec hcode
  have hstatic : methM.isStatic = true := Cond.static_spec hnamed hmethM hstat
  obtain ⟨kP, hkP, -⟩ := className_of_methodNamed hnamed
  have hinitP : kP.init = .initialized := Cond.initialized_spec (findClass_of_methodNamed hnamed) hkP hinit
  obtain ⟨vm₁, X₁, hstep₁⟩ := X.invokestatic hexec hown hlink hnamed hmethM hstatic hkP hinitP hy (g := g) hg (argsL := argsL) (rest := rest) (hlen _ hsigM) hstack hdg
  obtain ⟨v, B, X', hpost, hsteps⟩ := hK m meth c ⟨T.setVm vm₁, locs, cells, slots⟩ { g with stack := rest } (.invokestatic index) mk argsL.toArray X₁ hg hsize hdg hW (X₁.named hnamed) (hpre vm₁ X₁.warmed)
  exact ⟨v, vm₁, B, X₁.warmed, X', hpost, fun target h => hstep₁ _ fun acts => by rw [doInvoke_state]; exact hsteps.trans h⟩
theorem vx_runSW {y : MethodName} {bytes cc : ByteArray} {maxL nL mc ms n index : Nat} {ret : Option FieldType} {hh : List (Nat × Nat × Nat × Nat)} {ws : List Cond} {rm : Room} {Pc : Array Value → State → Prop} {Qc : Array Value → State → Outcome → State → Prop} {free : Addr → Prop} {Ts : List Cond} {own : String} {As rest : List Value} {g : JFrame}
    (S : CallFix p m c cc nL s args Ts own) (hM : Met l y ws rm Pc Qc mc ms free) (cw : vx_CSW R s args own index y bytes maxL ret hh ws rm mc ms n) (hp : PreS s H Pc As)
    (hg : g.method = m) (hn : As.length = n) (hsize : g.locals.size = nL) (hstack : g.stack = As.reverse ++ rest) (hW : 2 * g.monitorRoom + (rest.map fun v => v.category).sum ≤ 8) (hdg : decode cc g.pc = .ok (.invokestatic index, 3)) (hf : cells + mc ≤ R.cells ∧ slots + ms ≤ R.slots) :
    va_Run p l e R s m args below meth c H locs cells slots mc ms g rest (Qc As.toArray) (free) := by
  obtain ⟨⟨hrc, hrs, hfr, hlo, hws, hcw⟩, hcode, hini, hy, hlen, hl, hstt⟩ := cw
  have hK : Back l R p e below s args y 3 8 (PreOf R mc ms Pc) (PostOf Qc mc ms free) := va_backW (hh := hh) (bytes := bytes) (maxL := maxL) (ret := ret) hM hp.1 hrc hrs hfr hlo hws hcw (fun a' U hW => word_at hW (Or.inl (by first | rfl | simp [Cond.onTables, Cond.keeps, Cond.steady])) hini)
  obtain ⟨hx, hb, hml, ho, -⟩ := S
  intro T hT X
  obtain ⟨v, vm₁, ⟨U', l2, c2, s2⟩, hW₁, X', ⟨g', mk, t, L, e1, e2, hq, h1, hL, h2, h3⟩, st⟩ := vx_callSW X hx (hh := hh) (bytes := bytes) (maxL := maxL) (ret := ret) ho hl hstt hini hcode hy hK hg (hsize.trans hml.symm) (argsL := As) (rest := rest) (fun sig h => hn.trans (hlen sig h)) hstack hW (by rw [hb]; exact hdg)
    (fun vm₁ hW₁ => ⟨hf.1, hf.2, hp.2 (T.setVm vm₁) hT hW₁⟩)
  dsimp only [Pt.U, Pt.locs, Pt.cells, Pt.slots] at X' e1 e2 h1 h2 h3 st
  subst h1; subst h2; subst h3
  exact ⟨v, (T.setVm vm₁).calling g' mk As.toArray, t, U', L, hT, X', hL, e1, e2, hq, st⟩
/-- not caught here, past rows that name other classes: it goes on to the caller -/
theorem vx_outP {p : Program} {l : Launch} {e : Env} {R : Room} {s : State} {m : MethodId} {args : Array Value} {below : List Frame} {meth : Method} {c : Code} {H : Heap} {locs : List Loc} {cells slots : Nat} {free : Addr → Prop} {ls : Array Slot} {rest : List Value} {Qc : Array Value → State → Outcome → State → Prop} {XC : String → State → State → Prop}
    {pc : Nat} {own E : String} {ce : Cell} {q : Addr} {mc ms : Nat} (hown : s.vm.findClass own = some m.cls) (hlocks : meth.locks = false)
    (hpass : ∀ z ∈ c.exceptionTable.toList, covers z pc = false ∨ (z.catchType ≠ 0 ∧ ∃ nm : String, (Cond.classLink own z.catchType nm).before args s = true ∧ va_Nc E nm s)) (hcell : H[q]? = some ce) (hv : ce.vm = .none) (hcl : s.vm.findClass E = some ce.cls)
    (hx : ∀ t : State, t.heap = H → s.vm.Alike t.vm → XC E s t) (hf : ∀ z ∈ locs, free z.base) (hc : cells ≤ mc) (hs : slots ≤ ms) :
    vx_W p l e R s m args below meth c H locs cells slots (vx_MQ below Qc XC args s mc ms free) (F0 m pc ls rest) q := by
  intro T hT X
  have hpl : e.platform.magicAccessors = ({} : Platform).magicAccessors := by rw [X.admits.platform]
  obtain ⟨vm', hW', X', st⟩ := X.outThrough hlocks q (g := F0 m pc ls rest) rfl rfl rfl (cell := ce) (by rw [hT]; exact hcell) (by rw [hv]; rfl)
    (by obtain ⟨k9, h9, -⟩ := Vm.findClass_spec hcl; exact ⟨k9, h9⟩) (fun z hz => by
      rcases hpass z hz with h | ⟨hz0, nm, hl1, hn1⟩
      · exact Or.inl h
      · obtain ⟨c6, hc6, hcl6⟩ := Cond.classLink_spec hown hl1 e.platform hpl
        obtain ⟨a8, b8, h1, h2, h3⟩ := hn1
        cases Option.some.inj (h1.symm.trans hcl)
        cases Option.some.inj (h2.symm.trans hc6)
        exact Or.inr ⟨hz0, _, hcl6, h3⟩)
  obtain ⟨g₀, hfr⟩ := X'.frames_eq
  have hcell9 : ((T.setVm vm').setFrames (.throwing q :: below)).heap[q]? = some ce := by
    show T.heap[q]? = some ce
    rw [hT]; exact hcell
  have hend : Ended ((T.setVm vm').setFrames (.throwing q :: below)) below (.threw q) := State.frames_setFrames _ (State.cur_lt_of_frames hfr)
  refine ⟨(T.setVm vm').setFrames (.throwing q :: below), ?_, .threw q, X'.here.running, hend, Or.inr ⟨q, rfl, E, ce, locs, hx _ hT (X'.ends _).1.alike, hcell9, hv, hcl, (X'.ends _).1, (X'.ends _).2.mono hc hs, hf⟩⟩
  rw [X.pushThrowing_eq]
  exact st
/-- a thing of a world lies in the heap -/
theorem vx_lt {D : va_G} {cl : List vw_C} {ws : va_W} {H1 : Heap} (h : va_P D cl ws H1) {k : Nat} {q : Nat × va_E} (hk : ws[k]? = some q) : q.1 < H1.size := (h k q hk).lt
end VXS
/-! ===== END ===== -/
/-! ===== BEGIN methods with a table of their own: called by a name, returning or throwing ===== -/
section VXH
/-! vx_backW, vx_callVX, vx_callSX, vx_callVW, vx_runVW, vx_runVX, vx_runSX, vx_ofWH follow the same proofs as their sisters above (Free/Laws.lean, Shelf42/LK1.lean); vx_outP calls Shelf42/NT130.lean (outThrough). -/
section
variable {l : Launch} {R : Room} {p : Program} {e : Env} {below : List Frame} {s : State} {sargs : Array Value} {y : MethodName} {len W9 : Nat}
theorem vx_backW {ws : List Cond} {rm : Room} {Pc : Array Value → State → Prop} {Qc : Array Value → State → Outcome → State → Prop} {XC : String → State → State → Prop} {mc ms : Nat} {free : Addr → Prop} {bytes : ByteArray} {maxL : Nat} {ret : Option FieldType} {hh : List (Nat × Nat × Nat × Nat)}
    (hM : vx_Met l y ws rm Pc Qc XC mc ms free) (hblind : FrameBlind Pc) (hrc : rm.cells = mc) (hrs : rm.slots = ms)
    (hframes : rm.frames + 1 ≤ R.frames) (hlocals : W9 + (maxL + 11) + rm.locals ≤ R.locals)
    (hws : ∀ w ∈ ws, ∀ a' U, s.WarmedH U.vm → w.before a' U = true) (hcode : Cond.codeWith y bytes maxL ret hh ∈ ws) (hinit : ∀ a' U, s.WarmedH U.vm → (Cond.initialized y.cls).before a' U = true) :
    vx_Back l R p e below s sargs y len W9 (PreOf R mc ms Pc) (PostOf Qc mc ms free) (vx_Post XC mc ms free) := by
  intro m meth c A g ig mk a X hg hsize hdg hW hn hp
  have h1 : (headSpec ws rm).pre.before a A.U = true := atoms_intro fun w hw => hws w hw _ _ X.warmed
  have h2 : (Cond.codeWith y bytes maxL ret hh).before a A.U = true := hws _ hcode _ _ X.warmed
  have h3 : (Cond.initialized y.cls).before a A.U = true := hinit _ _ X.warmed
  have h4 : A.cells + (headSpec ws rm).room.cells ≤ R.cells := by rw [show (headSpec ws rm).room.cells = mc from hrc]; exact hp.1
  have h5 : A.slots + (headSpec ws rm).room.slots ≤ R.slots := by rw [show (headSpec ws rm).room.slots = ms from hrs]; exact hp.2.1
  have hPc : Pc a (A.U.calling g mk a) := hblind _ _ _ _ hp.2.2
  obtain ⟨U, Ls, c0, s0⟩ := A
  dsimp only [Pt.U, Pt.locs, Pt.cells, Pt.slots] at h1 h2 h3 h4 h5 X hn hPc ⊢
  obtain ⟨m9, methY, cY, hn9, hmY, hcY, -, hlY, -⟩ := Cond.codeWith_spec h2
  cases Option.some.inj (hn9.symm.trans hn)
  obtain ⟨kY, hkY, -⟩ := className_of_methodNamed hn
  have hinitY : kY.init = .initialized := Cond.initialized_spec (findClass_of_methodNamed hn) hkY h3
  have h : At U g.method c below := by rw [hg]; exact X.here
  have hlocals9 : W9 + (maxL + 11) + (headSpec ws rm).room.locals ≤ R.locals := hlocals
  have happ : (headSpec ws rm).appliesLoose y e.platform (U.calling g mk a) = true :=
    Spec.appliesLoose_calling (g := g) h hdg hn hkY hinitY
      (X.room_calling (g := g) (R' := (headSpec ws rm).room) hsize hmY hcY hframes (by rw [hlY]; omega) h4 h5) h1
  obtain ⟨mid, hmid⟩ := h.above
  have hfr : (U.setTop g).frames = (.java g :: mid) ++ below := by rw [State.frames_setTop' g h.top, hmid]; rfl
  obtain ⟨o, s₂, hsteps, -, hend, hq⟩ := Steps.callFree hM p X.admits X.cas X.clock (acts := []) hfr happ hPc trivial
  have hq' : vx_Q Qc XC mc ms free a (U.calling g mk a) o s₂ := hq
  rw [State.frames_setTop' g h.top] at hend
  obtain ⟨g₀, hg0⟩ := Option.isSome_iff_exists.mp h.top
  obtain ⟨r, hr⟩ := State.topJava?_eq_some.mp hg0
  have hr' : (({ U with heap := s₂.heap, slotsUsed := s₂.slotsUsed } : State).setVm s₂.vm).frames = .java g₀ :: r := hr
  rcases hq' with ⟨hqc, L, hfe, hL⟩ | ⟨q, rfl, E, ce, L, hx, hce, hcv, hcl, hW₂, hsm, hL⟩
  · obtain ⟨⟨v, rfl⟩, hW₂, e2, q2, q3, q4, q5, q6⟩ := id hfe
    have e3 : s₂ = ({ (U.calling g mk a).setFrames s₂.frames with heap := s₂.heap, slotsUsed := s₂.slotsUsed } : State).setVm s₂.vm := by
      have : s₂ = ({ s₂ with vm := (U.calling g mk a).vm } : State).setVm s₂.vm := rfl
      rw [e2] at this
      exact this
    obtain ⟨c₂, i₂, len₂, hc₂, hd₂, hf₂⟩ := hend
    have hW' : U.WarmedH s₂.vm := hW₂
    have hcc : c₂ = c := by
      have h1 : s₂.code? g.method = U.code? g.method := by
        rw [State.code?_eq, State.code?_eq, hW'.alike.method?]
      exact Option.some.inj (hc₂.symm.trans (h1.trans h.code))
    subst hcc
    have hlen : len₂ = len := by rw [hdg] at hd₂; cases hd₂; rfl
    subst hlen
    have hs₂ : s₂ = (({ U with heap := s₂.heap, slotsUsed := s₂.slotsUsed } : State).setVm s₂.vm).setTop { g with pc := g.pc + len₂, stack := v.toList ++ g.stack } := by
      refine e3.trans ?_
      rw [hf₂, State.calling_eq h.top, State.setFrames_setFrames, State.setTop_of_frames _ hr', hr]
      rfl
    have hsame : U.sameButNew ({ U with heap := s₂.heap, slotsUsed := s₂.slotsUsed } : State) L mc ms := by
      refine ⟨?_, q2, q3, q4, q5, q6⟩
      obtain ⟨t, ht, -⟩ := State.frames_cons hr
      show ({ U with heap := s₂.heap, slotsUsed := s₂.slotsUsed } : State) = { U.setFrames U.frames with heap := s₂.heap, slotsUsed := s₂.slotsUsed }
      rw [State.setFrames_self ht]
    subst hg
    refine Or.inl ⟨v, ⟨(({ U with heap := s₂.heap, slotsUsed := s₂.slotsUsed } : State).setVm s₂.vm), Ls ++ L, c0 + mc, s0 + ms⟩,
      ⟨X.admits, X.cas, X.clock, X.frames, X.room, X.hears, X.method, X.code, (X.here.setHeapUsed s₂.heap s₂.slotsUsed).setVm hW'.alike, X.tail, State.WarmedH.trans X.warmed hW', X.limits, X.bytes, X.same.trans (hsame.setVm s.vm)⟩,
      ⟨g, mk, s₂, L, rfl, rfl, hqc, rfl, hL, rfl, rfl⟩, ?_⟩
    show Steps p.tables e below _ ((({ U with heap := s₂.heap, slotsUsed := s₂.slotsUsed } : State).setVm s₂.vm).setTop { g with pc := g.pc + len₂, stack := v.toList ++ g.stack })
    rw [← hs₂]
    exact hsteps
  · obtain ⟨e2, q2, q3, q4, q5, q6⟩ := id hsm
    have e3 : s₂ = ({ (U.calling g mk a).setFrames s₂.frames with heap := s₂.heap, slotsUsed := s₂.slotsUsed } : State).setVm s₂.vm := by
      have : s₂ = ({ s₂ with vm := (U.calling g mk a).vm } : State).setVm s₂.vm := rfl
      rw [e2] at this
      exact this
    have hf₂ : s₂.frames = .throwing q :: .java g :: U.frames.tail := hend
    have hW' : U.WarmedH s₂.vm := hW₂
    have hs₂ : s₂ = ((({ U with heap := s₂.heap, slotsUsed := s₂.slotsUsed } : State).setVm s₂.vm).setTop g).pushFrame (.throwing q) := by
      refine e3.trans ?_
      rw [hf₂, State.calling_eq h.top, State.setFrames_setFrames, State.pushFrame, State.frames_setTop _ hr', State.setTop_of_frames _ hr', State.setFrames_setFrames, hr]
      rfl
    have hsame : U.sameButNew ({ U with heap := s₂.heap, slotsUsed := s₂.slotsUsed } : State) L mc ms := by
      refine ⟨?_, q2, q3, q4, q5, q6⟩
      obtain ⟨t, ht, -⟩ := State.frames_cons hr
      show ({ U with heap := s₂.heap, slotsUsed := s₂.slotsUsed } : State) = { U.setFrames U.frames with heap := s₂.heap, slotsUsed := s₂.slotsUsed }
      rw [State.setFrames_self ht]
    subst hg
    refine Or.inr ⟨q, ⟨(({ U with heap := s₂.heap, slotsUsed := s₂.slotsUsed } : State).setVm s₂.vm), Ls ++ L, c0 + mc, s0 + ms⟩,
      ⟨X.admits, X.cas, X.clock, X.frames, X.room, X.hears, X.method, X.code, (X.here.setHeapUsed s₂.heap s₂.slotsUsed).setVm hW'.alike, X.tail, State.WarmedH.trans X.warmed hW', X.limits, X.bytes, X.same.trans (hsame.setVm s.vm)⟩,
      ⟨g, mk, s₂, L, E, ce, rfl, rfl, hx, hce, hcv, hcl, rfl, hL, rfl, rfl⟩, ?_⟩
    show Steps p.tables e below _ (((({ U with heap := s₂.heap, slotsUsed := s₂.slotsUsed } : State).setVm s₂.vm).setTop g).pushFrame (.throwing q))
    rw [← hs₂]
    exact hsteps
end
variable {p : Program} {l : Launch} {e : Env} {R : Room} {s : State} {m : MethodId} {args : Array Value} {below : List Frame} {meth : Method} {c : Code} {T : State} {H : Heap} {locs : List Loc} {cells slots : Nat}
theorem vx_callVX (X : Stand p l e R s m args below meth c T locs cells slots) (hexec : p.tables.exec = Jvm.exec) {own C : String} {index : Nat} {y : MethodName} {bytes : ByteArray} {maxL : Nat} {ret : Option FieldType} {hh : List (Nat × Nat × Nat × Nat)}
    (hown : s.vm.findClass own = some m.cls) (hlink : (Cond.methodLink own index y).before args s = true) (hinst : (Cond.instanceMethod y).before args s = true) (hsel : (Cond.selects C y y).before args s = true)
    (hcode : (Cond.codeWith y bytes maxL ret hh).before args s = true) (hy : y.cls ≠ "java/lang/invoke/MethodHandle" ∧ y.cls ≠ "java/lang/invoke/VarHandle")
    {W9 : Nat} {Pre : Pt → Array Value → Prop} {Post : Pt → Array Value → Option Value → Pt → Prop} {PostX : Pt → Array Value → Addr → Pt → Prop} (hK : vx_Back l R p e below s args y 3 W9 Pre Post PostX)
    {b : Addr} {cellB : Cell} (hcell : T.heap[b]? = some cellB) (hobj : cellB.vm.isStatics = false) (hcls : s.vm.findClass C = some cellB.cls)
    {g : JFrame} (hg : g.method = m) (hsize : g.locals.size = c.maxLocals) {argsL rest : List Value} (hlen : ∀ sig, parseMethodDescriptor y.desc = some sig → argsL.length = sig.parameters.length)
    (hstack : g.stack = argsL.reverse ++ .ref b :: rest) (hW : 2 * g.monitorRoom + (rest.map fun v => v.category).sum ≤ W9) (hdg : decode c.code g.pc = .ok (.invokevirtual index, 3))
    (hpre : ∀ vm₁, s.WarmedH vm₁ → Pre ⟨T.setVm vm₁, locs, cells, slots⟩ (Value.ref b :: argsL).toArray) :
    (∃ (v : Option Value) (vm₁ : Vm) (B : Pt), s.WarmedH vm₁ ∧ Stand p l e R s m args below meth c B.U B.locs B.cells B.slots ∧ Post ⟨T.setVm vm₁, locs, cells, slots⟩ (Value.ref b :: argsL).toArray v B ∧
      ∀ target, Steps p.tables e below (B.U.setTop { g with pc := g.pc + 3, stack := v.toList ++ rest }) target → Steps p.tables e below (T.setTop g) target) ∨
    (∃ (q : Addr) (vm₁ : Vm) (B : Pt), s.WarmedH vm₁ ∧ Stand p l e R s m args below meth c B.U B.locs B.cells B.slots ∧ PostX ⟨T.setVm vm₁, locs, cells, slots⟩ (Value.ref b :: argsL).toArray q B ∧
      Steps p.tables e below (T.setTop g) ((B.U.setTop { g with stack := rest }).pushFrame (.throwing q))) := by
  obtain ⟨mk, methM, hnamed, hmethM, hstM, habM⟩ := Cond.instanceMethod_spec hinst
  obtain ⟨m8, methM', cM, hn8, hmethM', -, -, -, -, -, -, hsigM⟩ := Cond.codeWith_spec hcode
  cases Option.some.inj (hn8.symm.trans hnamed)
  cases hmethM.symm.trans hmethM'
  obtain ⟨c2, r2, m2, q1, q2, q3, q4, kP, hkP, hkPi⟩ := Cond.selects_spec hsel
  cases hcls.symm.trans q1
  cases (State.methodFound?_of_named hnamed hy).symm.trans q2
  cases hnamed.symm.trans q3
  have hselP : selectMethod e.platform s.vm cellB.cls mk = .method mk := by rw [Launch.admits_selectMethod X.admits]; exact q4
  obtain ⟨vm₁, X₁, hstep₁⟩ := X.invokevirtual hexec hown hlink hnamed hmethM hstM hkP hkPi hy (a := b) (cell := cellB) hcell
    (fun z h => by rw [h] at hobj; cases hobj) hselP hmethM habM hkP hkPi (g := g) hg (argsL := argsL) (rest := rest) (hlen _ hsigM) hstack hdg
  rcases hK m meth c ⟨T.setVm vm₁, locs, cells, slots⟩ { g with stack := rest } (.invokevirtual index) mk (Value.ref b :: argsL).toArray X₁ hg hsize hdg hW (X₁.named hnamed) (hpre vm₁ X₁.warmed) with ⟨v, B, X', hpost, hsteps⟩ | ⟨q, B, X', hpost, hsteps⟩
  · exact Or.inl ⟨v, vm₁, B, X₁.warmed, X', hpost, fun target h => hstep₁ _ fun acts => by rw [doInvoke_state]; exact hsteps.trans h⟩
  · exact Or.inr ⟨q, vm₁, B, X₁.warmed, X', hpost, hstep₁ _ fun acts => by rw [doInvoke_state]; exact hsteps⟩
theorem vx_callSX (X : Stand p l e R s m args below meth c T locs cells slots) (hexec : p.tables.exec = Jvm.exec) {own : String} {index : Nat} {y : MethodName} {bytes : ByteArray} {maxL : Nat} {ret : Option FieldType} {hh : List (Nat × Nat × Nat × Nat)}
    (hown : s.vm.findClass own = some m.cls) (hlink : (Cond.methodLink own index y).before args s = true) (hstat : (Cond.static y).before args s = true) (hinit : (Cond.initialized y.cls).before args s = true)
    (hcode : (Cond.codeWith y bytes maxL ret hh).before args s = true) (hy : y.cls ≠ "java/lang/invoke/MethodHandle" ∧ y.cls ≠ "java/lang/invoke/VarHandle")
    {W9 : Nat} {Pre : Pt → Array Value → Prop} {Post : Pt → Array Value → Option Value → Pt → Prop} {PostX : Pt → Array Value → Addr → Pt → Prop} (hK : vx_Back l R p e below s args y 3 W9 Pre Post PostX)
    {g : JFrame} (hg : g.method = m) (hsize : g.locals.size = c.maxLocals) {argsL rest : List Value} (hlen : ∀ sig, parseMethodDescriptor y.desc = some sig → argsL.length = sig.parameters.length)
    (hstack : g.stack = argsL.reverse ++ rest) (hW : 2 * g.monitorRoom + (rest.map fun v => v.category).sum ≤ W9) (hdg : decode c.code g.pc = .ok (.invokestatic index, 3))
    (hpre : ∀ vm₁, s.WarmedH vm₁ → Pre ⟨T.setVm vm₁, locs, cells, slots⟩ argsL.toArray) :
    (∃ (v : Option Value) (vm₁ : Vm) (B : Pt), s.WarmedH vm₁ ∧ Stand p l e R s m args below meth c B.U B.locs B.cells B.slots ∧ Post ⟨T.setVm vm₁, locs, cells, slots⟩ argsL.toArray v B ∧
      ∀ target, Steps p.tables e below (B.U.setTop { g with pc := g.pc + 3, stack := v.toList ++ rest }) target → Steps p.tables e below (T.setTop g) target) ∨
    (∃ (q : Addr) (vm₁ : Vm) (B : Pt), s.WarmedH vm₁ ∧ Stand p l e R s m args below meth c B.U B.locs B.cells B.slots ∧ PostX ⟨T.setVm vm₁, locs, cells, slots⟩ argsL.toArray q B ∧
      Steps p.tables e below (T.setTop g) ((B.U.setTop { g with stack := rest }).pushFrame (.throwing q))) := by
  obtain ⟨mk, methM, cM, hnamed, hmethM, -, -, -, -, -, -, hsigM⟩ := Cond.codeWith_spec hcode
  have hstatic : methM.isStatic = true := Cond.static_spec hnamed hmethM hstat
  obtain ⟨kP, hkP, -⟩ := className_of_methodNamed hnamed
  have hinitP : kP.init = .initialized := Cond.initialized_spec (findClass_of_methodNamed hnamed) hkP hinit
  obtain ⟨vm₁, X₁, hstep₁⟩ := X.invokestatic hexec hown hlink hnamed hmethM hstatic hkP hinitP hy (g := g) hg (argsL := argsL) (rest := rest) (hlen _ hsigM) hstack hdg
  rcases hK m meth c ⟨T.setVm vm₁, locs, cells, slots⟩ { g with stack := rest } (.invokestatic index) mk argsL.toArray X₁ hg hsize hdg hW (X₁.named hnamed) (hpre vm₁ X₁.warmed) with ⟨v, B, X', hpost, hsteps⟩ | ⟨q, B, X', hpost, hsteps⟩
  · exact Or.inl ⟨v, vm₁, B, X₁.warmed, X', hpost, fun target h => hstep₁ _ fun acts => by rw [doInvoke_state]; exact hsteps.trans h⟩
  · exact Or.inr ⟨q, vm₁, B, X₁.warmed, X', hpost, hstep₁ _ fun acts => by rw [doInvoke_state]; exact hsteps⟩
theorem vx_callVW (X : Stand p l e R s m args below meth c T locs cells slots) (hexec : p.tables.exec = Jvm.exec) {own C : String} {index : Nat} {y : MethodName} {bytes : ByteArray} {maxL : Nat} {ret : Option FieldType} {hh : List (Nat × Nat × Nat × Nat)}
    (hown : s.vm.findClass own = some m.cls) (hlink : (Cond.methodLink own index y).before args s = true) (hinst : (Cond.instanceMethod y).before args s = true) (hsel : (Cond.selects C y y).before args s = true)
    (hcode : (Cond.codeWith y bytes maxL ret hh).before args s = true) (hy : y.cls ≠ "java/lang/invoke/MethodHandle" ∧ y.cls ≠ "java/lang/invoke/VarHandle")
    {W9 : Nat} {Pre : Pt → Array Value → Prop} {Post : Pt → Array Value → Option Value → Pt → Prop} (hK : Back l R p e below s args y 3 W9 Pre Post)
    {b : Addr} {cellB : Cell} (hcell : T.heap[b]? = some cellB) (hobj : cellB.vm.isStatics = false) (hcls : s.vm.findClass C = some cellB.cls)
    {g : JFrame} (hg : g.method = m) (hsize : g.locals.size = c.maxLocals) {argsL rest : List Value} (hlen : ∀ sig, parseMethodDescriptor y.desc = some sig → argsL.length = sig.parameters.length)
    (hstack : g.stack = argsL.reverse ++ .ref b :: rest) (hW : 2 * g.monitorRoom + (rest.map fun v => v.category).sum ≤ W9) (hdg : decode c.code g.pc = .ok (.invokevirtual index, 3))
    (hpre : ∀ vm₁, s.WarmedH vm₁ → Pre ⟨T.setVm vm₁, locs, cells, slots⟩ (Value.ref b :: argsL).toArray) :
    ∃ (v : Option Value) (vm₁ : Vm) (B : Pt), s.WarmedH vm₁ ∧ Stand p l e R s m args below meth c B.U B.locs B.cells B.slots ∧ Post ⟨T.setVm vm₁, locs, cells, slots⟩ (Value.ref b :: argsL).toArray v B ∧
      ∀ target, Steps p.tables e below (B.U.setTop { g with pc := g.pc + 3, stack := v.toList ++ rest }) target → Steps p.tables e below (T.setTop g) target := by
  obtain ⟨mk, methM, hnamed, hmethM, hstM, habM⟩ := Cond.instanceMethod_spec hinst
  obtain ⟨m8, methM', cM, hn8, hmethM', -, -, -, -, -, -, hsigM⟩ := Cond.codeWith_spec hcode
  cases Option.some.inj (hn8.symm.trans hnamed)
  cases hmethM.symm.trans hmethM'
  obtain ⟨c2, r2, m2, q1, q2, q3, q4, kP, hkP, hkPi⟩ := Cond.selects_spec hsel
  cases hcls.symm.trans q1
  cases (State.methodFound?_of_named hnamed hy).symm.trans q2
  cases hnamed.symm.trans q3
  have hselP : selectMethod e.platform s.vm cellB.cls mk = .method mk := by rw [Launch.admits_selectMethod X.admits]; exact q4
  obtain ⟨vm₁, X₁, hstep₁⟩ := X.invokevirtual hexec hown hlink hnamed hmethM hstM hkP hkPi hy (a := b) (cell := cellB) hcell
    (fun z h => by rw [h] at hobj; cases hobj) hselP hmethM habM hkP hkPi (g := g) hg (argsL := argsL) (rest := rest) (hlen _ hsigM) hstack hdg
  obtain ⟨v, B, X', hpost, hsteps⟩ := hK m meth c ⟨T.setVm vm₁, locs, cells, slots⟩ { g with stack := rest } (.invokevirtual index) mk (Value.ref b :: argsL).toArray X₁ hg hsize hdg hW (X₁.named hnamed) (hpre vm₁ X₁.warmed)
  exact ⟨v, vm₁, B, X₁.warmed, X', hpost, fun target h => hstep₁ _ fun acts => by rw [doInvoke_state]; exact hsteps.trans h⟩
abbrev vx_CVW (R : Room) (s : State) (args : Array Value) (own C : String) (index : Nat) (y : MethodName) (bytes : ByteArray) (maxL : Nat) (ret : Option FieldType) (hh : List (Nat × Nat × Nat × Nat)) (ws : List Cond) (rm : Room) (mc ms n : Nat) : Prop :=
  (rm.cells = mc ∧ rm.slots = ms ∧ rm.frames + 1 ≤ R.frames ∧ 8 + (maxL + 11) + rm.locals ≤ R.locals ∧ (∀ w ∈ ws, ∀ (a' : Array Value) (U : State), s.WarmedH U.vm → w.before a' U = true) ∧ Cond.codeWith y bytes maxL ret hh ∈ ws) ∧
  (Cond.codeWith y bytes maxL ret hh).before args s = true ∧ (Cond.initialized y.cls).before args s = true ∧ (y.cls ≠ "java/lang/invoke/MethodHandle" ∧ y.cls ≠ "java/lang/invoke/VarHandle") ∧
  (∀ sig, parseMethodDescriptor y.desc = some sig → n = sig.parameters.length) ∧ (Cond.methodLink own index y).before args s = true ∧ (Cond.instanceMethod y).before args s = true ∧ (Cond.selects C y y).before args s = true
theorem vx_cwVW {own C : String} {index maxL mc ms : Nat} {y : MethodName} {bytes : ByteArray} {ret : Option FieldType} {hh : List (Nat × Nat × Nat × Nat)} {Ts ws ws' : List Cond} {rm : Room} (n : Nat) (ht : ∀ w ∈ Ts, w.before args s = true) (hT : GoodIn Ts (wsV own index C y ws)) (hw : ws = Cond.codeWith y bytes maxL ret hh :: ws') (hrc : rm.cells = mc) (hrs : rm.slots = ms)
    (hd : y.cls = C ∧ y.cls ≠ "java/lang/invoke/MethodHandle" ∧ y.cls ≠ "java/lang/invoke/VarHandle" ∧ (parseMethodDescriptor y.desc).map (fun d => d.parameters.length) = some n) (hR : rm.frames + 1 ≤ R.frames ∧ 8 + (maxL + 11) + rm.locals ≤ R.locals) :
    vx_CVW R s args own C index y bytes maxL ret hh ws rm mc ms n := by
  obtain ⟨hC, hd⟩ := hd
  subst hC
  have ok : ∀ w ∈ wsV own index y.cls y ws, w.before args s = true := fun w h => ht w (hT w h).1
  have hG : GoodIn Ts ws := fun w h => hT w (by unfold wsV; exact List.mem_append_right _ h)
  have hc : Cond.codeWith y bytes maxL ret hh ∈ ws := by rw [hw]; exact List.mem_cons_self
  refine ⟨⟨hrc, hrs, hR.1, hR.2, pay_in ht hG, hc⟩, ht _ (hG _ hc).1, ok _ (by simp [wsV]), ⟨hd.1, hd.2.1⟩, fun sig h => ?_, ok _ (by simp [wsV]), ok _ (by simp [wsV]), ok _ (by simp [wsV])⟩
  have h2 := hd.2.2
  rw [h] at h2
  exact (Option.some.inj h2).symm
theorem vx_runVW {y : MethodName} {bytes cc : ByteArray} {maxL nL mc ms n index : Nat} {ret : Option FieldType} {hh : List (Nat × Nat × Nat × Nat)} {ws : List Cond} {rm : Room} {Pc : Array Value → State → Prop} {Qc : Array Value → State → Outcome → State → Prop} {free : Addr → Prop} {Ts : List Cond} {own C : String} {b : Addr} {As rest : List Value} {g : JFrame}
    (S : CallFix p m c cc nL s args Ts own) (hM : Met l y ws rm Pc Qc mc ms free) (cw : vx_CVW R s args own C index y bytes maxL ret hh ws rm mc ms n) (hp : PreV s H C b Pc As)
    (hg : g.method = m) (hn : As.length = n) (hsize : g.locals.size = nL) (hstack : g.stack = As.reverse ++ .ref b :: rest) (hW : 2 * g.monitorRoom + (rest.map fun v => v.category).sum ≤ 8) (hdg : decode cc g.pc = .ok (.invokevirtual index, 3)) (hf : cells + mc ≤ R.cells ∧ slots + ms ≤ R.slots) :
    va_Run p l e R s m args below meth c H locs cells slots mc ms g rest (Qc (Value.ref b :: As).toArray) free := by
  obtain ⟨⟨hrc, hrs, hfr, hlo, hws, hcw⟩, hcode, hini, hy, hlen, hl, hin, hse⟩ := cw
  have hK : Back l R p e below s args y 3 8 (PreOf R mc ms Pc) (PostOf Qc mc ms free) := va_backW (hh := hh) (bytes := bytes) (maxL := maxL) (ret := ret) hM hp.1 hrc hrs hfr hlo hws hcw (fun a' U hW => word_at hW (Or.inl (by first | rfl | simp [Cond.onTables, Cond.keeps, Cond.steady])) hini)
  obtain ⟨hx, hb, hml, ho, -⟩ := S
  obtain ⟨-, ⟨cellB, hcB, hoB, hclB⟩, hPc⟩ := hp
  intro T hT X
  obtain ⟨v, vm₁, ⟨U', l2, c2, s2⟩, hW₁, X', ⟨g', mk, t, L, e1, e2, hq, h1, hL, h2, h3⟩, st⟩ := vx_callVW X hx (C := C) (hh := hh) (bytes := bytes) (maxL := maxL) (ret := ret) ho hl hin hse hcode hy hK (by rw [hT]; exact hcB) hoB hclB hg (hsize.trans hml.symm) (argsL := As) (rest := rest) (fun sig h => hn.trans (hlen sig h)) hstack hW (by rw [hb]; exact hdg)
    (fun vm₁ hW₁ => ⟨hf.1, hf.2, hPc (T.setVm vm₁) hT hW₁⟩)
  dsimp only [Pt.U, Pt.locs, Pt.cells, Pt.slots] at X' e1 e2 h1 h2 h3 st
  subst h1; subst h2; subst h3
  exact ⟨v, (T.setVm vm₁).calling g' mk (Value.ref b :: As).toArray, t, U', L, hT, X', hL, e1, e2, hq, st⟩
section
variable {y : MethodName} {bytes cc : ByteArray} {maxL nL mc ms n index : Nat} {ret : Option FieldType} {ws : List Cond} {rm : Room} {Pc : Array Value → State → Prop} {Qc : Array Value → State → Outcome → State → Prop} {XC : String → State → State → Prop} {free : Addr → Prop} {Ts : List Cond} {own C : String} {b : Addr} {As rest : List Value} {g : JFrame}
theorem vx_runVX {hh : List (Nat × Nat × Nat × Nat)} (S : CallFix p m c cc nL s args Ts own) (hM : vx_Met l y ws rm Pc Qc XC mc ms free) (cw : vx_CVW R s args own C index y bytes maxL ret hh ws rm mc ms n) (hp : PreV s H C b Pc As)
    (hg : g.method = m) (hn : As.length = n) (hsize : g.locals.size = nL) (hstack : g.stack = As.reverse ++ .ref b :: rest) (hW : 2 * g.monitorRoom + (rest.map fun v => v.category).sum ≤ 8) (hdg : decode cc g.pc = .ok (.invokevirtual index, 3)) (hf : cells + mc ≤ R.cells ∧ slots + ms ≤ R.slots) :
    vx_Run p l e R s m args below meth c H locs cells slots mc ms g rest (Qc (Value.ref b :: As).toArray) XC free := by
  obtain ⟨⟨hrc, hrs, hfr, hlo, hws, hcw⟩, hcode, hini, hy, hlen, hl, hin, hse⟩ := cw
  have hK : vx_Back l R p e below s args y 3 8 (PreOf R mc ms Pc) (PostOf Qc mc ms free) (vx_Post XC mc ms free) := vx_backW (hh := hh) (bytes := bytes) (maxL := maxL) (ret := ret) hM hp.1 hrc hrs hfr hlo hws hcw (fun a' U hW => word_at hW (Or.inl (by first | rfl | simp [Cond.onTables, Cond.keeps, Cond.steady])) hini)
  obtain ⟨hx, hb, hml, ho, -⟩ := S
  obtain ⟨-, ⟨cellB, hcB, hoB, hclB⟩, hPc⟩ := hp
  intro T hT X
  rcases vx_callVX X hx (C := C) (hh := hh) (bytes := bytes) (maxL := maxL) (ret := ret) ho hl hin hse hcode hy hK (by rw [hT]; exact hcB) hoB hclB hg (hsize.trans hml.symm) (argsL := As) (rest := rest) (fun sig h => hn.trans (hlen sig h)) hstack hW (by rw [hb]; exact hdg)
    (fun vm₁ hW₁ => ⟨hf.1, hf.2, hPc (T.setVm vm₁) hT hW₁⟩) with ⟨v, vm₁, ⟨U', l2, c2, s2⟩, hW₁, X', ⟨g', mk, t, L, e1, e2, hq, h1, hL, h2, h3⟩, st⟩ | ⟨q, vm₁, ⟨U', l2, c2, s2⟩, hW₁, X', ⟨g', mk, t, L, E, ce, e1, e2, hq, hce, hcv, hcl, h1, hL, h2, h3⟩, st⟩
  · dsimp only [Pt.U, Pt.locs, Pt.cells, Pt.slots] at X' e1 e2 h1 h2 h3 st
    subst h1; subst h2; subst h3
    exact Or.inl ⟨v, (T.setVm vm₁).calling g' mk (Value.ref b :: As).toArray, t, U', L, hT, X', hL, e1, e2, hq, st⟩
  · dsimp only [Pt.U, Pt.locs, Pt.cells, Pt.slots] at X' e1 e2 h1 h2 h3 st hcl
    subst h1; subst h2; subst h3
    exact Or.inr ⟨q, (T.setVm vm₁).calling g' mk (Value.ref b :: As).toArray, t, U', L, E, ce, hT, X', hL, e1, e2, hq, hce, hcv, vx_cls hW₁ hcl, st⟩
theorem vx_runSX {hh : List (Nat × Nat × Nat × Nat)} (S : CallFix p m c cc nL s args Ts own) (hM : vx_Met l y ws rm Pc Qc XC mc ms free) (cw : vx_CSW R s args own index y bytes maxL ret hh ws rm mc ms n) (hp : PreS s H Pc As)
    (hg : g.method = m) (hn : As.length = n) (hsize : g.locals.size = nL) (hstack : g.stack = As.reverse ++ rest) (hW : 2 * g.monitorRoom + (rest.map fun v => v.category).sum ≤ 8) (hdg : decode cc g.pc = .ok (.invokestatic index, 3)) (hf : cells + mc ≤ R.cells ∧ slots + ms ≤ R.slots) :
    vx_Run p l e R s m args below meth c H locs cells slots mc ms g rest (Qc As.toArray) XC free := by
  obtain ⟨⟨hrc, hrs, hfr, hlo, hws, hcw⟩, hcode, hini, hy, hlen, hl, hstt⟩ := cw
  have hK : vx_Back l R p e below s args y 3 8 (PreOf R mc ms Pc) (PostOf Qc mc ms free) (vx_Post XC mc ms free) := vx_backW (hh := hh) (bytes := bytes) (maxL := maxL) (ret := ret) hM hp.1 hrc hrs hfr hlo hws hcw (fun a' U hW => word_at hW (Or.inl (by first | rfl | simp [Cond.onTables, Cond.keeps, Cond.steady])) hini)
  obtain ⟨hx, hb, hml, ho, -⟩ := S
  intro T hT X
  rcases vx_callSX X hx (hh := hh) (bytes := bytes) (maxL := maxL) (ret := ret) ho hl hstt hini hcode hy hK hg (hsize.trans hml.symm) (argsL := As) (rest := rest) (fun sig h => hn.trans (hlen sig h)) hstack hW (by rw [hb]; exact hdg)
    (fun vm₁ hW₁ => ⟨hf.1, hf.2, hp.2 (T.setVm vm₁) hT hW₁⟩) with ⟨v, vm₁, ⟨U', l2, c2, s2⟩, hW₁, X', ⟨g', mk, t, L, e1, e2, hq, h1, hL, h2, h3⟩, st⟩ | ⟨q, vm₁, ⟨U', l2, c2, s2⟩, hW₁, X', ⟨g', mk, t, L, E, ce, e1, e2, hq, hce, hcv, hcl, h1, hL, h2, h3⟩, st⟩
  · dsimp only [Pt.U, Pt.locs, Pt.cells, Pt.slots] at X' e1 e2 h1 h2 h3 st
    subst h1; subst h2; subst h3
    exact Or.inl ⟨v, (T.setVm vm₁).calling g' mk As.toArray, t, U', L, hT, X', hL, e1, e2, hq, st⟩
  · dsimp only [Pt.U, Pt.locs, Pt.cells, Pt.slots] at X' e1 e2 h1 h2 h3 st hcl
    subst h1; subst h2; subst h3
    exact Or.inr ⟨q, (T.setVm vm₁).calling g' mk As.toArray, t, U', L, E, ce, hT, X', hL, e1, e2, hq, hce, hcv, vx_cls hW₁ hcl, st⟩
end
end VXH
theorem vx_ofWH {l : Launch} {y : MethodName} {ws ws' : List Cond} {rm : Room} {Pc : Array Value → State → Prop} {Qc : Array Value → State → Outcome → State → Prop} {XC : String → State → State → Prop} {mc ms : Nat} {free : Addr → Prop} {cc : ByteArray} {maxL : Nat} {ret : Option FieldType} {hh : List (Nat × Nat × Nat × Nat)}
    (hy : plainName y.cls = true) (hw : ws = Cond.codeWith y cc maxL ret hh :: ws')
    (body : ∀ p e s m args below meth c s₁, BodyLoose p l y (headSpec ws rm) cc maxL ret e s m args below meth c s₁ → c.maxLocals = maxL → Pc args s →
      W p l e (headSpec ws rm).room s m args below meth c s.heap [] 0 0 (vx_MQ below Qc XC args s mc ms free) (entryFrame m args maxL)) : vx_Met l y ws rm Pc Qc XC mc ms free := by
  refine MetFree.of_bodyS (code := cc) (maxLocals := maxL) (ret := ret) hy ?_ ?_
  · intro args s m h hn
    obtain ⟨m9, meth, c, hn9, h1, h2, h3, h4, -, h5, h6, -⟩ := Cond.codeWith_spec (atoms_spec (ws := ws) h _ (by rw [hw]; exact List.mem_cons_self))
    cases hn.symm.trans hn9
    exact ⟨meth, c, h1, h2, h3, h4, h5, h6⟩
  · intro p e s m args below meth c s₁ B hml hP _
    have hh0 : s₁.heap = s.heap := by rw [B.state]; rfl
    obtain ⟨t, a1, o, b1, b2, b3⟩ := body p e s m args below meth c s₁ B hml hP s₁ hh0 (Stand.of_body B)
    exact ⟨t, o, a1, b1, b2, b3⟩
/-! ===== END ===== -/

/-! ===== BEGIN printed: names, fields, word lists, decode rows ===== -/
def RX0 : String := "SailorCandles$Chapel"
def TX0 : u_T := fun k => match k with
  | 0 => ("SailorCandles$Chapel", "harbour", "LSailorCandles$Harbour;", true)
  | 1 => ("SailorCandles$Chapel", "stay", "[I", true)
  | 2 => ("SailorCandles$Chapel", "outFor", "[I", true)
  | 3 => ("SailorCandles$Chapel", "rung", "[Z", true)
  | 4 => ("SailorCandles$Chapel", "candle", "[I", true)
  | 5 => ("SailorCandles$Chapel", "trust", "[I", true)
  | 6 => ("SailorCandles$Chapel", "sightingAge", "[I", true)
  | 7 => ("SailorCandles$Chapel", "nightsPassed", "I", false)
  | 8 => ("SailorCandles$Chapel", "waxLeft", "I", false)
  | _ => ("SailorCandles$Chapel", "unringings", "I", false)
def tyX0 : Nat → FieldType := fun k => match k with
  | 0 => .object "SailorCandles$Harbour"
  | 1 => .array .int
  | 2 => .array .int
  | 3 => .array .boolean
  | 4 => .array .int
  | 5 => .array .int
  | 6 => .array .int
  | 7 => .int
  | 8 => .int
  | _ => .int
abbrev wsX00 : List Cond := u_ws RX0 TX0 10
theorem nmX0 : ∀ a, a < 10 → ∀ b, b < 10 → a ≠ b → (TX0 a).2.1 ≠ (TX0 b).2.1 := by decide +kernel
theorem tyX0_ok : ∀ k, k < 10 → parseFieldDescriptor (TX0 k).2.2.1 = some (tyX0 k) := by decide +kernel
abbrev cX0_init : ByteArray := prog_2_method_1_code
def yX0_init : MethodName := ⟨RX0, "<init>", "(LSailorCandles$Harbour;)V"⟩
abbrev cX0_copyFrom : ByteArray := prog_2_method_2_code
def yX0_copyFrom : MethodName := ⟨RX0, "copyFrom", "(LSailorCandles$Chapel;)V"⟩
abbrev cX0_stayOf : ByteArray := prog_2_method_3_code
def yX0_stayOf : MethodName := ⟨RX0, "stayOf", "(I)I"⟩
abbrev cX0_sendOut : ByteArray := prog_2_method_4_code
def yX0_sendOut : MethodName := ⟨RX0, "sendOut", "(I)I"⟩
abbrev cX0_endWaiting : ByteArray := prog_2_method_5_code
def yX0_endWaiting : MethodName := ⟨RX0, "endWaiting", "(II)V"⟩
abbrev cX0_lostSailors : ByteArray := prog_2_method_6_code
def yX0_lostSailors : MethodName := ⟨RX0, "lostSailors", "()I"⟩
abbrev cX0_hasSighting : ByteArray := prog_2_method_7_code
def yX0_hasSighting : MethodName := ⟨RX0, "hasSighting", "(II)Z"⟩
abbrev cX0_enterSighting : ByteArray := prog_2_method_8_code
def yX0_enterSighting : MethodName := ⟨RX0, "enterSighting", "(II)V"⟩
abbrev cX0_sightingCount : ByteArray := prog_2_method_9_code
def yX0_sightingCount : MethodName := ⟨RX0, "sightingCount", "()I"⟩
abbrev cX0_trustSum : ByteArray := prog_2_method_10_code
def yX0_trustSum : MethodName := ⟨RX0, "trustSum", "(I)I"⟩
abbrev cX0_believeWatchersOf : ByteArray := prog_2_method_11_code
def yX0_believeWatchersOf : MethodName := ⟨RX0, "believeWatchersOf", "(I)V"⟩
abbrev cX0_placeOf : ByteArray := prog_2_method_12_code
def yX0_placeOf : MethodName := ⟨RX0, "placeOf", "(II)I"⟩
abbrev cX0_watcherAt : ByteArray := prog_2_method_13_code
def yX0_watcherAt : MethodName := ⟨RX0, "watcherAt", "(I)I"⟩
abbrev cX0_darkFor : ByteArray := prog_2_method_14_code
def yX0_darkFor : MethodName := ⟨RX0, "darkFor", "(I)Z"⟩
abbrev cX0_darkCount : ByteArray := prog_2_method_15_code
def yX0_darkCount : MethodName := ⟨RX0, "darkCount", "()I"⟩
abbrev cX0_lightCandle : ByteArray := prog_2_method_16_code
def yX0_lightCandle : MethodName := ⟨RX0, "lightCandle", "(I)Z"⟩
abbrev cX0_passNights : ByteArray := prog_2_method_17_code
def yX0_passNights : MethodName := ⟨RX0, "passNights", "(I)I"⟩
abbrev cX0_passNight : ByteArray := prog_2_method_18_code
def yX0_passNight : MethodName := ⟨RX0, "passNight", "()I"⟩
abbrev cX0_ageSightings : ByteArray := prog_2_method_19_code
def yX0_ageSightings : MethodName := ⟨RX0, "ageSightings", "()V"⟩
abbrev cX0_doubt : ByteArray := prog_2_method_20_code
def yX0_doubt : MethodName := ⟨RX0, "doubt", "(I)V"⟩
abbrev cX0_unringBells : ByteArray := prog_2_method_21_code
def yX0_unringBells : MethodName := ⟨RX0, "unringBells", "()V"⟩
abbrev cX0_burnCandles : ByteArray := prog_2_method_22_code
def yX0_burnCandles : MethodName := ⟨RX0, "burnCandles", "()I"⟩
abbrev cX0_burnCandle : ByteArray := prog_2_method_23_code
def yX0_burnCandle : MethodName := ⟨RX0, "burnCandle", "(I)V"⟩
abbrev cX0_countNightOut : ByteArray := prog_2_method_24_code
def yX0_countNightOut : MethodName := ⟨RX0, "countNightOut", "()V"⟩
def RX1 : String := "SailorCandles$Harbour"
def TX1 : u_T := fun k => match k with
  | 0 => ("SailorCandles$Harbour", "shipCount", "I", false)
  | 1 => ("SailorCandles$Harbour", "sailorCount", "I", false)
  | 2 => ("SailorCandles$Harbour", "watcherCount", "I", false)
  | 3 => ("SailorCandles$Harbour", "masts", "[I", true)
  | 4 => ("SailorCandles$Harbour", "ship", "[I", true)
  | 5 => ("SailorCandles$Harbour", "mast", "[I", true)
  | 6 => ("SailorCandles$Harbour", "voter", "[Z", true)
  | _ => ("SailorCandles$Harbour", "givenUp", "[Z", true)
def tyX1 : Nat → FieldType := fun k => match k with
  | 0 => .int
  | 1 => .int
  | 2 => .int
  | 3 => .array .int
  | 4 => .array .int
  | 5 => .array .int
  | 6 => .array .boolean
  | _ => .array .boolean
abbrev wsX10 : List Cond := u_ws RX1 TX1 8
theorem nmX1 : ∀ a, a < 8 → ∀ b, b < 8 → a ≠ b → (TX1 a).2.1 ≠ (TX1 b).2.1 := by decide +kernel
theorem tyX1_ok : ∀ k, k < 8 → parseFieldDescriptor (TX1 k).2.2.1 = some (tyX1 k) := by decide +kernel
abbrev cX1_init : ByteArray := prog_3_method_1_code
def yX1_init : MethodName := ⟨RX1, "<init>", "()V"⟩
abbrev cX1_enterShip : ByteArray := prog_3_method_2_code
def yX1_enterShip : MethodName := ⟨RX1, "enterShip", "(I)I"⟩
abbrev cX1_enterSailor : ByteArray := prog_3_method_3_code
def yX1_enterSailor : MethodName := ⟨RX1, "enterSailor", "(IIZ)I"⟩
abbrev cX1_enterWatcher : ByteArray := prog_3_method_4_code
def yX1_enterWatcher : MethodName := ⟨RX1, "enterWatcher", "()I"⟩
abbrev cX1_shipWith : ByteArray := prog_3_method_5_code
def yX1_shipWith : MethodName := ⟨RX1, "shipWith", "(I)I"⟩
abbrev cX1_clearVotes : ByteArray := prog_3_method_6_code
def yX1_clearVotes : MethodName := ⟨RX1, "clearVotes", "(I)V"⟩
abbrev cX1_votersFor : ByteArray := prog_3_method_7_code
def yX1_votersFor : MethodName := ⟨RX1, "votersFor", "(I)I"⟩
abbrev cX1_votesAgainst : ByteArray := prog_3_method_8_code
def yX1_votesAgainst : MethodName := ⟨RX1, "votesAgainst", "(I)I"⟩
abbrev cX1_votesToLose : ByteArray := prog_3_method_9_code
def yX1_votesToLose : MethodName := ⟨RX1, "votesToLose", "(I)I"⟩
abbrev cX1_countOfShip : ByteArray := prog_3_method_10_code
def yX1_countOfShip : MethodName := ⟨RX1, "countOfShip", "([ZI)I"⟩
def RX2 : String := "SailorCandles"
def TX2 : u_T := fun k => match k with
  | 0 => ("SailorCandles", "harbour", "LSailorCandles$Harbour;", true)
  | 1 => ("SailorCandles", "now", "LSailorCandles$Chapel;", true)
  | _ => ("SailorCandles", "trial", "LSailorCandles$Chapel;", true)
def tyX2 : Nat → FieldType := fun k => match k with
  | 0 => .object "SailorCandles$Harbour"
  | 1 => .object "SailorCandles$Chapel"
  | _ => .object "SailorCandles$Chapel"
abbrev wsX20 : List Cond := u_ws RX2 TX2 3
theorem nmX2 : ∀ a, a < 3 → ∀ b, b < 3 → a ≠ b → (TX2 a).2.1 ≠ (TX2 b).2.1 := by decide +kernel
theorem tyX2_ok : ∀ k, k < 3 → parseFieldDescriptor (TX2 k).2.2.1 = some (tyX2 k) := by decide +kernel
abbrev cX2_init : ByteArray := prog_1_method_1_code
def yX2_init : MethodName := ⟨RX2, "<init>", "()V"⟩
abbrev cX2_addShip : ByteArray := prog_1_method_2_code
def yX2_addShip : MethodName := ⟨RX2, "addShip", "(I)I"⟩
abbrev cX2_addSailor : ByteArray := prog_1_method_3_code
def yX2_addSailor : MethodName := ⟨RX2, "addSailor", "(IIZ)I"⟩
abbrev cX2_addWatcher : ByteArray := prog_1_method_4_code
def yX2_addWatcher : MethodName := ⟨RX2, "addWatcher", "()I"⟩
abbrev cX2_buyWax : ByteArray := prog_1_method_5_code
def yX2_buyWax : MethodName := ⟨RX2, "buyWax", "(I)I"⟩
abbrev cX2_sail : ByteArray := prog_1_method_6_code
def yX2_sail : MethodName := ⟨RX2, "sail", "(I)I"⟩
abbrev cX2_comeHome : ByteArray := prog_1_method_7_code
def yX2_comeHome : MethodName := ⟨RX2, "comeHome", "(I)I"⟩
abbrev cX2_sight : ByteArray := prog_1_method_8_code
def yX2_sight : MethodName := ⟨RX2, "sight", "(II)Z"⟩
abbrev cX2_vote : ByteArray := prog_1_method_9_code
def yX2_vote : MethodName := ⟨RX2, "vote", "(IZ)I"⟩
abbrev cX2_burnNights : ByteArray := prog_1_method_10_code
def yX2_burnNights : MethodName := ⟨RX2, "burnNights", "(I)I"⟩
abbrev cX2_ships : ByteArray := prog_1_method_11_code
def yX2_ships : MethodName := ⟨RX2, "ships", "()I"⟩
abbrev cX2_mastsOf : ByteArray := prog_1_method_12_code
def yX2_mastsOf : MethodName := ⟨RX2, "mastsOf", "(I)I"⟩
abbrev cX2_isAway : ByteArray := prog_1_method_13_code
def yX2_isAway : MethodName := ⟨RX2, "isAway", "(I)Z"⟩
abbrev cX2_isLost : ByteArray := prog_1_method_14_code
def yX2_isLost : MethodName := ⟨RX2, "isLost", "(I)Z"⟩
abbrev cX2_nightsOut : ByteArray := prog_1_method_15_code
def yX2_nightsOut : MethodName := ⟨RX2, "nightsOut", "(I)I"⟩
abbrev cX2_isRung : ByteArray := prog_1_method_16_code
def yX2_isRung : MethodName := ⟨RX2, "isRung", "(I)Z"⟩
abbrev cX2_trustIn : ByteArray := prog_1_method_17_code
def yX2_trustIn : MethodName := ⟨RX2, "trustIn", "(I)I"⟩
abbrev cX2_voters : ByteArray := prog_1_method_18_code
def yX2_voters : MethodName := ⟨RX2, "voters", "(I)I"⟩
abbrev cX2_votesForLost : ByteArray := prog_1_method_19_code
def yX2_votesForLost : MethodName := ⟨RX2, "votesForLost", "(I)I"⟩
abbrev cX2_votesMissing : ByteArray := prog_1_method_20_code
def yX2_votesMissing : MethodName := ⟨RX2, "votesMissing", "(I)I"⟩
abbrev cX2_sailors : ByteArray := prog_1_method_21_code
def yX2_sailors : MethodName := ⟨RX2, "sailors", "()I"⟩
abbrev cX2_shipOf : ByteArray := prog_1_method_22_code
def yX2_shipOf : MethodName := ⟨RX2, "shipOf", "(I)I"⟩
abbrev cX2_mastOf : ByteArray := prog_1_method_23_code
def yX2_mastOf : MethodName := ⟨RX2, "mastOf", "(I)I"⟩
abbrev cX2_hasVoter : ByteArray := prog_1_method_24_code
def yX2_hasVoter : MethodName := ⟨RX2, "hasVoter", "(I)Z"⟩
abbrev cX2_isGivenUp : ByteArray := prog_1_method_25_code
def yX2_isGivenUp : MethodName := ⟨RX2, "isGivenUp", "(I)Z"⟩
abbrev cX2_candleOf : ByteArray := prog_1_method_26_code
def yX2_candleOf : MethodName := ⟨RX2, "candleOf", "(I)I"⟩
abbrev cX2_isDark : ByteArray := prog_1_method_27_code
def yX2_isDark : MethodName := ⟨RX2, "isDark", "(I)Z"⟩
abbrev cX2_watchers : ByteArray := prog_1_method_28_code
def yX2_watchers : MethodName := ⟨RX2, "watchers", "()I"⟩
abbrev cX2_trustOf : ByteArray := prog_1_method_29_code
def yX2_trustOf : MethodName := ⟨RX2, "trustOf", "(I)I"⟩
abbrev cX2_sightings : ByteArray := prog_1_method_30_code
def yX2_sightings : MethodName := ⟨RX2, "sightings", "()I"⟩
abbrev cX2_night : ByteArray := prog_1_method_31_code
def yX2_night : MethodName := ⟨RX2, "night", "()I"⟩
abbrev cX2_wax : ByteArray := prog_1_method_32_code
def yX2_wax : MethodName := ⟨RX2, "wax", "()I"⟩
abbrev cX2_darkCandles : ByteArray := prog_1_method_33_code
def yX2_darkCandles : MethodName := ⟨RX2, "darkCandles", "()I"⟩
abbrev cX2_bellsUnrung : ByteArray := prog_1_method_34_code
def yX2_bellsUnrung : MethodName := ⟨RX2, "bellsUnrung", "()I"⟩
abbrev cX2_namesOnWall : ByteArray := prog_1_method_35_code
def yX2_namesOnWall : MethodName := ⟨RX2, "namesOnWall", "()I"⟩
abbrev cX2_wouldRing : ByteArray := prog_1_method_36_code
def yX2_wouldRing : MethodName := ⟨RX2, "wouldRing", "(II)Z"⟩
abbrev cX2_nightsUntilDark : ByteArray := prog_1_method_38_code
def yX2_nightsUntilDark : MethodName := ⟨RX2, "nightsUntilDark", "()I"⟩
abbrev cX2_waxWanted : ByteArray := prog_1_method_40_code
def yX2_waxWanted : MethodName := ⟨RX2, "waxWanted", "(I)I"⟩
abbrev cX2_meanTrust : ByteArray := prog_1_method_41_code
def yX2_meanTrust : MethodName := ⟨RX2, "meanTrust", "()D"⟩
abbrev cX2_digest : ByteArray := prog_1_method_42_code
def yX2_digest : MethodName := ⟨RX2, "digest", "()J"⟩
abbrev cX2_mixShip : ByteArray := prog_1_method_43_code
def yX2_mixShip : MethodName := ⟨RX2, "mixShip", "(JI)J"⟩
abbrev cX2_mixSailor : ByteArray := prog_1_method_44_code
def yX2_mixSailor : MethodName := ⟨RX2, "mixSailor", "(JI)J"⟩
abbrev cX2_mix : ByteArray := prog_1_method_45_code
def yX2_mix : MethodName := ⟨RX2, "mix", "(JI)J"⟩
abbrev cX2_one : ByteArray := prog_1_method_46_code
def yX2_one : MethodName := ⟨RX2, "one", "(Z)I"⟩
abbrev cX2_wouldStayLit : ByteArray := prog_1_method_47_code
def yX2_wouldStayLit : MethodName := ⟨RX2, "wouldStayLit", "(II)Z"⟩
abbrev cX2_needShip : ByteArray := prog_1_method_48_code
def yX2_needShip : MethodName := ⟨RX2, "needShip", "(I)V"⟩
abbrev cX2_needSailor : ByteArray := prog_1_method_49_code
def yX2_needSailor : MethodName := ⟨RX2, "needSailor", "(I)V"⟩
abbrev cX2_needWatcher : ByteArray := prog_1_method_50_code
def yX2_needWatcher : MethodName := ⟨RX2, "needWatcher", "(I)V"⟩
abbrev cX2_needNewSighting : ByteArray := prog_1_method_51_code
def yX2_needNewSighting : MethodName := ⟨RX2, "needNewSighting", "(II)V"⟩
abbrev cX2_needNights : ByteArray := prog_1_method_52_code
def yX2_needNights : MethodName := ⟨RX2, "needNights", "(II)V"⟩
abbrev cX2_at : ByteArray := prog_1_method_53_code
def yX2_at : MethodName := ⟨RX2, "at", "([II)I"⟩
abbrev cX2_is : ByteArray := prog_1_method_54_code
def yX2_is : MethodName := ⟨RX2, "is", "([ZI)Z"⟩
abbrev cX2_put : ByteArray := prog_1_method_55_code
def yX2_put : MethodName := ⟨RX2, "put", "([III)V"⟩
abbrev cX2_mark : ByteArray := prog_1_method_56_code
def yX2_mark : MethodName := ⟨RX2, "mark", "([ZIZ)V"⟩
abbrev cX2_copyRow : ByteArray := prog_1_method_57_code
def yX2_copyRow : MethodName := ⟨RX2, "copyRow", "([I[I)V"⟩
abbrev cX2_copyMarks : ByteArray := prog_1_method_58_code
def yX2_copyMarks : MethodName := ⟨RX2, "copyMarks", "([Z[Z)V"⟩
def RX3 : String := "SailorCandlesLaw$Sim"
def TX3 : u_T := fun k => match k with
  | 0 => ("SailorCandlesLaw$Sim", "night", "I", false)
  | 1 => ("SailorCandlesLaw$Sim", "wax", "I", false)
  | 2 => ("SailorCandlesLaw$Sim", "unrung", "I", false)
  | 3 => ("SailorCandlesLaw$Sim", "ships", "[[I", false)
  | 4 => ("SailorCandlesLaw$Sim", "sailors", "[[I", false)
  | 5 => ("SailorCandlesLaw$Sim", "trust", "[I", false)
  | _ => ("SailorCandlesLaw$Sim", "sights", "[[I", false)
def tyX3 : Nat → FieldType := fun k => match k with
  | 0 => .int
  | 1 => .int
  | 2 => .int
  | 3 => .array (.array .int)
  | 4 => .array (.array .int)
  | 5 => .array .int
  | _ => .array (.array .int)
abbrev wsX30 : List Cond := u_ws RX3 TX3 7
theorem nmX3 : ∀ a, a < 7 → ∀ b, b < 7 → a ≠ b → (TX3 a).2.1 ≠ (TX3 b).2.1 := by decide +kernel
theorem tyX3_ok : ∀ k, k < 7 → parseFieldDescriptor (TX3 k).2.2.1 = some (tyX3 k) := by decide +kernel
abbrev cX3_init : ByteArray := prog_5_method_1_code
def yX3_init : MethodName := ⟨RX3, "<init>", "()V"⟩
abbrev cX3_more : ByteArray := prog_5_method_2_code
def yX3_more : MethodName := ⟨RX3, "more", "([[I[I)[[I"⟩
abbrev cX3_trustIn : ByteArray := prog_5_method_5_code
def yX3_trustIn : MethodName := ⟨RX3, "trustIn", "(I)I"⟩
abbrev cX3_isSighted : ByteArray := prog_5_method_6_code
def yX3_isSighted : MethodName := ⟨RX3, "isSighted", "(II)Z"⟩
abbrev cX3_drop : ByteArray := prog_5_method_7_code
def yX3_drop : MethodName := ⟨RX3, "drop", "(II)V"⟩
abbrev cX3_votes : ByteArray := prog_5_method_8_code
def yX3_votes : MethodName := ⟨RX3, "votes", "(IZ)I"⟩
abbrev cX3_isDark : ByteArray := prog_5_method_9_code
def yX3_isDark : MethodName := ⟨RX3, "isDark", "([I)Z"⟩
abbrev cX3_dark : ByteArray := prog_5_method_10_code
def yX3_dark : MethodName := ⟨RX3, "dark", "()I"⟩
abbrev cX3_light : ByteArray := prog_5_method_11_code
def yX3_light : MethodName := ⟨RX3, "light", "([I)Z"⟩
abbrev cX3_ends : ByteArray := prog_5_method_12_code
def yX3_ends : MethodName := ⟨RX3, "ends", "(I)V"⟩
abbrev cX3_pass : ByteArray := prog_5_method_13_code
def yX3_pass : MethodName := ⟨RX3, "pass", "()I"⟩
abbrev cX3_isSame : ByteArray := prog_5_method_14_code
def yX3_isSame : MethodName := ⟨RX3, "isSame", "(LSailorCandles;)Z"⟩
def RX4 : String := "SailorCandlesModel"
def TX4 : u_T := fun k => match k with
  | _ => ("", "", "", false)
def tyX4 : Nat → FieldType := fun k => match k with
  | _ => .int
abbrev wsX40 : List Cond := u_ws RX4 TX4 0
theorem nmX4 : ∀ a, a < 0 → ∀ b, b < 0 → a ≠ b → (TX4 a).2.1 ≠ (TX4 b).2.1 := by decide +kernel
theorem tyX4_ok : ∀ k, k < 0 → parseFieldDescriptor (TX4 k).2.2.1 = some (tyX4 k) := by decide +kernel
def RJ9 : String := "java/lang/Math"
def TJ9 : u_T := fun k => match k with
  | _ => ("", "", "", false)
def tyJ9 : Nat → FieldType := fun k => match k with
  | _ => .int
abbrev wsJ90 : List Cond := u_ws RJ9 TJ9 0
theorem nmJ9 : ∀ a, a < 0 → ∀ b, b < 0 → a ≠ b → (TJ9 a).2.1 ≠ (TJ9 b).2.1 := by decide +kernel
theorem tyJ9_ok : ∀ k, k < 0 → parseFieldDescriptor (TJ9 k).2.2.1 = some (tyJ9 k) := by decide +kernel
abbrev cJ9_max_7cf53 : ByteArray := prog_11_method_65_code
def yJ9_max_7cf53 : MethodName := ⟨RJ9, "max", "(II)I"⟩
abbrev cJ9_min_7cf53 : ByteArray := prog_11_method_69_code
def yJ9_min_7cf53 : MethodName := ⟨RJ9, "min", "(II)I"⟩
def RJ0 : String := "java/lang/String"
def TJ0 : u_T := fun k => match k with
  | _ => ("", "", "", false)
def tyJ0 : Nat → FieldType := fun k => match k with
  | _ => .int
abbrev wsJ00 : List Cond := u_ws RJ0 TJ0 0
theorem nmJ0 : ∀ a, a < 0 → ∀ b, b < 0 → a ≠ b → (TJ0 a).2.1 ≠ (TJ0 b).2.1 := by decide +kernel
theorem tyJ0_ok : ∀ k, k < 0 → parseFieldDescriptor (TJ0 k).2.2.1 = some (tyJ0 k) := by decide +kernel
def RL : String := "SailorCandlesLaw"
abbrev cL_below : ByteArray := method_2_code
def yL_below : MethodName := ⟨RL, "below", "(II)I"⟩
abbrev cL_cell : ByteArray := method_3_code
def yL_cell : MethodName := ⟨RL, "cell", "([II)I"⟩
abbrev cL_act : ByteArray := method_4_code
def yL_act : MethodName := ⟨RL, "act", "(LSailorCandles;LSailorCandlesLaw$Sim;I)Z"⟩
abbrev cL_refused : ByteArray := method_5_code
def yL_refused : MethodName := ⟨RL, "refused", "(LSailorCandlesLaw$Sim;IIII)Z"⟩
abbrev cL_build : ByteArray := method_6_code
def yL_build : MethodName := ⟨RL, "build", "(LSailorCandles;[I)LSailorCandlesLaw$Sim;"⟩
abbrev cL_law : ByteArray := code
def yL_law : MethodName := ⟨RL, "law", "([I)Z"⟩
def wsX0_init : List Cond := .code yX0_init cX0_init 3 none :: ([.methodLink RX0 3 objectInit, .instanceMethod objectInit, .code objectInit ⟨#[0xb1]⟩ 1 none, .arrayClass .int, .fieldLink RX0 9 "SailorCandles$Chapel" "stay" "[I", .fieldLink RX0 15 "SailorCandles$Chapel" "outFor" "[I", .arrayClass .boolean, .fieldLink RX0 18 "SailorCandles$Chapel" "rung" "[Z", .fieldLink RX0 22 "SailorCandles$Chapel" "candle" "[I", .fieldLink RX0 25 "SailorCandles$Chapel" "trust" "[I", .fieldLink RX0 28 "SailorCandles$Chapel" "sightingAge" "[I", .fieldLink RX0 31 "SailorCandles$Chapel" "harbour" "LSailorCandles$Harbour;"] ++ wsX00)
def wsX2_copyRow : List Cond := .code yX2_copyRow cX2_copyRow 3 none :: ([])
def wsX2_copyMarks : List Cond := .code yX2_copyMarks cX2_copyMarks 3 none :: ([])
def wsX0_copyFrom : List Cond := .code yX0_copyFrom cX0_copyFrom 2 none :: ([.fieldLink RX0 9 "SailorCandles$Chapel" "stay" "[I", .fieldLink RX0 15 "SailorCandles$Chapel" "outFor" "[I", .fieldLink RX0 18 "SailorCandles$Chapel" "rung" "[Z", .fieldLink RX0 22 "SailorCandles$Chapel" "candle" "[I", .fieldLink RX0 25 "SailorCandles$Chapel" "trust" "[I", .fieldLink RX0 28 "SailorCandles$Chapel" "sightingAge" "[I", .fieldLink RX0 43 "SailorCandles$Chapel" "nightsPassed" "I", .fieldLink RX0 47 "SailorCandles$Chapel" "waxLeft" "I", .fieldLink RX0 50 "SailorCandles$Chapel" "unringings" "I", .static yX2_copyRow, .initialized RX2, .code yX2_copyRow cX2_copyRow 3 none, .static yX2_copyMarks, .code yX2_copyMarks cX2_copyMarks 3 none] ++ wsX00)
def wsX2_at : List Cond := .code yX2_at cX2_at 2 (some .int) :: ([])
def wsX0_stayOf : List Cond := .code yX0_stayOf cX0_stayOf 2 (some .int) :: ([.fieldLink RX0 9 "SailorCandles$Chapel" "stay" "[I", .static yX2_at, .initialized RX2, .code yX2_at cX2_at 2 (some .int)] ++ wsX00)
def wsX2_put : List Cond := .code yX2_put cX2_put 3 none :: ([])
def wsX1_shipWith : List Cond := .code yX1_shipWith cX1_shipWith 2 (some .int) :: ([.fieldLink RX1 15 "SailorCandles$Harbour" "ship" "[I"] ++ wsX10)
def wsX0_lightCandle : List Cond := .code yX0_lightCandle cX0_lightCandle 2 (some .boolean) :: ([.fieldLink RX0 47 "SailorCandles$Chapel" "waxLeft" "I", .fieldLink RX0 22 "SailorCandles$Chapel" "candle" "[I", .static yX2_put, .initialized RX2, .code yX2_put cX2_put 3 none] ++ wsX00)
def wsX0_sendOut : List Cond := .code yX0_sendOut cX0_sendOut 4 (some .int) :: ([.fieldLink RX0 9 "SailorCandles$Chapel" "stay" "[I", .fieldLink RX0 15 "SailorCandles$Chapel" "outFor" "[I", .fieldLink RX0 31 "SailorCandles$Chapel" "harbour" "LSailorCandles$Harbour;", .static yX2_put, .initialized RX2, .code yX2_put cX2_put 3 none, .methodLink RX0 61 yX1_shipWith, .instanceMethod yX1_shipWith, .selects RX1 yX1_shipWith yX1_shipWith, .initialized RX1, .code yX1_shipWith cX1_shipWith 2 (some .int), .fieldLink RX1 15 "SailorCandles$Harbour" "ship" "[I", .methodLink RX0 67 yX0_lightCandle, .instanceMethod yX0_lightCandle, .selects RX0 yX0_lightCandle yX0_lightCandle, .initialized RX0, .code yX0_lightCandle cX0_lightCandle 2 (some .boolean), .fieldLink RX0 47 "SailorCandles$Chapel" "waxLeft" "I", .fieldLink RX0 22 "SailorCandles$Chapel" "candle" "[I"] ++ wsX00 ++ wsX10)
def wsX2_mark : List Cond := .code yX2_mark cX2_mark 3 none :: ([])
def wsX0_placeOf : List Cond := .code yX0_placeOf cX0_placeOf 2 (some .int) :: ([])
def wsX0_endWaiting : List Cond := .code yX0_endWaiting cX0_endWaiting 4 none :: ([.fieldLink RX0 9 "SailorCandles$Chapel" "stay" "[I", .fieldLink RX0 18 "SailorCandles$Chapel" "rung" "[Z", .fieldLink RX0 28 "SailorCandles$Chapel" "sightingAge" "[I", .fieldLink RX0 31 "SailorCandles$Chapel" "harbour" "LSailorCandles$Harbour;", .fieldLink RX0 47 "SailorCandles$Chapel" "waxLeft" "I", .fieldLink RX0 22 "SailorCandles$Chapel" "candle" "[I", .static yX2_put, .initialized RX2, .code yX2_put cX2_put 3 none, .static yX2_mark, .code yX2_mark cX2_mark 3 none, .methodLink RX0 75 yX0_placeOf, .static yX0_placeOf, .initialized RX0, .code yX0_placeOf cX0_placeOf 2 (some .int), .methodLink RX0 61 yX1_shipWith, .instanceMethod yX1_shipWith, .selects RX1 yX1_shipWith yX1_shipWith, .initialized RX1, .code yX1_shipWith cX1_shipWith 2 (some .int), .fieldLink RX1 15 "SailorCandles$Harbour" "ship" "[I", .static yX2_at, .code yX2_at cX2_at 2 (some .int)] ++ wsX00 ++ wsX10)
def wsX0_lostSailors : List Cond := .code yX0_lostSailors cX0_lostSailors 3 (some .int) :: ([.fieldLink RX0 31 "SailorCandles$Chapel" "harbour" "LSailorCandles$Harbour;", .methodLink RX0 61 yX1_shipWith, .instanceMethod yX1_shipWith, .selects RX1 yX1_shipWith yX1_shipWith, .initialized RX1, .code yX1_shipWith cX1_shipWith 2 (some .int), .fieldLink RX1 15 "SailorCandles$Harbour" "ship" "[I", .methodLink RX0 79 yX0_stayOf, .instanceMethod yX0_stayOf, .selects RX0 yX0_stayOf yX0_stayOf, .initialized RX0, .code yX0_stayOf cX0_stayOf 2 (some .int), .fieldLink RX0 9 "SailorCandles$Chapel" "stay" "[I", .static yX2_at, .initialized RX2, .code yX2_at cX2_at 2 (some .int)] ++ wsX00 ++ wsX10)
def wsX0_hasSighting : List Cond := .code yX0_hasSighting cX0_hasSighting 4 (some .boolean) :: ([.fieldLink RX0 28 "SailorCandles$Chapel" "sightingAge" "[I", .methodLink RX0 75 yX0_placeOf, .static yX0_placeOf, .initialized RX0, .code yX0_placeOf cX0_placeOf 2 (some .int)] ++ wsX00)
def wsX0_trustSum : List Cond := .code yX0_trustSum cX0_trustSum 4 (some .int) :: ([.fieldLink RX0 25 "SailorCandles$Chapel" "trust" "[I", .methodLink RX0 85 yX0_hasSighting, .instanceMethod yX0_hasSighting, .selects RX0 yX0_hasSighting yX0_hasSighting, .initialized RX0, .code yX0_hasSighting cX0_hasSighting 4 (some .boolean), .fieldLink RX0 28 "SailorCandles$Chapel" "sightingAge" "[I", .methodLink RX0 75 yX0_placeOf, .static yX0_placeOf, .code yX0_placeOf cX0_placeOf 2 (some .int), .static yX2_at, .initialized RX2, .code yX2_at cX2_at 2 (some .int)] ++ wsX00)
def wsX0_enterSighting : List Cond := .code yX0_enterSighting cX0_enterSighting 3 none :: ([.fieldLink RX0 28 "SailorCandles$Chapel" "sightingAge" "[I", .fieldLink RX0 18 "SailorCandles$Chapel" "rung" "[Z", .methodLink RX0 75 yX0_placeOf, .static yX0_placeOf, .initialized RX0, .code yX0_placeOf cX0_placeOf 2 (some .int), .static yX2_put, .initialized RX2, .code yX2_put cX2_put 3 none, .methodLink RX0 82 yX0_trustSum, .instanceMethod yX0_trustSum, .selects RX0 yX0_trustSum yX0_trustSum, .code yX0_trustSum cX0_trustSum 4 (some .int), .fieldLink RX0 25 "SailorCandles$Chapel" "trust" "[I", .methodLink RX0 85 yX0_hasSighting, .instanceMethod yX0_hasSighting, .selects RX0 yX0_hasSighting yX0_hasSighting, .code yX0_hasSighting cX0_hasSighting 4 (some .boolean), .static yX2_at, .code yX2_at cX2_at 2 (some .int), .static yX2_mark, .code yX2_mark cX2_mark 3 none] ++ wsX00)
def wsX0_sightingCount : List Cond := .code yX0_sightingCount cX0_sightingCount 3 (some .int) :: ([.fieldLink RX0 28 "SailorCandles$Chapel" "sightingAge" "[I"] ++ wsX00)
def wsX0_believeWatchersOf : List Cond := .code yX0_believeWatchersOf cX0_believeWatchersOf 3 none :: ([.fieldLink RX0 25 "SailorCandles$Chapel" "trust" "[I", .methodLink RX0 89 Lib.Math.min.name, .static Lib.Math.min.name, .initialized "java/lang/Math", .code Lib.Math.min.name Lib.Math.min.code 2 (some .int), .methodLink RX0 85 yX0_hasSighting, .instanceMethod yX0_hasSighting, .selects RX0 yX0_hasSighting yX0_hasSighting, .initialized RX0, .code yX0_hasSighting cX0_hasSighting 4 (some .boolean), .fieldLink RX0 28 "SailorCandles$Chapel" "sightingAge" "[I", .methodLink RX0 75 yX0_placeOf, .static yX0_placeOf, .code yX0_placeOf cX0_placeOf 2 (some .int), .static yX2_at, .initialized RX2, .code yX2_at cX2_at 2 (some .int), .static yX2_put, .code yX2_put cX2_put 3 none] ++ wsX00)
def wsX0_watcherAt : List Cond := .code yX0_watcherAt cX0_watcherAt 1 (some .int) :: ([])
def wsX0_darkFor : List Cond := .code yX0_darkFor cX0_darkFor 2 (some .boolean) :: ([.fieldLink RX0 31 "SailorCandles$Chapel" "harbour" "LSailorCandles$Harbour;", .fieldLink RX0 22 "SailorCandles$Chapel" "candle" "[I", .methodLink RX0 61 yX1_shipWith, .instanceMethod yX1_shipWith, .selects RX1 yX1_shipWith yX1_shipWith, .initialized RX1, .code yX1_shipWith cX1_shipWith 2 (some .int), .fieldLink RX1 15 "SailorCandles$Harbour" "ship" "[I", .methodLink RX0 79 yX0_stayOf, .instanceMethod yX0_stayOf, .selects RX0 yX0_stayOf yX0_stayOf, .initialized RX0, .code yX0_stayOf cX0_stayOf 2 (some .int), .fieldLink RX0 9 "SailorCandles$Chapel" "stay" "[I", .static yX2_at, .initialized RX2, .code yX2_at cX2_at 2 (some .int)] ++ wsX00 ++ wsX10)
def wsX0_darkCount : List Cond := .code yX0_darkCount cX0_darkCount 3 (some .int) :: ([.methodLink RX0 94 yX0_darkFor, .instanceMethod yX0_darkFor, .selects RX0 yX0_darkFor yX0_darkFor, .initialized RX0, .code yX0_darkFor cX0_darkFor 2 (some .boolean), .fieldLink RX0 31 "SailorCandles$Chapel" "harbour" "LSailorCandles$Harbour;", .fieldLink RX0 22 "SailorCandles$Chapel" "candle" "[I", .methodLink RX0 61 yX1_shipWith, .instanceMethod yX1_shipWith, .selects RX1 yX1_shipWith yX1_shipWith, .initialized RX1, .code yX1_shipWith cX1_shipWith 2 (some .int), .fieldLink RX1 15 "SailorCandles$Harbour" "ship" "[I", .methodLink RX0 79 yX0_stayOf, .instanceMethod yX0_stayOf, .selects RX0 yX0_stayOf yX0_stayOf, .code yX0_stayOf cX0_stayOf 2 (some .int), .fieldLink RX0 9 "SailorCandles$Chapel" "stay" "[I", .static yX2_at, .initialized RX2, .code yX2_at cX2_at 2 (some .int)] ++ wsX00 ++ wsX10)
def wsX0_doubt : List Cond := .code yX0_doubt cX0_doubt 2 none :: ([.fieldLink RX0 25 "SailorCandles$Chapel" "trust" "[I", .methodLink RX0 120 Lib.Math.max.name, .static Lib.Math.max.name, .initialized "java/lang/Math", .code Lib.Math.max.name Lib.Math.max.code 2 (some .int), .static yX2_at, .initialized RX2, .code yX2_at cX2_at 2 (some .int), .static yX2_put, .code yX2_put cX2_put 3 none] ++ wsX00)
def wsX0_ageSightings : List Cond := .code yX0_ageSightings cX0_ageSightings 2 none :: ([.fieldLink RX0 28 "SailorCandles$Chapel" "sightingAge" "[I", .methodLink RX0 113 yX0_watcherAt, .static yX0_watcherAt, .initialized RX0, .code yX0_watcherAt cX0_watcherAt 1 (some .int), .methodLink RX0 116 yX0_doubt, .instanceMethod yX0_doubt, .selects RX0 yX0_doubt yX0_doubt, .code yX0_doubt cX0_doubt 2 none, .fieldLink RX0 25 "SailorCandles$Chapel" "trust" "[I", .methodLink RX0 120 Lib.Math.max.name, .static Lib.Math.max.name, .initialized "java/lang/Math", .code Lib.Math.max.name Lib.Math.max.code 2 (some .int), .static yX2_at, .initialized RX2, .code yX2_at cX2_at 2 (some .int), .static yX2_put, .code yX2_put cX2_put 3 none] ++ wsX00)
def wsX2_is : List Cond := .code yX2_is cX2_is 2 (some .boolean) :: ([])
def wsX0_unringBells : List Cond := .code yX0_unringBells cX0_unringBells 2 none :: ([.fieldLink RX0 18 "SailorCandles$Chapel" "rung" "[Z", .fieldLink RX0 50 "SailorCandles$Chapel" "unringings" "I", .static yX2_is, .initialized RX2, .code yX2_is cX2_is 2 (some .boolean), .methodLink RX0 82 yX0_trustSum, .instanceMethod yX0_trustSum, .selects RX0 yX0_trustSum yX0_trustSum, .initialized RX0, .code yX0_trustSum cX0_trustSum 4 (some .int), .fieldLink RX0 25 "SailorCandles$Chapel" "trust" "[I", .methodLink RX0 85 yX0_hasSighting, .instanceMethod yX0_hasSighting, .selects RX0 yX0_hasSighting yX0_hasSighting, .code yX0_hasSighting cX0_hasSighting 4 (some .boolean), .fieldLink RX0 28 "SailorCandles$Chapel" "sightingAge" "[I", .methodLink RX0 75 yX0_placeOf, .static yX0_placeOf, .code yX0_placeOf cX0_placeOf 2 (some .int), .static yX2_at, .code yX2_at cX2_at 2 (some .int), .static yX2_mark, .code yX2_mark cX2_mark 3 none] ++ wsX00)
def wsX0_burnCandle : List Cond := .code yX0_burnCandle cX0_burnCandle 3 none :: ([.fieldLink RX0 31 "SailorCandles$Chapel" "harbour" "LSailorCandles$Harbour;", .fieldLink RX0 22 "SailorCandles$Chapel" "candle" "[I", .methodLink RX0 120 Lib.Math.max.name, .static Lib.Math.max.name, .initialized "java/lang/Math", .code Lib.Math.max.name Lib.Math.max.code 2 (some .int), .static yX2_at, .initialized RX2, .code yX2_at cX2_at 2 (some .int), .static yX2_put, .code yX2_put cX2_put 3 none] ++ wsX00 ++ wsX10)
def wsX0_burnCandles_r1 : List Cond := [Cond.fieldLink RX0 31 "SailorCandles$Chapel" "harbour" "LSailorCandles$Harbour;", Cond.fieldLink RX0 18 "SailorCandles$Chapel" "rung" "[Z", Cond.fieldLink RX0 22 "SailorCandles$Chapel" "candle" "[I", Cond.methodLink RX0 61 yX1_shipWith, Cond.instanceMethod yX1_shipWith, Cond.selects RX1 yX1_shipWith yX1_shipWith, Cond.initialized RX1, Cond.code yX1_shipWith cX1_shipWith 2 (some .int), Cond.fieldLink RX1 15 "SailorCandles$Harbour" "ship" "[I", Cond.methodLink RX0 79 yX0_stayOf, Cond.instanceMethod yX0_stayOf, Cond.selects RX0 yX0_stayOf yX0_stayOf, Cond.initialized RX0, Cond.code yX0_stayOf cX0_stayOf 2 (some .int), Cond.fieldLink RX0 9 "SailorCandles$Chapel" "stay" "[I", Cond.static yX2_at, Cond.initialized RX2, Cond.code yX2_at cX2_at 2 (some .int), Cond.static yX2_is, Cond.code yX2_is cX2_is 2 (some .boolean), Cond.methodLink RX0 127 yX0_burnCandle, Cond.instanceMethod yX0_burnCandle, Cond.selects RX0 yX0_burnCandle yX0_burnCandle, Cond.code yX0_burnCandle cX0_burnCandle 3 none]
def wsX0_burnCandles_r2 : List Cond := [Cond.methodLink RX0 120 Lib.Math.max.name, Cond.static Lib.Math.max.name, Cond.initialized "java/lang/Math", Cond.code Lib.Math.max.name Lib.Math.max.code 2 (some .int), Cond.static yX2_put, Cond.code yX2_put cX2_put 3 none, Cond.methodLink RX0 67 yX0_lightCandle, Cond.instanceMethod yX0_lightCandle, Cond.selects RX0 yX0_lightCandle yX0_lightCandle, Cond.code yX0_lightCandle cX0_lightCandle 2 (some .boolean), Cond.fieldLink RX0 47 "SailorCandles$Chapel" "waxLeft" "I"]
def wsX0_burnCandles : List Cond := .code yX0_burnCandles cX0_burnCandles 4 (some .int) :: ((wsX0_burnCandles_r1 ++ wsX0_burnCandles_r2) ++ wsX00 ++ wsX10)
def wsX1_countOfShip : List Cond := .code yX1_countOfShip cX1_countOfShip 5 (some .int) :: ([.fieldLink RX1 15 "SailorCandles$Harbour" "ship" "[I"] ++ wsX10)
def wsX1_votersFor : List Cond := .code yX1_votersFor cX1_votersFor 2 (some .int) :: ([.fieldLink RX1 21 "SailorCandles$Harbour" "voter" "[Z", .methodLink RX1 46 yX1_countOfShip, .instanceMethod yX1_countOfShip, .selects RX1 yX1_countOfShip yX1_countOfShip, .initialized RX1, .code yX1_countOfShip cX1_countOfShip 5 (some .int), .fieldLink RX1 15 "SailorCandles$Harbour" "ship" "[I"] ++ wsX10)
def wsX1_votesAgainst : List Cond := .code yX1_votesAgainst cX1_votesAgainst 2 (some .int) :: ([.fieldLink RX1 25 "SailorCandles$Harbour" "givenUp" "[Z", .methodLink RX1 46 yX1_countOfShip, .instanceMethod yX1_countOfShip, .selects RX1 yX1_countOfShip yX1_countOfShip, .initialized RX1, .code yX1_countOfShip cX1_countOfShip 5 (some .int), .fieldLink RX1 15 "SailorCandles$Harbour" "ship" "[I"] ++ wsX10)
def wsX1_votesToLose : List Cond := .code yX1_votesToLose cX1_votesToLose 3 (some .int) :: ([.methodLink RX1 57 Lib.Math.max.name, .static Lib.Math.max.name, .initialized "java/lang/Math", .code Lib.Math.max.name Lib.Math.max.code 2 (some .int), .methodLink RX1 50 yX1_votersFor, .instanceMethod yX1_votersFor, .selects RX1 yX1_votersFor yX1_votersFor, .initialized RX1, .code yX1_votersFor cX1_votersFor 2 (some .int), .fieldLink RX1 21 "SailorCandles$Harbour" "voter" "[Z", .methodLink RX1 46 yX1_countOfShip, .instanceMethod yX1_countOfShip, .selects RX1 yX1_countOfShip yX1_countOfShip, .code yX1_countOfShip cX1_countOfShip 5 (some .int), .fieldLink RX1 15 "SailorCandles$Harbour" "ship" "[I", .methodLink RX1 54 yX1_votesAgainst, .instanceMethod yX1_votesAgainst, .selects RX1 yX1_votesAgainst yX1_votesAgainst, .code yX1_votesAgainst cX1_votesAgainst 2 (some .int), .fieldLink RX1 25 "SailorCandles$Harbour" "givenUp" "[Z"] ++ wsX10)
def wsX0_countNightOut_r1 : List Cond := [Cond.fieldLink RX0 15 "SailorCandles$Chapel" "outFor" "[I", Cond.fieldLink RX0 31 "SailorCandles$Chapel" "harbour" "LSailorCandles$Harbour;", Cond.methodLink RX0 79 yX0_stayOf, Cond.instanceMethod yX0_stayOf, Cond.selects RX0 yX0_stayOf yX0_stayOf, Cond.initialized RX0, Cond.code yX0_stayOf cX0_stayOf 2 (some .int), Cond.fieldLink RX0 9 "SailorCandles$Chapel" "stay" "[I", Cond.static yX2_at, Cond.initialized RX2, Cond.code yX2_at cX2_at 2 (some .int), Cond.static yX2_put, Cond.code yX2_put cX2_put 3 none, Cond.methodLink RX0 133 yX1_votesToLose, Cond.instanceMethod yX1_votesToLose, Cond.selects RX1 yX1_votesToLose yX1_votesToLose, Cond.initialized RX1, Cond.code yX1_votesToLose cX1_votesToLose 3 (some .int), Cond.methodLink RX1 57 Lib.Math.max.name, Cond.static Lib.Math.max.name, Cond.initialized "java/lang/Math", Cond.code Lib.Math.max.name Lib.Math.max.code 2 (some .int), Cond.methodLink RX1 50 yX1_votersFor, Cond.instanceMethod yX1_votersFor]
def wsX0_countNightOut_r2 : List Cond := [Cond.selects RX1 yX1_votersFor yX1_votersFor, Cond.code yX1_votersFor cX1_votersFor 2 (some .int), Cond.fieldLink RX1 21 "SailorCandles$Harbour" "voter" "[Z", Cond.methodLink RX1 46 yX1_countOfShip, Cond.instanceMethod yX1_countOfShip, Cond.selects RX1 yX1_countOfShip yX1_countOfShip, Cond.code yX1_countOfShip cX1_countOfShip 5 (some .int), Cond.fieldLink RX1 15 "SailorCandles$Harbour" "ship" "[I", Cond.methodLink RX1 54 yX1_votesAgainst, Cond.instanceMethod yX1_votesAgainst, Cond.selects RX1 yX1_votesAgainst yX1_votesAgainst, Cond.code yX1_votesAgainst cX1_votesAgainst 2 (some .int), Cond.fieldLink RX1 25 "SailorCandles$Harbour" "givenUp" "[Z", Cond.methodLink RX0 136 yX0_endWaiting, Cond.instanceMethod yX0_endWaiting, Cond.selects RX0 yX0_endWaiting yX0_endWaiting, Cond.code yX0_endWaiting cX0_endWaiting 4 none, Cond.fieldLink RX0 18 "SailorCandles$Chapel" "rung" "[Z", Cond.fieldLink RX0 28 "SailorCandles$Chapel" "sightingAge" "[I", Cond.fieldLink RX0 47 "SailorCandles$Chapel" "waxLeft" "I", Cond.fieldLink RX0 22 "SailorCandles$Chapel" "candle" "[I", Cond.static yX2_mark, Cond.code yX2_mark cX2_mark 3 none, Cond.methodLink RX0 75 yX0_placeOf]
def wsX0_countNightOut_r3 : List Cond := [Cond.static yX0_placeOf, Cond.code yX0_placeOf cX0_placeOf 2 (some .int), Cond.methodLink RX0 61 yX1_shipWith, Cond.instanceMethod yX1_shipWith, Cond.selects RX1 yX1_shipWith yX1_shipWith, Cond.code yX1_shipWith cX1_shipWith 2 (some .int)]
def wsX0_countNightOut : List Cond := .code yX0_countNightOut cX0_countNightOut 3 none :: ((wsX0_countNightOut_r1 ++ (wsX0_countNightOut_r2 ++ wsX0_countNightOut_r3)) ++ wsX00 ++ wsX10)
def wsX0_passNight_r1 : List Cond := [Cond.fieldLink RX0 43 "SailorCandles$Chapel" "nightsPassed" "I", Cond.methodLink RX0 101 yX0_ageSightings, Cond.instanceMethod yX0_ageSightings, Cond.selects RX0 yX0_ageSightings yX0_ageSightings, Cond.initialized RX0, Cond.code yX0_ageSightings cX0_ageSightings 2 none, Cond.fieldLink RX0 28 "SailorCandles$Chapel" "sightingAge" "[I", Cond.methodLink RX0 113 yX0_watcherAt, Cond.static yX0_watcherAt, Cond.code yX0_watcherAt cX0_watcherAt 1 (some .int), Cond.methodLink RX0 116 yX0_doubt, Cond.instanceMethod yX0_doubt, Cond.selects RX0 yX0_doubt yX0_doubt, Cond.code yX0_doubt cX0_doubt 2 none, Cond.fieldLink RX0 25 "SailorCandles$Chapel" "trust" "[I", Cond.methodLink RX0 120 Lib.Math.max.name, Cond.static Lib.Math.max.name, Cond.initialized "java/lang/Math", Cond.code Lib.Math.max.name Lib.Math.max.code 2 (some .int), Cond.static yX2_at, Cond.initialized RX2, Cond.code yX2_at cX2_at 2 (some .int), Cond.static yX2_put, Cond.code yX2_put cX2_put 3 none]
def wsX0_passNight_r2 : List Cond := [Cond.methodLink RX0 104 yX0_unringBells, Cond.instanceMethod yX0_unringBells, Cond.selects RX0 yX0_unringBells yX0_unringBells, Cond.code yX0_unringBells cX0_unringBells 2 none, Cond.fieldLink RX0 18 "SailorCandles$Chapel" "rung" "[Z", Cond.fieldLink RX0 50 "SailorCandles$Chapel" "unringings" "I", Cond.static yX2_is, Cond.code yX2_is cX2_is 2 (some .boolean), Cond.methodLink RX0 82 yX0_trustSum, Cond.instanceMethod yX0_trustSum, Cond.selects RX0 yX0_trustSum yX0_trustSum, Cond.code yX0_trustSum cX0_trustSum 4 (some .int), Cond.methodLink RX0 85 yX0_hasSighting, Cond.instanceMethod yX0_hasSighting, Cond.selects RX0 yX0_hasSighting yX0_hasSighting, Cond.code yX0_hasSighting cX0_hasSighting 4 (some .boolean), Cond.methodLink RX0 75 yX0_placeOf, Cond.static yX0_placeOf, Cond.code yX0_placeOf cX0_placeOf 2 (some .int), Cond.static yX2_mark, Cond.code yX2_mark cX2_mark 3 none, Cond.methodLink RX0 107 yX0_burnCandles, Cond.instanceMethod yX0_burnCandles, Cond.selects RX0 yX0_burnCandles yX0_burnCandles]
def wsX0_passNight_r3 : List Cond := [Cond.code yX0_burnCandles cX0_burnCandles 4 (some .int), Cond.fieldLink RX0 31 "SailorCandles$Chapel" "harbour" "LSailorCandles$Harbour;", Cond.fieldLink RX0 22 "SailorCandles$Chapel" "candle" "[I", Cond.methodLink RX0 61 yX1_shipWith, Cond.instanceMethod yX1_shipWith, Cond.selects RX1 yX1_shipWith yX1_shipWith, Cond.initialized RX1, Cond.code yX1_shipWith cX1_shipWith 2 (some .int), Cond.fieldLink RX1 15 "SailorCandles$Harbour" "ship" "[I", Cond.methodLink RX0 79 yX0_stayOf, Cond.instanceMethod yX0_stayOf, Cond.selects RX0 yX0_stayOf yX0_stayOf, Cond.code yX0_stayOf cX0_stayOf 2 (some .int), Cond.fieldLink RX0 9 "SailorCandles$Chapel" "stay" "[I", Cond.methodLink RX0 127 yX0_burnCandle, Cond.instanceMethod yX0_burnCandle, Cond.selects RX0 yX0_burnCandle yX0_burnCandle, Cond.code yX0_burnCandle cX0_burnCandle 3 none, Cond.methodLink RX0 67 yX0_lightCandle, Cond.instanceMethod yX0_lightCandle, Cond.selects RX0 yX0_lightCandle yX0_lightCandle, Cond.code yX0_lightCandle cX0_lightCandle 2 (some .boolean), Cond.fieldLink RX0 47 "SailorCandles$Chapel" "waxLeft" "I", Cond.methodLink RX0 110 yX0_countNightOut]
def wsX0_passNight_r4 : List Cond := [Cond.instanceMethod yX0_countNightOut, Cond.selects RX0 yX0_countNightOut yX0_countNightOut, Cond.code yX0_countNightOut cX0_countNightOut 3 none, Cond.fieldLink RX0 15 "SailorCandles$Chapel" "outFor" "[I", Cond.methodLink RX0 133 yX1_votesToLose, Cond.instanceMethod yX1_votesToLose, Cond.selects RX1 yX1_votesToLose yX1_votesToLose, Cond.code yX1_votesToLose cX1_votesToLose 3 (some .int), Cond.methodLink RX1 57 Lib.Math.max.name, Cond.methodLink RX1 50 yX1_votersFor, Cond.instanceMethod yX1_votersFor, Cond.selects RX1 yX1_votersFor yX1_votersFor, Cond.code yX1_votersFor cX1_votersFor 2 (some .int), Cond.fieldLink RX1 21 "SailorCandles$Harbour" "voter" "[Z", Cond.methodLink RX1 46 yX1_countOfShip, Cond.instanceMethod yX1_countOfShip, Cond.selects RX1 yX1_countOfShip yX1_countOfShip, Cond.code yX1_countOfShip cX1_countOfShip 5 (some .int), Cond.methodLink RX1 54 yX1_votesAgainst, Cond.instanceMethod yX1_votesAgainst, Cond.selects RX1 yX1_votesAgainst yX1_votesAgainst, Cond.code yX1_votesAgainst cX1_votesAgainst 2 (some .int), Cond.fieldLink RX1 25 "SailorCandles$Harbour" "givenUp" "[Z", Cond.methodLink RX0 136 yX0_endWaiting]
def wsX0_passNight_r5 : List Cond := [Cond.instanceMethod yX0_endWaiting, Cond.selects RX0 yX0_endWaiting yX0_endWaiting, Cond.code yX0_endWaiting cX0_endWaiting 4 none]
def wsX0_passNight : List Cond := .code yX0_passNight cX0_passNight 2 (some .int) :: ((wsX0_passNight_r1 ++ (wsX0_passNight_r2 ++ (wsX0_passNight_r3 ++ (wsX0_passNight_r4 ++ wsX0_passNight_r5)))) ++ wsX00 ++ wsX10)
def wsX0_passNights_r1 : List Cond := [Cond.methodLink RX0 97 yX0_passNight, Cond.instanceMethod yX0_passNight, Cond.selects RX0 yX0_passNight yX0_passNight, Cond.initialized RX0, Cond.code yX0_passNight cX0_passNight 2 (some .int), Cond.fieldLink RX0 43 "SailorCandles$Chapel" "nightsPassed" "I", Cond.methodLink RX0 101 yX0_ageSightings, Cond.instanceMethod yX0_ageSightings, Cond.selects RX0 yX0_ageSightings yX0_ageSightings, Cond.code yX0_ageSightings cX0_ageSightings 2 none, Cond.fieldLink RX0 28 "SailorCandles$Chapel" "sightingAge" "[I", Cond.methodLink RX0 113 yX0_watcherAt, Cond.static yX0_watcherAt, Cond.code yX0_watcherAt cX0_watcherAt 1 (some .int), Cond.methodLink RX0 116 yX0_doubt, Cond.instanceMethod yX0_doubt, Cond.selects RX0 yX0_doubt yX0_doubt, Cond.code yX0_doubt cX0_doubt 2 none, Cond.fieldLink RX0 25 "SailorCandles$Chapel" "trust" "[I", Cond.methodLink RX0 120 Lib.Math.max.name, Cond.static Lib.Math.max.name, Cond.initialized "java/lang/Math", Cond.code Lib.Math.max.name Lib.Math.max.code 2 (some .int), Cond.static yX2_at]
def wsX0_passNights_r2 : List Cond := [Cond.initialized RX2, Cond.code yX2_at cX2_at 2 (some .int), Cond.static yX2_put, Cond.code yX2_put cX2_put 3 none, Cond.methodLink RX0 104 yX0_unringBells, Cond.instanceMethod yX0_unringBells, Cond.selects RX0 yX0_unringBells yX0_unringBells, Cond.code yX0_unringBells cX0_unringBells 2 none, Cond.fieldLink RX0 18 "SailorCandles$Chapel" "rung" "[Z", Cond.fieldLink RX0 50 "SailorCandles$Chapel" "unringings" "I", Cond.static yX2_is, Cond.code yX2_is cX2_is 2 (some .boolean), Cond.methodLink RX0 82 yX0_trustSum, Cond.instanceMethod yX0_trustSum, Cond.selects RX0 yX0_trustSum yX0_trustSum, Cond.code yX0_trustSum cX0_trustSum 4 (some .int), Cond.methodLink RX0 85 yX0_hasSighting, Cond.instanceMethod yX0_hasSighting, Cond.selects RX0 yX0_hasSighting yX0_hasSighting, Cond.code yX0_hasSighting cX0_hasSighting 4 (some .boolean), Cond.methodLink RX0 75 yX0_placeOf, Cond.static yX0_placeOf, Cond.code yX0_placeOf cX0_placeOf 2 (some .int), Cond.static yX2_mark]
def wsX0_passNights_r3 : List Cond := [Cond.code yX2_mark cX2_mark 3 none, Cond.methodLink RX0 107 yX0_burnCandles, Cond.instanceMethod yX0_burnCandles, Cond.selects RX0 yX0_burnCandles yX0_burnCandles, Cond.code yX0_burnCandles cX0_burnCandles 4 (some .int), Cond.fieldLink RX0 31 "SailorCandles$Chapel" "harbour" "LSailorCandles$Harbour;", Cond.fieldLink RX0 22 "SailorCandles$Chapel" "candle" "[I", Cond.methodLink RX0 61 yX1_shipWith, Cond.instanceMethod yX1_shipWith, Cond.selects RX1 yX1_shipWith yX1_shipWith, Cond.initialized RX1, Cond.code yX1_shipWith cX1_shipWith 2 (some .int), Cond.fieldLink RX1 15 "SailorCandles$Harbour" "ship" "[I", Cond.methodLink RX0 79 yX0_stayOf, Cond.instanceMethod yX0_stayOf, Cond.selects RX0 yX0_stayOf yX0_stayOf, Cond.code yX0_stayOf cX0_stayOf 2 (some .int), Cond.fieldLink RX0 9 "SailorCandles$Chapel" "stay" "[I", Cond.methodLink RX0 127 yX0_burnCandle, Cond.instanceMethod yX0_burnCandle, Cond.selects RX0 yX0_burnCandle yX0_burnCandle, Cond.code yX0_burnCandle cX0_burnCandle 3 none, Cond.methodLink RX0 67 yX0_lightCandle, Cond.instanceMethod yX0_lightCandle]
def wsX0_passNights_r4 : List Cond := [Cond.selects RX0 yX0_lightCandle yX0_lightCandle, Cond.code yX0_lightCandle cX0_lightCandle 2 (some .boolean), Cond.fieldLink RX0 47 "SailorCandles$Chapel" "waxLeft" "I", Cond.methodLink RX0 110 yX0_countNightOut, Cond.instanceMethod yX0_countNightOut, Cond.selects RX0 yX0_countNightOut yX0_countNightOut, Cond.code yX0_countNightOut cX0_countNightOut 3 none, Cond.fieldLink RX0 15 "SailorCandles$Chapel" "outFor" "[I", Cond.methodLink RX0 133 yX1_votesToLose, Cond.instanceMethod yX1_votesToLose, Cond.selects RX1 yX1_votesToLose yX1_votesToLose, Cond.code yX1_votesToLose cX1_votesToLose 3 (some .int), Cond.methodLink RX1 57 Lib.Math.max.name, Cond.methodLink RX1 50 yX1_votersFor, Cond.instanceMethod yX1_votersFor, Cond.selects RX1 yX1_votersFor yX1_votersFor, Cond.code yX1_votersFor cX1_votersFor 2 (some .int), Cond.fieldLink RX1 21 "SailorCandles$Harbour" "voter" "[Z", Cond.methodLink RX1 46 yX1_countOfShip, Cond.instanceMethod yX1_countOfShip, Cond.selects RX1 yX1_countOfShip yX1_countOfShip, Cond.code yX1_countOfShip cX1_countOfShip 5 (some .int), Cond.methodLink RX1 54 yX1_votesAgainst, Cond.instanceMethod yX1_votesAgainst]
def wsX0_passNights_r5 : List Cond := [Cond.selects RX1 yX1_votesAgainst yX1_votesAgainst, Cond.code yX1_votesAgainst cX1_votesAgainst 2 (some .int), Cond.fieldLink RX1 25 "SailorCandles$Harbour" "givenUp" "[Z", Cond.methodLink RX0 136 yX0_endWaiting, Cond.instanceMethod yX0_endWaiting, Cond.selects RX0 yX0_endWaiting yX0_endWaiting, Cond.code yX0_endWaiting cX0_endWaiting 4 none]
def wsX0_passNights : List Cond := .code yX0_passNights cX0_passNights 4 (some .int) :: ((wsX0_passNights_r1 ++ (wsX0_passNights_r2 ++ (wsX0_passNights_r3 ++ (wsX0_passNights_r4 ++ wsX0_passNights_r5)))) ++ wsX00 ++ wsX10)
def wsX1_init : List Cond := .code yX1_init cX1_init 2 none :: ([.methodLink RX1 3 objectInit, .instanceMethod objectInit, .code objectInit ⟨#[0xb1]⟩ 1 none, .arrayClass .int, .fieldLink RX1 9 "SailorCandles$Harbour" "masts" "[I", .fieldLink RX1 15 "SailorCandles$Harbour" "ship" "[I", .fieldLink RX1 18 "SailorCandles$Harbour" "mast" "[I", .arrayClass .boolean, .fieldLink RX1 21 "SailorCandles$Harbour" "voter" "[Z", .fieldLink RX1 25 "SailorCandles$Harbour" "givenUp" "[Z"] ++ wsX10)
def wsX1_enterShip : List Cond := .code yX1_enterShip cX1_enterShip 3 (some .int) :: ([.fieldLink RX1 28 "SailorCandles$Harbour" "shipCount" "I", .fieldLink RX1 9 "SailorCandles$Harbour" "masts" "[I", .static yX2_put, .initialized RX2, .code yX2_put cX2_put 3 none] ++ wsX10)
def wsX1_enterSailor : List Cond := .code yX1_enterSailor cX1_enterSailor 5 (some .int) :: ([.fieldLink RX1 36 "SailorCandles$Harbour" "sailorCount" "I", .fieldLink RX1 15 "SailorCandles$Harbour" "ship" "[I", .fieldLink RX1 18 "SailorCandles$Harbour" "mast" "[I", .fieldLink RX1 21 "SailorCandles$Harbour" "voter" "[Z", .static yX2_put, .initialized RX2, .code yX2_put cX2_put 3 none, .static yX2_mark, .code yX2_mark cX2_mark 3 none] ++ wsX10)
def wsX1_enterWatcher : List Cond := .code yX1_enterWatcher cX1_enterWatcher 2 (some .int) :: ([.fieldLink RX1 43 "SailorCandles$Harbour" "watcherCount" "I"] ++ wsX10)
def wsX1_clearVotes : List Cond := .code yX1_clearVotes cX1_clearVotes 3 none :: ([.fieldLink RX1 15 "SailorCandles$Harbour" "ship" "[I", .fieldLink RX1 25 "SailorCandles$Harbour" "givenUp" "[Z"] ++ wsX10)
def wsX2_init_r1 : List Cond := [Cond.methodLink RX2 1 objectInit, Cond.instanceMethod objectInit, Cond.code objectInit ⟨#[0xb1]⟩ 1 none, Cond.classLink RX2 7 RX1, Cond.instantiable RX1 8, Cond.initialized RX1, Cond.fieldLink RX2 10 "SailorCandles" "harbour" "LSailorCandles$Harbour;", Cond.classLink RX2 16 RX0, Cond.instantiable RX0 10, Cond.initialized RX0, Cond.fieldLink RX2 21 "SailorCandles" "now" "LSailorCandles$Chapel;", Cond.fieldLink RX2 25 "SailorCandles" "trial" "LSailorCandles$Chapel;", Cond.methodLink RX2 9 yX1_init, Cond.instanceMethod yX1_init, Cond.code yX1_init cX1_init 2 none, Cond.methodLink RX1 3 objectInit, Cond.arrayClass .int, Cond.fieldLink RX1 9 "SailorCandles$Harbour" "masts" "[I", Cond.fieldLink RX1 15 "SailorCandles$Harbour" "ship" "[I", Cond.fieldLink RX1 18 "SailorCandles$Harbour" "mast" "[I", Cond.arrayClass .boolean, Cond.fieldLink RX1 21 "SailorCandles$Harbour" "voter" "[Z", Cond.fieldLink RX1 25 "SailorCandles$Harbour" "givenUp" "[Z", Cond.methodLink RX2 18 yX0_init]
def wsX2_init_r2 : List Cond := [Cond.instanceMethod yX0_init, Cond.code yX0_init cX0_init 3 none, Cond.methodLink RX0 3 objectInit, Cond.fieldLink RX0 9 "SailorCandles$Chapel" "stay" "[I", Cond.fieldLink RX0 15 "SailorCandles$Chapel" "outFor" "[I", Cond.fieldLink RX0 18 "SailorCandles$Chapel" "rung" "[Z", Cond.fieldLink RX0 22 "SailorCandles$Chapel" "candle" "[I", Cond.fieldLink RX0 25 "SailorCandles$Chapel" "trust" "[I", Cond.fieldLink RX0 28 "SailorCandles$Chapel" "sightingAge" "[I", Cond.fieldLink RX0 31 "SailorCandles$Chapel" "harbour" "LSailorCandles$Harbour;"]
def wsX2_init : List Cond := .code yX2_init cX2_init 2 none :: ((wsX2_init_r1 ++ wsX2_init_r2) ++ wsX10 ++ wsX20 ++ wsX00)
def wsX2_addShip : List Cond := .code yX2_addShip cX2_addShip 2 (some .int) :: ([.classLink RX2 28 "java/lang/IllegalArgumentException", .initialized "java/lang/IllegalArgumentException", .classLink RX2 39 "java/lang/IllegalStateException", .initialized "java/lang/IllegalStateException", .fieldLink RX2 10 "SailorCandles" "harbour" "LSailorCandles$Harbour;", .methodLink RX2 44 yX1_enterShip, .instanceMethod yX1_enterShip, .selects RX1 yX1_enterShip yX1_enterShip, .initialized RX1, .code yX1_enterShip cX1_enterShip 3 (some .int), .fieldLink RX1 28 "SailorCandles$Harbour" "shipCount" "I", .fieldLink RX1 9 "SailorCandles$Harbour" "masts" "[I", .static yX2_put, .initialized RX2, .code yX2_put cX2_put 3 none] ++ wsX20 ++ wsX10 ++ (vx_atS RX2 32 "java/lang/IllegalArgumentException" ["java/lang/RuntimeException", "java/lang/Exception"]).filter goodWord ++ (vx_atS RX2 43 "java/lang/IllegalStateException" ["java/lang/RuntimeException", "java/lang/Exception"]).filter goodWord)
def wsX2_needShip : List Cond := .code yX2_needShip cX2_needShip 2 none :: ([.classLink RX2 60 "java/lang/IndexOutOfBoundsException", .initialized "java/lang/IndexOutOfBoundsException", .fieldLink RX2 10 "SailorCandles" "harbour" "LSailorCandles$Harbour;"] ++ wsX20 ++ wsX10 ++ (vx_atS RX2 64 "java/lang/IndexOutOfBoundsException" ["java/lang/RuntimeException", "java/lang/Exception"]).filter goodWord)
def wsX2_addSailor_r1 : List Cond := [Cond.classLink RX2 60 "java/lang/IndexOutOfBoundsException", Cond.initialized "java/lang/IndexOutOfBoundsException", Cond.classLink RX2 39 "java/lang/IllegalStateException", Cond.initialized "java/lang/IllegalStateException", Cond.fieldLink RX2 10 "SailorCandles" "harbour" "LSailorCandles$Harbour;", Cond.fieldLink RX2 21 "SailorCandles" "now" "LSailorCandles$Chapel;", Cond.methodLink RX2 48 yX2_needShip, Cond.instanceMethod yX2_needShip, Cond.selects RX2 yX2_needShip yX2_needShip, Cond.initialized RX2, Cond.code yX2_needShip cX2_needShip 2 none, Cond.methodLink RX2 56 yX2_at, Cond.static yX2_at, Cond.code yX2_at cX2_at 2 (some .int), Cond.methodLink RX2 65 yX0_stayOf, Cond.instanceMethod yX0_stayOf, Cond.selects RX0 yX0_stayOf yX0_stayOf, Cond.initialized RX0, Cond.code yX0_stayOf cX0_stayOf 2 (some .int), Cond.fieldLink RX0 9 "SailorCandles$Chapel" "stay" "[I", Cond.methodLink RX2 75 yX1_enterSailor, Cond.instanceMethod yX1_enterSailor, Cond.selects RX1 yX1_enterSailor yX1_enterSailor, Cond.initialized RX1]
def wsX2_addSailor_r2 : List Cond := [Cond.code yX1_enterSailor cX1_enterSailor 5 (some .int), Cond.fieldLink RX1 36 "SailorCandles$Harbour" "sailorCount" "I", Cond.fieldLink RX1 15 "SailorCandles$Harbour" "ship" "[I", Cond.fieldLink RX1 18 "SailorCandles$Harbour" "mast" "[I", Cond.fieldLink RX1 21 "SailorCandles$Harbour" "voter" "[Z", Cond.static yX2_put, Cond.code yX2_put cX2_put 3 none, Cond.static yX2_mark, Cond.code yX2_mark cX2_mark 3 none]
def wsX2_addSailor : List Cond := .code yX2_addSailor cX2_addSailor 4 (some .int) :: ((wsX2_addSailor_r1 ++ wsX2_addSailor_r2) ++ wsX20 ++ wsX10 ++ wsX00 ++ (vx_atS RX2 64 "java/lang/IndexOutOfBoundsException" ["java/lang/RuntimeException", "java/lang/Exception"]).filter goodWord ++ (vx_atS RX2 43 "java/lang/IllegalStateException" ["java/lang/RuntimeException", "java/lang/Exception"]).filter goodWord)
def wsX2_addWatcher : List Cond := .code yX2_addWatcher cX2_addWatcher 2 (some .int) :: ([.classLink RX2 39 "java/lang/IllegalStateException", .initialized "java/lang/IllegalStateException", .fieldLink RX2 10 "SailorCandles" "harbour" "LSailorCandles$Harbour;", .fieldLink RX2 21 "SailorCandles" "now" "LSailorCandles$Chapel;", .methodLink RX2 84 yX1_enterWatcher, .instanceMethod yX1_enterWatcher, .selects RX1 yX1_enterWatcher yX1_enterWatcher, .initialized RX1, .code yX1_enterWatcher cX1_enterWatcher 2 (some .int), .fieldLink RX1 43 "SailorCandles$Harbour" "watcherCount" "I", .methodLink RX2 91 yX2_put, .static yX2_put, .initialized RX2, .code yX2_put cX2_put 3 none] ++ wsX20 ++ wsX10 ++ wsX00 ++ (vx_atS RX2 43 "java/lang/IllegalStateException" ["java/lang/RuntimeException", "java/lang/Exception"]).filter goodWord)
def wsX2_buyWax : List Cond := .code yX2_buyWax cX2_buyWax 2 (some .int) :: ([.classLink RX2 28 "java/lang/IllegalArgumentException", .initialized "java/lang/IllegalArgumentException", .fieldLink RX2 21 "SailorCandles" "now" "LSailorCandles$Chapel;"] ++ wsX20 ++ wsX00 ++ (vx_atS RX2 32 "java/lang/IllegalArgumentException" ["java/lang/RuntimeException", "java/lang/Exception"]).filter goodWord)
def wsX2_sail_r1 : List Cond := [Cond.classLink RX2 39 "java/lang/IllegalStateException", Cond.initialized "java/lang/IllegalStateException", Cond.fieldLink RX2 21 "SailorCandles" "now" "LSailorCandles$Chapel;", Cond.fieldLink RX2 10 "SailorCandles" "harbour" "LSailorCandles$Harbour;", Cond.methodLink RX2 48 yX2_needShip, Cond.instanceMethod yX2_needShip, Cond.selects RX2 yX2_needShip yX2_needShip, Cond.initialized RX2, Cond.code yX2_needShip cX2_needShip 2 none, Cond.classLink RX2 60 "java/lang/IndexOutOfBoundsException", Cond.initialized "java/lang/IndexOutOfBoundsException", Cond.methodLink RX2 65 yX0_stayOf, Cond.instanceMethod yX0_stayOf, Cond.selects RX0 yX0_stayOf yX0_stayOf, Cond.initialized RX0, Cond.code yX0_stayOf cX0_stayOf 2 (some .int), Cond.fieldLink RX0 9 "SailorCandles$Chapel" "stay" "[I", Cond.static yX2_at, Cond.code yX2_at cX2_at 2 (some .int), Cond.methodLink RX2 100 yX1_clearVotes, Cond.instanceMethod yX1_clearVotes, Cond.selects RX1 yX1_clearVotes yX1_clearVotes, Cond.initialized RX1, Cond.code yX1_clearVotes cX1_clearVotes 3 none]
def wsX2_sail_r2 : List Cond := [Cond.fieldLink RX1 15 "SailorCandles$Harbour" "ship" "[I", Cond.fieldLink RX1 25 "SailorCandles$Harbour" "givenUp" "[Z", Cond.methodLink RX2 103 yX0_sendOut, Cond.instanceMethod yX0_sendOut, Cond.selects RX0 yX0_sendOut yX0_sendOut, Cond.code yX0_sendOut cX0_sendOut 4 (some .int), Cond.fieldLink RX0 15 "SailorCandles$Chapel" "outFor" "[I", Cond.fieldLink RX0 31 "SailorCandles$Chapel" "harbour" "LSailorCandles$Harbour;", Cond.static yX2_put, Cond.code yX2_put cX2_put 3 none, Cond.methodLink RX0 61 yX1_shipWith, Cond.instanceMethod yX1_shipWith, Cond.selects RX1 yX1_shipWith yX1_shipWith, Cond.code yX1_shipWith cX1_shipWith 2 (some .int), Cond.methodLink RX0 67 yX0_lightCandle, Cond.instanceMethod yX0_lightCandle, Cond.selects RX0 yX0_lightCandle yX0_lightCandle, Cond.code yX0_lightCandle cX0_lightCandle 2 (some .boolean), Cond.fieldLink RX0 47 "SailorCandles$Chapel" "waxLeft" "I", Cond.fieldLink RX0 22 "SailorCandles$Chapel" "candle" "[I"]
def wsX2_sail : List Cond := .code yX2_sail cX2_sail 2 (some .int) :: ((wsX2_sail_r1 ++ wsX2_sail_r2) ++ wsX20 ++ wsX10 ++ wsX00 ++ (vx_atS RX2 43 "java/lang/IllegalStateException" ["java/lang/RuntimeException", "java/lang/Exception"]).filter goodWord ++ (vx_atS RX2 64 "java/lang/IndexOutOfBoundsException" ["java/lang/RuntimeException", "java/lang/Exception"]).filter goodWord)
def wsX2_comeHome_r1 : List Cond := [Cond.classLink RX2 39 "java/lang/IllegalStateException", Cond.initialized "java/lang/IllegalStateException", Cond.fieldLink RX2 21 "SailorCandles" "now" "LSailorCandles$Chapel;", Cond.methodLink RX2 48 yX2_needShip, Cond.instanceMethod yX2_needShip, Cond.selects RX2 yX2_needShip yX2_needShip, Cond.initialized RX2, Cond.code yX2_needShip cX2_needShip 2 none, Cond.classLink RX2 60 "java/lang/IndexOutOfBoundsException", Cond.initialized "java/lang/IndexOutOfBoundsException", Cond.fieldLink RX2 10 "SailorCandles" "harbour" "LSailorCandles$Harbour;", Cond.methodLink RX2 65 yX0_stayOf, Cond.instanceMethod yX0_stayOf, Cond.selects RX0 yX0_stayOf yX0_stayOf, Cond.initialized RX0, Cond.code yX0_stayOf cX0_stayOf 2 (some .int), Cond.fieldLink RX0 9 "SailorCandles$Chapel" "stay" "[I", Cond.static yX2_at, Cond.code yX2_at cX2_at 2 (some .int), Cond.methodLink RX2 108 yX0_believeWatchersOf, Cond.instanceMethod yX0_believeWatchersOf, Cond.selects RX0 yX0_believeWatchersOf yX0_believeWatchersOf, Cond.code yX0_believeWatchersOf cX0_believeWatchersOf 3 none, Cond.fieldLink RX0 25 "SailorCandles$Chapel" "trust" "[I"]
def wsX2_comeHome_r2 : List Cond := [Cond.methodLink RX0 89 Lib.Math.min.name, Cond.static Lib.Math.min.name, Cond.initialized "java/lang/Math", Cond.code Lib.Math.min.name Lib.Math.min.code 2 (some .int), Cond.methodLink RX0 85 yX0_hasSighting, Cond.instanceMethod yX0_hasSighting, Cond.selects RX0 yX0_hasSighting yX0_hasSighting, Cond.code yX0_hasSighting cX0_hasSighting 4 (some .boolean), Cond.fieldLink RX0 28 "SailorCandles$Chapel" "sightingAge" "[I", Cond.methodLink RX0 75 yX0_placeOf, Cond.static yX0_placeOf, Cond.code yX0_placeOf cX0_placeOf 2 (some .int), Cond.static yX2_put, Cond.code yX2_put cX2_put 3 none, Cond.methodLink RX2 111 yX0_endWaiting, Cond.instanceMethod yX0_endWaiting, Cond.selects RX0 yX0_endWaiting yX0_endWaiting, Cond.code yX0_endWaiting cX0_endWaiting 4 none, Cond.fieldLink RX0 18 "SailorCandles$Chapel" "rung" "[Z", Cond.fieldLink RX0 31 "SailorCandles$Chapel" "harbour" "LSailorCandles$Harbour;", Cond.fieldLink RX0 47 "SailorCandles$Chapel" "waxLeft" "I", Cond.fieldLink RX0 22 "SailorCandles$Chapel" "candle" "[I", Cond.static yX2_mark, Cond.code yX2_mark cX2_mark 3 none]
def wsX2_comeHome_r3 : List Cond := [Cond.methodLink RX0 61 yX1_shipWith, Cond.instanceMethod yX1_shipWith, Cond.selects RX1 yX1_shipWith yX1_shipWith, Cond.initialized RX1, Cond.code yX1_shipWith cX1_shipWith 2 (some .int), Cond.fieldLink RX1 15 "SailorCandles$Harbour" "ship" "[I", Cond.methodLink RX2 56 yX2_at]
def wsX2_comeHome : List Cond := .code yX2_comeHome cX2_comeHome 2 (some .int) :: ((wsX2_comeHome_r1 ++ (wsX2_comeHome_r2 ++ wsX2_comeHome_r3)) ++ wsX20 ++ wsX00 ++ wsX10 ++ (vx_atS RX2 43 "java/lang/IllegalStateException" ["java/lang/RuntimeException", "java/lang/Exception"]).filter goodWord ++ (vx_atS RX2 64 "java/lang/IndexOutOfBoundsException" ["java/lang/RuntimeException", "java/lang/Exception"]).filter goodWord)
def wsX2_needWatcher : List Cond := .code yX2_needWatcher cX2_needWatcher 2 none :: ([.classLink RX2 60 "java/lang/IndexOutOfBoundsException", .initialized "java/lang/IndexOutOfBoundsException", .fieldLink RX2 10 "SailorCandles" "harbour" "LSailorCandles$Harbour;"] ++ wsX20 ++ wsX10 ++ (vx_atS RX2 64 "java/lang/IndexOutOfBoundsException" ["java/lang/RuntimeException", "java/lang/Exception"]).filter goodWord)
def wsX2_needNewSighting_r1 : List Cond := [Cond.classLink RX2 39 "java/lang/IllegalStateException", Cond.initialized "java/lang/IllegalStateException", Cond.fieldLink RX2 21 "SailorCandles" "now" "LSailorCandles$Chapel;", Cond.methodLink RX2 180 yX2_needWatcher, Cond.instanceMethod yX2_needWatcher, Cond.selects RX2 yX2_needWatcher yX2_needWatcher, Cond.initialized RX2, Cond.code yX2_needWatcher cX2_needWatcher 2 none, Cond.classLink RX2 60 "java/lang/IndexOutOfBoundsException", Cond.initialized "java/lang/IndexOutOfBoundsException", Cond.fieldLink RX2 10 "SailorCandles" "harbour" "LSailorCandles$Harbour;", Cond.methodLink RX2 48 yX2_needShip, Cond.instanceMethod yX2_needShip, Cond.selects RX2 yX2_needShip yX2_needShip, Cond.code yX2_needShip cX2_needShip 2 none, Cond.methodLink RX2 65 yX0_stayOf, Cond.instanceMethod yX0_stayOf, Cond.selects RX0 yX0_stayOf yX0_stayOf, Cond.initialized RX0, Cond.code yX0_stayOf cX0_stayOf 2 (some .int), Cond.fieldLink RX0 9 "SailorCandles$Chapel" "stay" "[I", Cond.static yX2_at, Cond.code yX2_at cX2_at 2 (some .int), Cond.methodLink RX2 235 yX0_hasSighting]
def wsX2_needNewSighting_r2 : List Cond := [Cond.instanceMethod yX0_hasSighting, Cond.selects RX0 yX0_hasSighting yX0_hasSighting, Cond.code yX0_hasSighting cX0_hasSighting 4 (some .boolean), Cond.fieldLink RX0 28 "SailorCandles$Chapel" "sightingAge" "[I", Cond.methodLink RX0 75 yX0_placeOf, Cond.static yX0_placeOf, Cond.code yX0_placeOf cX0_placeOf 2 (some .int)]
def wsX2_needNewSighting : List Cond := .code yX2_needNewSighting cX2_needNewSighting 3 none :: ((wsX2_needNewSighting_r1 ++ wsX2_needNewSighting_r2) ++ wsX20 ++ wsX10 ++ wsX00 ++ (vx_atS RX2 43 "java/lang/IllegalStateException" ["java/lang/RuntimeException", "java/lang/Exception"]).filter goodWord ++ (vx_atS RX2 64 "java/lang/IndexOutOfBoundsException" ["java/lang/RuntimeException", "java/lang/Exception"]).filter goodWord)
def wsX2_sight_r1 : List Cond := [Cond.fieldLink RX2 21 "SailorCandles" "now" "LSailorCandles$Chapel;", Cond.methodLink RX2 118 yX2_needNewSighting, Cond.instanceMethod yX2_needNewSighting, Cond.selects RX2 yX2_needNewSighting yX2_needNewSighting, Cond.initialized RX2, Cond.code yX2_needNewSighting cX2_needNewSighting 3 none, Cond.classLink RX2 39 "java/lang/IllegalStateException", Cond.initialized "java/lang/IllegalStateException", Cond.methodLink RX2 180 yX2_needWatcher, Cond.instanceMethod yX2_needWatcher, Cond.selects RX2 yX2_needWatcher yX2_needWatcher, Cond.code yX2_needWatcher cX2_needWatcher 2 none, Cond.classLink RX2 60 "java/lang/IndexOutOfBoundsException", Cond.initialized "java/lang/IndexOutOfBoundsException", Cond.fieldLink RX2 10 "SailorCandles" "harbour" "LSailorCandles$Harbour;", Cond.methodLink RX2 48 yX2_needShip, Cond.instanceMethod yX2_needShip, Cond.selects RX2 yX2_needShip yX2_needShip, Cond.code yX2_needShip cX2_needShip 2 none, Cond.methodLink RX2 65 yX0_stayOf, Cond.instanceMethod yX0_stayOf, Cond.selects RX0 yX0_stayOf yX0_stayOf, Cond.initialized RX0, Cond.code yX0_stayOf cX0_stayOf 2 (some .int)]
def wsX2_sight_r2 : List Cond := [Cond.fieldLink RX0 9 "SailorCandles$Chapel" "stay" "[I", Cond.static yX2_at, Cond.code yX2_at cX2_at 2 (some .int), Cond.methodLink RX2 235 yX0_hasSighting, Cond.instanceMethod yX0_hasSighting, Cond.selects RX0 yX0_hasSighting yX0_hasSighting, Cond.code yX0_hasSighting cX0_hasSighting 4 (some .boolean), Cond.fieldLink RX0 28 "SailorCandles$Chapel" "sightingAge" "[I", Cond.methodLink RX0 75 yX0_placeOf, Cond.static yX0_placeOf, Cond.code yX0_placeOf cX0_placeOf 2 (some .int), Cond.methodLink RX2 121 yX0_enterSighting, Cond.instanceMethod yX0_enterSighting, Cond.selects RX0 yX0_enterSighting yX0_enterSighting, Cond.code yX0_enterSighting cX0_enterSighting 3 none, Cond.fieldLink RX0 18 "SailorCandles$Chapel" "rung" "[Z", Cond.static yX2_put, Cond.code yX2_put cX2_put 3 none, Cond.methodLink RX0 82 yX0_trustSum, Cond.instanceMethod yX0_trustSum, Cond.selects RX0 yX0_trustSum yX0_trustSum, Cond.code yX0_trustSum cX0_trustSum 4 (some .int), Cond.fieldLink RX0 25 "SailorCandles$Chapel" "trust" "[I", Cond.methodLink RX0 85 yX0_hasSighting]
def wsX2_sight_r3 : List Cond := [Cond.static yX2_mark, Cond.code yX2_mark cX2_mark 3 none, Cond.methodLink RX2 128 yX2_is, Cond.static yX2_is, Cond.code yX2_is cX2_is 2 (some .boolean)]
def wsX2_sight : List Cond := .code yX2_sight cX2_sight 3 (some .boolean) :: ((wsX2_sight_r1 ++ (wsX2_sight_r2 ++ wsX2_sight_r3)) ++ wsX20 ++ wsX00 ++ wsX10 ++ (vx_atS RX2 43 "java/lang/IllegalStateException" ["java/lang/RuntimeException", "java/lang/Exception"]).filter goodWord ++ (vx_atS RX2 64 "java/lang/IndexOutOfBoundsException" ["java/lang/RuntimeException", "java/lang/Exception"]).filter goodWord)
def wsX2_needSailor : List Cond := .code yX2_needSailor cX2_needSailor 2 none :: ([.classLink RX2 60 "java/lang/IndexOutOfBoundsException", .initialized "java/lang/IndexOutOfBoundsException", .fieldLink RX2 10 "SailorCandles" "harbour" "LSailorCandles$Harbour;"] ++ wsX20 ++ wsX10 ++ (vx_atS RX2 64 "java/lang/IndexOutOfBoundsException" ["java/lang/RuntimeException", "java/lang/Exception"]).filter goodWord)
def wsX2_vote_r1 : List Cond := [Cond.classLink RX2 39 "java/lang/IllegalStateException", Cond.initialized "java/lang/IllegalStateException", Cond.fieldLink RX2 10 "SailorCandles" "harbour" "LSailorCandles$Harbour;", Cond.fieldLink RX2 21 "SailorCandles" "now" "LSailorCandles$Chapel;", Cond.methodLink RX2 132 yX2_needSailor, Cond.instanceMethod yX2_needSailor, Cond.selects RX2 yX2_needSailor yX2_needSailor, Cond.initialized RX2, Cond.code yX2_needSailor cX2_needSailor 2 none, Cond.classLink RX2 60 "java/lang/IndexOutOfBoundsException", Cond.initialized "java/lang/IndexOutOfBoundsException", Cond.methodLink RX2 128 yX2_is, Cond.static yX2_is, Cond.code yX2_is cX2_is 2 (some .boolean), Cond.methodLink RX2 140 yX1_shipWith, Cond.instanceMethod yX1_shipWith, Cond.selects RX1 yX1_shipWith yX1_shipWith, Cond.initialized RX1, Cond.code yX1_shipWith cX1_shipWith 2 (some .int), Cond.fieldLink RX1 15 "SailorCandles$Harbour" "ship" "[I", Cond.methodLink RX2 65 yX0_stayOf, Cond.instanceMethod yX0_stayOf, Cond.selects RX0 yX0_stayOf yX0_stayOf, Cond.initialized RX0]
def wsX2_vote_r2 : List Cond := [Cond.code yX0_stayOf cX0_stayOf 2 (some .int), Cond.fieldLink RX0 9 "SailorCandles$Chapel" "stay" "[I", Cond.static yX2_at, Cond.code yX2_at cX2_at 2 (some .int), Cond.methodLink RX2 148 yX2_mark, Cond.static yX2_mark, Cond.code yX2_mark cX2_mark 3 none, Cond.methodLink RX2 152 yX1_votesAgainst, Cond.instanceMethod yX1_votesAgainst, Cond.selects RX1 yX1_votesAgainst yX1_votesAgainst, Cond.code yX1_votesAgainst cX1_votesAgainst 2 (some .int), Cond.fieldLink RX1 25 "SailorCandles$Harbour" "givenUp" "[Z", Cond.methodLink RX1 46 yX1_countOfShip, Cond.instanceMethod yX1_countOfShip, Cond.selects RX1 yX1_countOfShip yX1_countOfShip, Cond.code yX1_countOfShip cX1_countOfShip 5 (some .int)]
def wsX2_vote : List Cond := .code yX2_vote cX2_vote 4 (some .int) :: ((wsX2_vote_r1 ++ wsX2_vote_r2) ++ wsX20 ++ wsX10 ++ wsX00 ++ (vx_atS RX2 43 "java/lang/IllegalStateException" ["java/lang/RuntimeException", "java/lang/Exception"]).filter goodWord ++ (vx_atS RX2 64 "java/lang/IndexOutOfBoundsException" ["java/lang/RuntimeException", "java/lang/Exception"]).filter goodWord)
def wsX2_needNights : List Cond := .code yX2_needNights cX2_needNights 2 none :: ([.classLink RX2 28 "java/lang/IllegalArgumentException", .initialized "java/lang/IllegalArgumentException"] ++ (vx_atS RX2 32 "java/lang/IllegalArgumentException" ["java/lang/RuntimeException", "java/lang/Exception"]).filter goodWord)
def wsX2_burnNights_r1 : List Cond := [Cond.fieldLink RX2 21 "SailorCandles" "now" "LSailorCandles$Chapel;", Cond.methodLink RX2 155 yX2_needNights, Cond.static yX2_needNights, Cond.initialized RX2, Cond.code yX2_needNights cX2_needNights 2 none, Cond.classLink RX2 28 "java/lang/IllegalArgumentException", Cond.initialized "java/lang/IllegalArgumentException", Cond.methodLink RX2 158 yX0_passNights, Cond.instanceMethod yX0_passNights, Cond.selects RX0 yX0_passNights yX0_passNights, Cond.initialized RX0, Cond.code yX0_passNights cX0_passNights 4 (some .int), Cond.methodLink RX0 97 yX0_passNight, Cond.instanceMethod yX0_passNight, Cond.selects RX0 yX0_passNight yX0_passNight, Cond.code yX0_passNight cX0_passNight 2 (some .int), Cond.fieldLink RX0 43 "SailorCandles$Chapel" "nightsPassed" "I", Cond.methodLink RX0 101 yX0_ageSightings, Cond.instanceMethod yX0_ageSightings, Cond.selects RX0 yX0_ageSightings yX0_ageSightings, Cond.code yX0_ageSightings cX0_ageSightings 2 none, Cond.fieldLink RX0 28 "SailorCandles$Chapel" "sightingAge" "[I", Cond.methodLink RX0 113 yX0_watcherAt, Cond.static yX0_watcherAt]
def wsX2_burnNights_r2 : List Cond := [Cond.code yX0_watcherAt cX0_watcherAt 1 (some .int), Cond.methodLink RX0 116 yX0_doubt, Cond.instanceMethod yX0_doubt, Cond.selects RX0 yX0_doubt yX0_doubt, Cond.code yX0_doubt cX0_doubt 2 none, Cond.fieldLink RX0 25 "SailorCandles$Chapel" "trust" "[I", Cond.methodLink RX0 120 Lib.Math.max.name, Cond.static Lib.Math.max.name, Cond.initialized "java/lang/Math", Cond.code Lib.Math.max.name Lib.Math.max.code 2 (some .int), Cond.static yX2_at, Cond.code yX2_at cX2_at 2 (some .int), Cond.static yX2_put, Cond.code yX2_put cX2_put 3 none, Cond.methodLink RX0 104 yX0_unringBells, Cond.instanceMethod yX0_unringBells, Cond.selects RX0 yX0_unringBells yX0_unringBells, Cond.code yX0_unringBells cX0_unringBells 2 none, Cond.fieldLink RX0 18 "SailorCandles$Chapel" "rung" "[Z", Cond.fieldLink RX0 50 "SailorCandles$Chapel" "unringings" "I", Cond.static yX2_is, Cond.code yX2_is cX2_is 2 (some .boolean), Cond.methodLink RX0 82 yX0_trustSum, Cond.instanceMethod yX0_trustSum]
def wsX2_burnNights_r3 : List Cond := [Cond.selects RX0 yX0_trustSum yX0_trustSum, Cond.code yX0_trustSum cX0_trustSum 4 (some .int), Cond.methodLink RX0 85 yX0_hasSighting, Cond.instanceMethod yX0_hasSighting, Cond.selects RX0 yX0_hasSighting yX0_hasSighting, Cond.code yX0_hasSighting cX0_hasSighting 4 (some .boolean), Cond.methodLink RX0 75 yX0_placeOf, Cond.static yX0_placeOf, Cond.code yX0_placeOf cX0_placeOf 2 (some .int), Cond.static yX2_mark, Cond.code yX2_mark cX2_mark 3 none, Cond.methodLink RX0 107 yX0_burnCandles, Cond.instanceMethod yX0_burnCandles, Cond.selects RX0 yX0_burnCandles yX0_burnCandles, Cond.code yX0_burnCandles cX0_burnCandles 4 (some .int), Cond.fieldLink RX0 31 "SailorCandles$Chapel" "harbour" "LSailorCandles$Harbour;", Cond.fieldLink RX0 22 "SailorCandles$Chapel" "candle" "[I", Cond.methodLink RX0 61 yX1_shipWith, Cond.instanceMethod yX1_shipWith, Cond.selects RX1 yX1_shipWith yX1_shipWith, Cond.initialized RX1, Cond.code yX1_shipWith cX1_shipWith 2 (some .int), Cond.fieldLink RX1 15 "SailorCandles$Harbour" "ship" "[I", Cond.methodLink RX0 79 yX0_stayOf]
def wsX2_burnNights_r4 : List Cond := [Cond.instanceMethod yX0_stayOf, Cond.selects RX0 yX0_stayOf yX0_stayOf, Cond.code yX0_stayOf cX0_stayOf 2 (some .int), Cond.fieldLink RX0 9 "SailorCandles$Chapel" "stay" "[I", Cond.methodLink RX0 127 yX0_burnCandle, Cond.instanceMethod yX0_burnCandle, Cond.selects RX0 yX0_burnCandle yX0_burnCandle, Cond.code yX0_burnCandle cX0_burnCandle 3 none, Cond.methodLink RX0 67 yX0_lightCandle, Cond.instanceMethod yX0_lightCandle, Cond.selects RX0 yX0_lightCandle yX0_lightCandle, Cond.code yX0_lightCandle cX0_lightCandle 2 (some .boolean), Cond.fieldLink RX0 47 "SailorCandles$Chapel" "waxLeft" "I", Cond.methodLink RX0 110 yX0_countNightOut, Cond.instanceMethod yX0_countNightOut, Cond.selects RX0 yX0_countNightOut yX0_countNightOut, Cond.code yX0_countNightOut cX0_countNightOut 3 none, Cond.fieldLink RX0 15 "SailorCandles$Chapel" "outFor" "[I", Cond.methodLink RX0 133 yX1_votesToLose, Cond.instanceMethod yX1_votesToLose, Cond.selects RX1 yX1_votesToLose yX1_votesToLose, Cond.code yX1_votesToLose cX1_votesToLose 3 (some .int), Cond.methodLink RX1 57 Lib.Math.max.name, Cond.methodLink RX1 50 yX1_votersFor]
def wsX2_burnNights_r5 : List Cond := [Cond.instanceMethod yX1_votersFor, Cond.selects RX1 yX1_votersFor yX1_votersFor, Cond.code yX1_votersFor cX1_votersFor 2 (some .int), Cond.fieldLink RX1 21 "SailorCandles$Harbour" "voter" "[Z", Cond.methodLink RX1 46 yX1_countOfShip, Cond.instanceMethod yX1_countOfShip, Cond.selects RX1 yX1_countOfShip yX1_countOfShip, Cond.code yX1_countOfShip cX1_countOfShip 5 (some .int), Cond.methodLink RX1 54 yX1_votesAgainst, Cond.instanceMethod yX1_votesAgainst, Cond.selects RX1 yX1_votesAgainst yX1_votesAgainst, Cond.code yX1_votesAgainst cX1_votesAgainst 2 (some .int), Cond.fieldLink RX1 25 "SailorCandles$Harbour" "givenUp" "[Z", Cond.methodLink RX0 136 yX0_endWaiting, Cond.instanceMethod yX0_endWaiting, Cond.selects RX0 yX0_endWaiting yX0_endWaiting, Cond.code yX0_endWaiting cX0_endWaiting 4 none]
def wsX2_burnNights : List Cond := .code yX2_burnNights cX2_burnNights 2 (some .int) :: ((wsX2_burnNights_r1 ++ (wsX2_burnNights_r2 ++ (wsX2_burnNights_r3 ++ (wsX2_burnNights_r4 ++ wsX2_burnNights_r5)))) ++ wsX20 ++ wsX00 ++ wsX10 ++ (vx_atS RX2 32 "java/lang/IllegalArgumentException" ["java/lang/RuntimeException", "java/lang/Exception"]).filter goodWord)
def wsX2_ships : List Cond := .code yX2_ships cX2_ships 1 (some .int) :: ([.fieldLink RX2 10 "SailorCandles" "harbour" "LSailorCandles$Harbour;"] ++ wsX20 ++ wsX10)
def wsX2_mastsOf : List Cond := .code yX2_mastsOf cX2_mastsOf 2 (some .int) :: ([.fieldLink RX2 10 "SailorCandles" "harbour" "LSailorCandles$Harbour;", .methodLink RX2 48 yX2_needShip, .instanceMethod yX2_needShip, .selects RX2 yX2_needShip yX2_needShip, .initialized RX2, .code yX2_needShip cX2_needShip 2 none, .classLink RX2 60 "java/lang/IndexOutOfBoundsException", .initialized "java/lang/IndexOutOfBoundsException", .methodLink RX2 56 yX2_at, .static yX2_at, .code yX2_at cX2_at 2 (some .int)] ++ wsX20 ++ wsX10 ++ (vx_atS RX2 64 "java/lang/IndexOutOfBoundsException" ["java/lang/RuntimeException", "java/lang/Exception"]).filter goodWord)
def wsX2_isAway : List Cond := .code yX2_isAway cX2_isAway 2 (some .boolean) :: ([.fieldLink RX2 21 "SailorCandles" "now" "LSailorCandles$Chapel;", .methodLink RX2 48 yX2_needShip, .instanceMethod yX2_needShip, .selects RX2 yX2_needShip yX2_needShip, .initialized RX2, .code yX2_needShip cX2_needShip 2 none, .classLink RX2 60 "java/lang/IndexOutOfBoundsException", .initialized "java/lang/IndexOutOfBoundsException", .fieldLink RX2 10 "SailorCandles" "harbour" "LSailorCandles$Harbour;", .methodLink RX2 65 yX0_stayOf, .instanceMethod yX0_stayOf, .selects RX0 yX0_stayOf yX0_stayOf, .initialized RX0, .code yX0_stayOf cX0_stayOf 2 (some .int), .fieldLink RX0 9 "SailorCandles$Chapel" "stay" "[I", .static yX2_at, .code yX2_at cX2_at 2 (some .int)] ++ wsX20 ++ wsX10 ++ wsX00 ++ (vx_atS RX2 64 "java/lang/IndexOutOfBoundsException" ["java/lang/RuntimeException", "java/lang/Exception"]).filter goodWord)
def wsX2_isLost : List Cond := .code yX2_isLost cX2_isLost 2 (some .boolean) :: ([.fieldLink RX2 21 "SailorCandles" "now" "LSailorCandles$Chapel;", .methodLink RX2 48 yX2_needShip, .instanceMethod yX2_needShip, .selects RX2 yX2_needShip yX2_needShip, .initialized RX2, .code yX2_needShip cX2_needShip 2 none, .classLink RX2 60 "java/lang/IndexOutOfBoundsException", .initialized "java/lang/IndexOutOfBoundsException", .fieldLink RX2 10 "SailorCandles" "harbour" "LSailorCandles$Harbour;", .methodLink RX2 65 yX0_stayOf, .instanceMethod yX0_stayOf, .selects RX0 yX0_stayOf yX0_stayOf, .initialized RX0, .code yX0_stayOf cX0_stayOf 2 (some .int), .fieldLink RX0 9 "SailorCandles$Chapel" "stay" "[I", .static yX2_at, .code yX2_at cX2_at 2 (some .int)] ++ wsX20 ++ wsX10 ++ wsX00 ++ (vx_atS RX2 64 "java/lang/IndexOutOfBoundsException" ["java/lang/RuntimeException", "java/lang/Exception"]).filter goodWord)
def wsX2_nightsOut : List Cond := .code yX2_nightsOut cX2_nightsOut 2 (some .int) :: ([.fieldLink RX2 21 "SailorCandles" "now" "LSailorCandles$Chapel;", .methodLink RX2 48 yX2_needShip, .instanceMethod yX2_needShip, .selects RX2 yX2_needShip yX2_needShip, .initialized RX2, .code yX2_needShip cX2_needShip 2 none, .classLink RX2 60 "java/lang/IndexOutOfBoundsException", .initialized "java/lang/IndexOutOfBoundsException", .fieldLink RX2 10 "SailorCandles" "harbour" "LSailorCandles$Harbour;", .methodLink RX2 56 yX2_at, .static yX2_at, .code yX2_at cX2_at 2 (some .int)] ++ wsX20 ++ wsX00 ++ wsX10 ++ (vx_atS RX2 64 "java/lang/IndexOutOfBoundsException" ["java/lang/RuntimeException", "java/lang/Exception"]).filter goodWord)
def wsX2_isRung : List Cond := .code yX2_isRung cX2_isRung 2 (some .boolean) :: ([.fieldLink RX2 21 "SailorCandles" "now" "LSailorCandles$Chapel;", .methodLink RX2 48 yX2_needShip, .instanceMethod yX2_needShip, .selects RX2 yX2_needShip yX2_needShip, .initialized RX2, .code yX2_needShip cX2_needShip 2 none, .classLink RX2 60 "java/lang/IndexOutOfBoundsException", .initialized "java/lang/IndexOutOfBoundsException", .fieldLink RX2 10 "SailorCandles" "harbour" "LSailorCandles$Harbour;", .methodLink RX2 128 yX2_is, .static yX2_is, .code yX2_is cX2_is 2 (some .boolean)] ++ wsX20 ++ wsX00 ++ wsX10 ++ (vx_atS RX2 64 "java/lang/IndexOutOfBoundsException" ["java/lang/RuntimeException", "java/lang/Exception"]).filter goodWord)
def wsX2_trustIn_r1 : List Cond := [Cond.fieldLink RX2 21 "SailorCandles" "now" "LSailorCandles$Chapel;", Cond.methodLink RX2 48 yX2_needShip, Cond.instanceMethod yX2_needShip, Cond.selects RX2 yX2_needShip yX2_needShip, Cond.initialized RX2, Cond.code yX2_needShip cX2_needShip 2 none, Cond.classLink RX2 60 "java/lang/IndexOutOfBoundsException", Cond.initialized "java/lang/IndexOutOfBoundsException", Cond.fieldLink RX2 10 "SailorCandles" "harbour" "LSailorCandles$Harbour;", Cond.methodLink RX2 161 yX0_trustSum, Cond.instanceMethod yX0_trustSum, Cond.selects RX0 yX0_trustSum yX0_trustSum, Cond.initialized RX0, Cond.code yX0_trustSum cX0_trustSum 4 (some .int), Cond.fieldLink RX0 25 "SailorCandles$Chapel" "trust" "[I", Cond.methodLink RX0 85 yX0_hasSighting, Cond.instanceMethod yX0_hasSighting, Cond.selects RX0 yX0_hasSighting yX0_hasSighting, Cond.code yX0_hasSighting cX0_hasSighting 4 (some .boolean), Cond.fieldLink RX0 28 "SailorCandles$Chapel" "sightingAge" "[I", Cond.methodLink RX0 75 yX0_placeOf, Cond.static yX0_placeOf, Cond.code yX0_placeOf cX0_placeOf 2 (some .int), Cond.static yX2_at]
def wsX2_trustIn_r2 : List Cond := [Cond.code yX2_at cX2_at 2 (some .int)]
def wsX2_trustIn : List Cond := .code yX2_trustIn cX2_trustIn 2 (some .int) :: ((wsX2_trustIn_r1 ++ wsX2_trustIn_r2) ++ wsX20 ++ wsX10 ++ wsX00 ++ (vx_atS RX2 64 "java/lang/IndexOutOfBoundsException" ["java/lang/RuntimeException", "java/lang/Exception"]).filter goodWord)
def wsX2_voters : List Cond := .code yX2_voters cX2_voters 2 (some .int) :: ([.fieldLink RX2 10 "SailorCandles" "harbour" "LSailorCandles$Harbour;", .methodLink RX2 48 yX2_needShip, .instanceMethod yX2_needShip, .selects RX2 yX2_needShip yX2_needShip, .initialized RX2, .code yX2_needShip cX2_needShip 2 none, .classLink RX2 60 "java/lang/IndexOutOfBoundsException", .initialized "java/lang/IndexOutOfBoundsException", .methodLink RX2 164 yX1_votersFor, .instanceMethod yX1_votersFor, .selects RX1 yX1_votersFor yX1_votersFor, .initialized RX1, .code yX1_votersFor cX1_votersFor 2 (some .int), .fieldLink RX1 21 "SailorCandles$Harbour" "voter" "[Z", .methodLink RX1 46 yX1_countOfShip, .instanceMethod yX1_countOfShip, .selects RX1 yX1_countOfShip yX1_countOfShip, .code yX1_countOfShip cX1_countOfShip 5 (some .int), .fieldLink RX1 15 "SailorCandles$Harbour" "ship" "[I"] ++ wsX20 ++ wsX10 ++ (vx_atS RX2 64 "java/lang/IndexOutOfBoundsException" ["java/lang/RuntimeException", "java/lang/Exception"]).filter goodWord)
def wsX2_votesForLost : List Cond := .code yX2_votesForLost cX2_votesForLost 2 (some .int) :: ([.fieldLink RX2 10 "SailorCandles" "harbour" "LSailorCandles$Harbour;", .methodLink RX2 48 yX2_needShip, .instanceMethod yX2_needShip, .selects RX2 yX2_needShip yX2_needShip, .initialized RX2, .code yX2_needShip cX2_needShip 2 none, .classLink RX2 60 "java/lang/IndexOutOfBoundsException", .initialized "java/lang/IndexOutOfBoundsException", .methodLink RX2 152 yX1_votesAgainst, .instanceMethod yX1_votesAgainst, .selects RX1 yX1_votesAgainst yX1_votesAgainst, .initialized RX1, .code yX1_votesAgainst cX1_votesAgainst 2 (some .int), .fieldLink RX1 25 "SailorCandles$Harbour" "givenUp" "[Z", .methodLink RX1 46 yX1_countOfShip, .instanceMethod yX1_countOfShip, .selects RX1 yX1_countOfShip yX1_countOfShip, .code yX1_countOfShip cX1_countOfShip 5 (some .int), .fieldLink RX1 15 "SailorCandles$Harbour" "ship" "[I"] ++ wsX20 ++ wsX10 ++ (vx_atS RX2 64 "java/lang/IndexOutOfBoundsException" ["java/lang/RuntimeException", "java/lang/Exception"]).filter goodWord)
def wsX2_votesMissing_r1 : List Cond := [Cond.fieldLink RX2 10 "SailorCandles" "harbour" "LSailorCandles$Harbour;", Cond.methodLink RX2 48 yX2_needShip, Cond.instanceMethod yX2_needShip, Cond.selects RX2 yX2_needShip yX2_needShip, Cond.initialized RX2, Cond.code yX2_needShip cX2_needShip 2 none, Cond.classLink RX2 60 "java/lang/IndexOutOfBoundsException", Cond.initialized "java/lang/IndexOutOfBoundsException", Cond.methodLink RX2 167 yX1_votesToLose, Cond.instanceMethod yX1_votesToLose, Cond.selects RX1 yX1_votesToLose yX1_votesToLose, Cond.initialized RX1, Cond.code yX1_votesToLose cX1_votesToLose 3 (some .int), Cond.methodLink RX1 57 Lib.Math.max.name, Cond.static Lib.Math.max.name, Cond.initialized "java/lang/Math", Cond.code Lib.Math.max.name Lib.Math.max.code 2 (some .int), Cond.methodLink RX1 50 yX1_votersFor, Cond.instanceMethod yX1_votersFor, Cond.selects RX1 yX1_votersFor yX1_votersFor, Cond.code yX1_votersFor cX1_votersFor 2 (some .int), Cond.fieldLink RX1 21 "SailorCandles$Harbour" "voter" "[Z", Cond.methodLink RX1 46 yX1_countOfShip, Cond.instanceMethod yX1_countOfShip]
def wsX2_votesMissing_r2 : List Cond := [Cond.selects RX1 yX1_countOfShip yX1_countOfShip, Cond.code yX1_countOfShip cX1_countOfShip 5 (some .int), Cond.fieldLink RX1 15 "SailorCandles$Harbour" "ship" "[I", Cond.methodLink RX1 54 yX1_votesAgainst, Cond.instanceMethod yX1_votesAgainst, Cond.selects RX1 yX1_votesAgainst yX1_votesAgainst, Cond.code yX1_votesAgainst cX1_votesAgainst 2 (some .int), Cond.fieldLink RX1 25 "SailorCandles$Harbour" "givenUp" "[Z"]
def wsX2_votesMissing : List Cond := .code yX2_votesMissing cX2_votesMissing 2 (some .int) :: ((wsX2_votesMissing_r1 ++ wsX2_votesMissing_r2) ++ wsX20 ++ wsX10 ++ (vx_atS RX2 64 "java/lang/IndexOutOfBoundsException" ["java/lang/RuntimeException", "java/lang/Exception"]).filter goodWord)
def wsX2_sailors : List Cond := .code yX2_sailors cX2_sailors 1 (some .int) :: ([.fieldLink RX2 10 "SailorCandles" "harbour" "LSailorCandles$Harbour;"] ++ wsX20 ++ wsX10)
def wsX2_shipOf : List Cond := .code yX2_shipOf cX2_shipOf 2 (some .int) :: ([.fieldLink RX2 10 "SailorCandles" "harbour" "LSailorCandles$Harbour;", .methodLink RX2 132 yX2_needSailor, .instanceMethod yX2_needSailor, .selects RX2 yX2_needSailor yX2_needSailor, .initialized RX2, .code yX2_needSailor cX2_needSailor 2 none, .classLink RX2 60 "java/lang/IndexOutOfBoundsException", .initialized "java/lang/IndexOutOfBoundsException", .methodLink RX2 140 yX1_shipWith, .instanceMethod yX1_shipWith, .selects RX1 yX1_shipWith yX1_shipWith, .initialized RX1, .code yX1_shipWith cX1_shipWith 2 (some .int), .fieldLink RX1 15 "SailorCandles$Harbour" "ship" "[I"] ++ wsX20 ++ wsX10 ++ (vx_atS RX2 64 "java/lang/IndexOutOfBoundsException" ["java/lang/RuntimeException", "java/lang/Exception"]).filter goodWord)
def wsX2_mastOf : List Cond := .code yX2_mastOf cX2_mastOf 2 (some .int) :: ([.fieldLink RX2 10 "SailorCandles" "harbour" "LSailorCandles$Harbour;", .methodLink RX2 132 yX2_needSailor, .instanceMethod yX2_needSailor, .selects RX2 yX2_needSailor yX2_needSailor, .initialized RX2, .code yX2_needSailor cX2_needSailor 2 none, .classLink RX2 60 "java/lang/IndexOutOfBoundsException", .initialized "java/lang/IndexOutOfBoundsException", .methodLink RX2 56 yX2_at, .static yX2_at, .code yX2_at cX2_at 2 (some .int)] ++ wsX20 ++ wsX10 ++ (vx_atS RX2 64 "java/lang/IndexOutOfBoundsException" ["java/lang/RuntimeException", "java/lang/Exception"]).filter goodWord)
def wsX2_hasVoter : List Cond := .code yX2_hasVoter cX2_hasVoter 2 (some .boolean) :: ([.fieldLink RX2 10 "SailorCandles" "harbour" "LSailorCandles$Harbour;", .methodLink RX2 132 yX2_needSailor, .instanceMethod yX2_needSailor, .selects RX2 yX2_needSailor yX2_needSailor, .initialized RX2, .code yX2_needSailor cX2_needSailor 2 none, .classLink RX2 60 "java/lang/IndexOutOfBoundsException", .initialized "java/lang/IndexOutOfBoundsException", .methodLink RX2 128 yX2_is, .static yX2_is, .code yX2_is cX2_is 2 (some .boolean)] ++ wsX20 ++ wsX10 ++ (vx_atS RX2 64 "java/lang/IndexOutOfBoundsException" ["java/lang/RuntimeException", "java/lang/Exception"]).filter goodWord)
def wsX2_isGivenUp : List Cond := .code yX2_isGivenUp cX2_isGivenUp 2 (some .boolean) :: ([.fieldLink RX2 10 "SailorCandles" "harbour" "LSailorCandles$Harbour;", .methodLink RX2 132 yX2_needSailor, .instanceMethod yX2_needSailor, .selects RX2 yX2_needSailor yX2_needSailor, .initialized RX2, .code yX2_needSailor cX2_needSailor 2 none, .classLink RX2 60 "java/lang/IndexOutOfBoundsException", .initialized "java/lang/IndexOutOfBoundsException", .methodLink RX2 128 yX2_is, .static yX2_is, .code yX2_is cX2_is 2 (some .boolean)] ++ wsX20 ++ wsX10 ++ (vx_atS RX2 64 "java/lang/IndexOutOfBoundsException" ["java/lang/RuntimeException", "java/lang/Exception"]).filter goodWord)
def wsX2_candleOf : List Cond := .code yX2_candleOf cX2_candleOf 2 (some .int) :: ([.fieldLink RX2 21 "SailorCandles" "now" "LSailorCandles$Chapel;", .methodLink RX2 132 yX2_needSailor, .instanceMethod yX2_needSailor, .selects RX2 yX2_needSailor yX2_needSailor, .initialized RX2, .code yX2_needSailor cX2_needSailor 2 none, .classLink RX2 60 "java/lang/IndexOutOfBoundsException", .initialized "java/lang/IndexOutOfBoundsException", .fieldLink RX2 10 "SailorCandles" "harbour" "LSailorCandles$Harbour;", .methodLink RX2 56 yX2_at, .static yX2_at, .code yX2_at cX2_at 2 (some .int)] ++ wsX20 ++ wsX00 ++ wsX10 ++ (vx_atS RX2 64 "java/lang/IndexOutOfBoundsException" ["java/lang/RuntimeException", "java/lang/Exception"]).filter goodWord)
def wsX2_isDark_r1 : List Cond := [Cond.fieldLink RX2 21 "SailorCandles" "now" "LSailorCandles$Chapel;", Cond.methodLink RX2 132 yX2_needSailor, Cond.instanceMethod yX2_needSailor, Cond.selects RX2 yX2_needSailor yX2_needSailor, Cond.initialized RX2, Cond.code yX2_needSailor cX2_needSailor 2 none, Cond.classLink RX2 60 "java/lang/IndexOutOfBoundsException", Cond.initialized "java/lang/IndexOutOfBoundsException", Cond.fieldLink RX2 10 "SailorCandles" "harbour" "LSailorCandles$Harbour;", Cond.methodLink RX2 176 yX0_darkFor, Cond.instanceMethod yX0_darkFor, Cond.selects RX0 yX0_darkFor yX0_darkFor, Cond.initialized RX0, Cond.code yX0_darkFor cX0_darkFor 2 (some .boolean), Cond.fieldLink RX0 31 "SailorCandles$Chapel" "harbour" "LSailorCandles$Harbour;", Cond.fieldLink RX0 22 "SailorCandles$Chapel" "candle" "[I", Cond.methodLink RX0 61 yX1_shipWith, Cond.instanceMethod yX1_shipWith, Cond.selects RX1 yX1_shipWith yX1_shipWith, Cond.initialized RX1, Cond.code yX1_shipWith cX1_shipWith 2 (some .int), Cond.fieldLink RX1 15 "SailorCandles$Harbour" "ship" "[I", Cond.methodLink RX0 79 yX0_stayOf, Cond.instanceMethod yX0_stayOf]
def wsX2_isDark_r2 : List Cond := [Cond.selects RX0 yX0_stayOf yX0_stayOf, Cond.code yX0_stayOf cX0_stayOf 2 (some .int), Cond.fieldLink RX0 9 "SailorCandles$Chapel" "stay" "[I", Cond.static yX2_at, Cond.code yX2_at cX2_at 2 (some .int)]
def wsX2_isDark : List Cond := .code yX2_isDark cX2_isDark 2 (some .boolean) :: ((wsX2_isDark_r1 ++ wsX2_isDark_r2) ++ wsX20 ++ wsX10 ++ wsX00 ++ (vx_atS RX2 64 "java/lang/IndexOutOfBoundsException" ["java/lang/RuntimeException", "java/lang/Exception"]).filter goodWord)
def wsX2_watchers : List Cond := .code yX2_watchers cX2_watchers 1 (some .int) :: ([.fieldLink RX2 10 "SailorCandles" "harbour" "LSailorCandles$Harbour;"] ++ wsX20 ++ wsX10)
def wsX2_trustOf : List Cond := .code yX2_trustOf cX2_trustOf 2 (some .int) :: ([.fieldLink RX2 21 "SailorCandles" "now" "LSailorCandles$Chapel;", .methodLink RX2 180 yX2_needWatcher, .instanceMethod yX2_needWatcher, .selects RX2 yX2_needWatcher yX2_needWatcher, .initialized RX2, .code yX2_needWatcher cX2_needWatcher 2 none, .classLink RX2 60 "java/lang/IndexOutOfBoundsException", .initialized "java/lang/IndexOutOfBoundsException", .fieldLink RX2 10 "SailorCandles" "harbour" "LSailorCandles$Harbour;", .methodLink RX2 56 yX2_at, .static yX2_at, .code yX2_at cX2_at 2 (some .int)] ++ wsX20 ++ wsX00 ++ wsX10 ++ (vx_atS RX2 64 "java/lang/IndexOutOfBoundsException" ["java/lang/RuntimeException", "java/lang/Exception"]).filter goodWord)
def wsX2_sightings : List Cond := .code yX2_sightings cX2_sightings 1 (some .int) :: ([.fieldLink RX2 21 "SailorCandles" "now" "LSailorCandles$Chapel;", .methodLink RX2 183 yX0_sightingCount, .instanceMethod yX0_sightingCount, .selects RX0 yX0_sightingCount yX0_sightingCount, .initialized RX0, .code yX0_sightingCount cX0_sightingCount 3 (some .int), .fieldLink RX0 28 "SailorCandles$Chapel" "sightingAge" "[I"] ++ wsX20 ++ wsX00)
def wsX2_night : List Cond := .code yX2_night cX2_night 1 (some .int) :: ([.fieldLink RX2 21 "SailorCandles" "now" "LSailorCandles$Chapel;"] ++ wsX20 ++ wsX00)
def wsX2_wax : List Cond := .code yX2_wax cX2_wax 1 (some .int) :: ([.fieldLink RX2 21 "SailorCandles" "now" "LSailorCandles$Chapel;"] ++ wsX20 ++ wsX00)
def wsX2_darkCandles_r1 : List Cond := [Cond.fieldLink RX2 21 "SailorCandles" "now" "LSailorCandles$Chapel;", Cond.methodLink RX2 189 yX0_darkCount, Cond.instanceMethod yX0_darkCount, Cond.selects RX0 yX0_darkCount yX0_darkCount, Cond.initialized RX0, Cond.code yX0_darkCount cX0_darkCount 3 (some .int), Cond.methodLink RX0 94 yX0_darkFor, Cond.instanceMethod yX0_darkFor, Cond.selects RX0 yX0_darkFor yX0_darkFor, Cond.code yX0_darkFor cX0_darkFor 2 (some .boolean), Cond.fieldLink RX0 31 "SailorCandles$Chapel" "harbour" "LSailorCandles$Harbour;", Cond.fieldLink RX0 22 "SailorCandles$Chapel" "candle" "[I", Cond.methodLink RX0 61 yX1_shipWith, Cond.instanceMethod yX1_shipWith, Cond.selects RX1 yX1_shipWith yX1_shipWith, Cond.initialized RX1, Cond.code yX1_shipWith cX1_shipWith 2 (some .int), Cond.fieldLink RX1 15 "SailorCandles$Harbour" "ship" "[I", Cond.methodLink RX0 79 yX0_stayOf, Cond.instanceMethod yX0_stayOf, Cond.selects RX0 yX0_stayOf yX0_stayOf, Cond.code yX0_stayOf cX0_stayOf 2 (some .int), Cond.fieldLink RX0 9 "SailorCandles$Chapel" "stay" "[I", Cond.static yX2_at]
def wsX2_darkCandles_r2 : List Cond := [Cond.initialized RX2, Cond.code yX2_at cX2_at 2 (some .int)]
def wsX2_darkCandles : List Cond := .code yX2_darkCandles cX2_darkCandles 1 (some .int) :: ((wsX2_darkCandles_r1 ++ wsX2_darkCandles_r2) ++ wsX20 ++ wsX00 ++ wsX10)
def wsX2_bellsUnrung : List Cond := .code yX2_bellsUnrung cX2_bellsUnrung 1 (some .int) :: ([.fieldLink RX2 21 "SailorCandles" "now" "LSailorCandles$Chapel;"] ++ wsX20 ++ wsX00)
def wsX2_namesOnWall : List Cond := .code yX2_namesOnWall cX2_namesOnWall 1 (some .int) :: ([.fieldLink RX2 21 "SailorCandles" "now" "LSailorCandles$Chapel;", .methodLink RX2 195 yX0_lostSailors, .instanceMethod yX0_lostSailors, .selects RX0 yX0_lostSailors yX0_lostSailors, .initialized RX0, .code yX0_lostSailors cX0_lostSailors 3 (some .int), .fieldLink RX0 31 "SailorCandles$Chapel" "harbour" "LSailorCandles$Harbour;", .methodLink RX0 61 yX1_shipWith, .instanceMethod yX1_shipWith, .selects RX1 yX1_shipWith yX1_shipWith, .initialized RX1, .code yX1_shipWith cX1_shipWith 2 (some .int), .fieldLink RX1 15 "SailorCandles$Harbour" "ship" "[I", .methodLink RX0 79 yX0_stayOf, .instanceMethod yX0_stayOf, .selects RX0 yX0_stayOf yX0_stayOf, .code yX0_stayOf cX0_stayOf 2 (some .int), .fieldLink RX0 9 "SailorCandles$Chapel" "stay" "[I", .static yX2_at, .initialized RX2, .code yX2_at cX2_at 2 (some .int)] ++ wsX20 ++ wsX00 ++ wsX10)
def wsX2_wouldRing_r1 : List Cond := [Cond.fieldLink RX2 21 "SailorCandles" "now" "LSailorCandles$Chapel;", Cond.methodLink RX2 118 yX2_needNewSighting, Cond.instanceMethod yX2_needNewSighting, Cond.selects RX2 yX2_needNewSighting yX2_needNewSighting, Cond.initialized RX2, Cond.code yX2_needNewSighting cX2_needNewSighting 3 none, Cond.classLink RX2 39 "java/lang/IllegalStateException", Cond.initialized "java/lang/IllegalStateException", Cond.methodLink RX2 180 yX2_needWatcher, Cond.instanceMethod yX2_needWatcher, Cond.selects RX2 yX2_needWatcher yX2_needWatcher, Cond.code yX2_needWatcher cX2_needWatcher 2 none, Cond.classLink RX2 60 "java/lang/IndexOutOfBoundsException", Cond.initialized "java/lang/IndexOutOfBoundsException", Cond.fieldLink RX2 10 "SailorCandles" "harbour" "LSailorCandles$Harbour;", Cond.methodLink RX2 48 yX2_needShip, Cond.instanceMethod yX2_needShip, Cond.selects RX2 yX2_needShip yX2_needShip, Cond.code yX2_needShip cX2_needShip 2 none, Cond.methodLink RX2 65 yX0_stayOf, Cond.instanceMethod yX0_stayOf, Cond.selects RX0 yX0_stayOf yX0_stayOf, Cond.initialized RX0, Cond.code yX0_stayOf cX0_stayOf 2 (some .int)]
def wsX2_wouldRing_r2 : List Cond := [Cond.fieldLink RX0 9 "SailorCandles$Chapel" "stay" "[I", Cond.static yX2_at, Cond.code yX2_at cX2_at 2 (some .int), Cond.methodLink RX2 235 yX0_hasSighting, Cond.instanceMethod yX0_hasSighting, Cond.selects RX0 yX0_hasSighting yX0_hasSighting, Cond.code yX0_hasSighting cX0_hasSighting 4 (some .boolean), Cond.fieldLink RX0 28 "SailorCandles$Chapel" "sightingAge" "[I", Cond.methodLink RX0 75 yX0_placeOf, Cond.static yX0_placeOf, Cond.code yX0_placeOf cX0_placeOf 2 (some .int), Cond.methodLink RX2 128 yX2_is, Cond.static yX2_is, Cond.code yX2_is cX2_is 2 (some .boolean), Cond.methodLink RX2 161 yX0_trustSum, Cond.instanceMethod yX0_trustSum, Cond.selects RX0 yX0_trustSum yX0_trustSum, Cond.code yX0_trustSum cX0_trustSum 4 (some .int), Cond.fieldLink RX0 25 "SailorCandles$Chapel" "trust" "[I", Cond.methodLink RX0 85 yX0_hasSighting, Cond.methodLink RX2 56 yX2_at]
def wsX2_wouldRing : List Cond := .code yX2_wouldRing cX2_wouldRing 3 (some .boolean) :: ((wsX2_wouldRing_r1 ++ wsX2_wouldRing_r2) ++ wsX20 ++ wsX00 ++ wsX10 ++ (vx_atS RX2 43 "java/lang/IllegalStateException" ["java/lang/RuntimeException", "java/lang/Exception"]).filter goodWord ++ (vx_atS RX2 64 "java/lang/IndexOutOfBoundsException" ["java/lang/RuntimeException", "java/lang/Exception"]).filter goodWord)
def wsX2_nightsUntilDark_r1 : List Cond := [Cond.fieldLink RX2 25 "SailorCandles" "trial" "LSailorCandles$Chapel;", Cond.fieldLink RX2 21 "SailorCandles" "now" "LSailorCandles$Chapel;", Cond.methodLink RX2 200 yX0_copyFrom, Cond.instanceMethod yX0_copyFrom, Cond.selects RX0 yX0_copyFrom yX0_copyFrom, Cond.initialized RX0, Cond.code yX0_copyFrom cX0_copyFrom 2 none, Cond.fieldLink RX0 9 "SailorCandles$Chapel" "stay" "[I", Cond.fieldLink RX0 15 "SailorCandles$Chapel" "outFor" "[I", Cond.fieldLink RX0 18 "SailorCandles$Chapel" "rung" "[Z", Cond.fieldLink RX0 22 "SailorCandles$Chapel" "candle" "[I", Cond.fieldLink RX0 25 "SailorCandles$Chapel" "trust" "[I", Cond.fieldLink RX0 28 "SailorCandles$Chapel" "sightingAge" "[I", Cond.fieldLink RX0 43 "SailorCandles$Chapel" "nightsPassed" "I", Cond.fieldLink RX0 47 "SailorCandles$Chapel" "waxLeft" "I", Cond.fieldLink RX0 50 "SailorCandles$Chapel" "unringings" "I", Cond.static yX2_copyRow, Cond.initialized RX2, Cond.code yX2_copyRow cX2_copyRow 3 none, Cond.static yX2_copyMarks, Cond.code yX2_copyMarks cX2_copyMarks 3 none, Cond.methodLink RX2 189 yX0_darkCount, Cond.instanceMethod yX0_darkCount, Cond.selects RX0 yX0_darkCount yX0_darkCount]
def wsX2_nightsUntilDark_r2 : List Cond := [Cond.code yX0_darkCount cX0_darkCount 3 (some .int), Cond.methodLink RX0 94 yX0_darkFor, Cond.instanceMethod yX0_darkFor, Cond.selects RX0 yX0_darkFor yX0_darkFor, Cond.code yX0_darkFor cX0_darkFor 2 (some .boolean), Cond.fieldLink RX0 31 "SailorCandles$Chapel" "harbour" "LSailorCandles$Harbour;", Cond.methodLink RX0 61 yX1_shipWith, Cond.instanceMethod yX1_shipWith, Cond.selects RX1 yX1_shipWith yX1_shipWith, Cond.initialized RX1, Cond.code yX1_shipWith cX1_shipWith 2 (some .int), Cond.fieldLink RX1 15 "SailorCandles$Harbour" "ship" "[I", Cond.methodLink RX0 79 yX0_stayOf, Cond.instanceMethod yX0_stayOf, Cond.selects RX0 yX0_stayOf yX0_stayOf, Cond.code yX0_stayOf cX0_stayOf 2 (some .int), Cond.static yX2_at, Cond.code yX2_at cX2_at 2 (some .int), Cond.methodLink RX2 204 yX0_passNight, Cond.instanceMethod yX0_passNight, Cond.selects RX0 yX0_passNight yX0_passNight, Cond.code yX0_passNight cX0_passNight 2 (some .int), Cond.methodLink RX0 101 yX0_ageSightings, Cond.instanceMethod yX0_ageSightings]
def wsX2_nightsUntilDark_r3 : List Cond := [Cond.selects RX0 yX0_ageSightings yX0_ageSightings, Cond.code yX0_ageSightings cX0_ageSightings 2 none, Cond.methodLink RX0 113 yX0_watcherAt, Cond.static yX0_watcherAt, Cond.code yX0_watcherAt cX0_watcherAt 1 (some .int), Cond.methodLink RX0 116 yX0_doubt, Cond.instanceMethod yX0_doubt, Cond.selects RX0 yX0_doubt yX0_doubt, Cond.code yX0_doubt cX0_doubt 2 none, Cond.methodLink RX0 120 Lib.Math.max.name, Cond.static Lib.Math.max.name, Cond.initialized "java/lang/Math", Cond.code Lib.Math.max.name Lib.Math.max.code 2 (some .int), Cond.static yX2_put, Cond.code yX2_put cX2_put 3 none, Cond.methodLink RX0 104 yX0_unringBells, Cond.instanceMethod yX0_unringBells, Cond.selects RX0 yX0_unringBells yX0_unringBells, Cond.code yX0_unringBells cX0_unringBells 2 none, Cond.static yX2_is, Cond.code yX2_is cX2_is 2 (some .boolean), Cond.methodLink RX0 82 yX0_trustSum, Cond.instanceMethod yX0_trustSum, Cond.selects RX0 yX0_trustSum yX0_trustSum]
def wsX2_nightsUntilDark_r4 : List Cond := [Cond.code yX0_trustSum cX0_trustSum 4 (some .int), Cond.methodLink RX0 85 yX0_hasSighting, Cond.instanceMethod yX0_hasSighting, Cond.selects RX0 yX0_hasSighting yX0_hasSighting, Cond.code yX0_hasSighting cX0_hasSighting 4 (some .boolean), Cond.methodLink RX0 75 yX0_placeOf, Cond.static yX0_placeOf, Cond.code yX0_placeOf cX0_placeOf 2 (some .int), Cond.static yX2_mark, Cond.code yX2_mark cX2_mark 3 none, Cond.methodLink RX0 107 yX0_burnCandles, Cond.instanceMethod yX0_burnCandles, Cond.selects RX0 yX0_burnCandles yX0_burnCandles, Cond.code yX0_burnCandles cX0_burnCandles 4 (some .int), Cond.methodLink RX0 127 yX0_burnCandle, Cond.instanceMethod yX0_burnCandle, Cond.selects RX0 yX0_burnCandle yX0_burnCandle, Cond.code yX0_burnCandle cX0_burnCandle 3 none, Cond.methodLink RX0 67 yX0_lightCandle, Cond.instanceMethod yX0_lightCandle, Cond.selects RX0 yX0_lightCandle yX0_lightCandle, Cond.code yX0_lightCandle cX0_lightCandle 2 (some .boolean), Cond.methodLink RX0 110 yX0_countNightOut, Cond.instanceMethod yX0_countNightOut]
def wsX2_nightsUntilDark_r5 : List Cond := [Cond.selects RX0 yX0_countNightOut yX0_countNightOut, Cond.code yX0_countNightOut cX0_countNightOut 3 none, Cond.methodLink RX0 133 yX1_votesToLose, Cond.instanceMethod yX1_votesToLose, Cond.selects RX1 yX1_votesToLose yX1_votesToLose, Cond.code yX1_votesToLose cX1_votesToLose 3 (some .int), Cond.methodLink RX1 57 Lib.Math.max.name, Cond.methodLink RX1 50 yX1_votersFor, Cond.instanceMethod yX1_votersFor, Cond.selects RX1 yX1_votersFor yX1_votersFor, Cond.code yX1_votersFor cX1_votersFor 2 (some .int), Cond.fieldLink RX1 21 "SailorCandles$Harbour" "voter" "[Z", Cond.methodLink RX1 46 yX1_countOfShip, Cond.instanceMethod yX1_countOfShip, Cond.selects RX1 yX1_countOfShip yX1_countOfShip, Cond.code yX1_countOfShip cX1_countOfShip 5 (some .int), Cond.methodLink RX1 54 yX1_votesAgainst, Cond.instanceMethod yX1_votesAgainst, Cond.selects RX1 yX1_votesAgainst yX1_votesAgainst, Cond.code yX1_votesAgainst cX1_votesAgainst 2 (some .int), Cond.fieldLink RX1 25 "SailorCandles$Harbour" "givenUp" "[Z", Cond.methodLink RX0 136 yX0_endWaiting, Cond.instanceMethod yX0_endWaiting, Cond.selects RX0 yX0_endWaiting yX0_endWaiting]
def wsX2_nightsUntilDark_r6 : List Cond := [Cond.code yX0_endWaiting cX0_endWaiting 4 none]
def wsX2_nightsUntilDark : List Cond := .code yX2_nightsUntilDark cX2_nightsUntilDark 2 (some .int) :: ((wsX2_nightsUntilDark_r1 ++ (wsX2_nightsUntilDark_r2 ++ (wsX2_nightsUntilDark_r3 ++ (wsX2_nightsUntilDark_r4 ++ (wsX2_nightsUntilDark_r5 ++ wsX2_nightsUntilDark_r6))))) ++ wsX20 ++ wsX00 ++ wsX10)
def wsX2_wouldStayLit_r1 : List Cond := [Cond.fieldLink RX2 25 "SailorCandles" "trial" "LSailorCandles$Chapel;", Cond.fieldLink RX2 21 "SailorCandles" "now" "LSailorCandles$Chapel;", Cond.methodLink RX2 200 yX0_copyFrom, Cond.instanceMethod yX0_copyFrom, Cond.selects RX0 yX0_copyFrom yX0_copyFrom, Cond.initialized RX0, Cond.code yX0_copyFrom cX0_copyFrom 2 none, Cond.fieldLink RX0 9 "SailorCandles$Chapel" "stay" "[I", Cond.fieldLink RX0 15 "SailorCandles$Chapel" "outFor" "[I", Cond.fieldLink RX0 18 "SailorCandles$Chapel" "rung" "[Z", Cond.fieldLink RX0 22 "SailorCandles$Chapel" "candle" "[I", Cond.fieldLink RX0 25 "SailorCandles$Chapel" "trust" "[I", Cond.fieldLink RX0 28 "SailorCandles$Chapel" "sightingAge" "[I", Cond.fieldLink RX0 43 "SailorCandles$Chapel" "nightsPassed" "I", Cond.fieldLink RX0 47 "SailorCandles$Chapel" "waxLeft" "I", Cond.fieldLink RX0 50 "SailorCandles$Chapel" "unringings" "I", Cond.static yX2_copyRow, Cond.initialized RX2, Cond.code yX2_copyRow cX2_copyRow 3 none, Cond.static yX2_copyMarks, Cond.code yX2_copyMarks cX2_copyMarks 3 none, Cond.methodLink RX2 204 yX0_passNight, Cond.instanceMethod yX0_passNight, Cond.selects RX0 yX0_passNight yX0_passNight]
def wsX2_wouldStayLit_r2 : List Cond := [Cond.code yX0_passNight cX0_passNight 2 (some .int), Cond.methodLink RX0 101 yX0_ageSightings, Cond.instanceMethod yX0_ageSightings, Cond.selects RX0 yX0_ageSightings yX0_ageSightings, Cond.code yX0_ageSightings cX0_ageSightings 2 none, Cond.methodLink RX0 113 yX0_watcherAt, Cond.static yX0_watcherAt, Cond.code yX0_watcherAt cX0_watcherAt 1 (some .int), Cond.methodLink RX0 116 yX0_doubt, Cond.instanceMethod yX0_doubt, Cond.selects RX0 yX0_doubt yX0_doubt, Cond.code yX0_doubt cX0_doubt 2 none, Cond.methodLink RX0 120 Lib.Math.max.name, Cond.static Lib.Math.max.name, Cond.initialized "java/lang/Math", Cond.code Lib.Math.max.name Lib.Math.max.code 2 (some .int), Cond.static yX2_at, Cond.code yX2_at cX2_at 2 (some .int), Cond.static yX2_put, Cond.code yX2_put cX2_put 3 none, Cond.methodLink RX0 104 yX0_unringBells, Cond.instanceMethod yX0_unringBells, Cond.selects RX0 yX0_unringBells yX0_unringBells, Cond.code yX0_unringBells cX0_unringBells 2 none]
def wsX2_wouldStayLit_r3 : List Cond := [Cond.static yX2_is, Cond.code yX2_is cX2_is 2 (some .boolean), Cond.methodLink RX0 82 yX0_trustSum, Cond.instanceMethod yX0_trustSum, Cond.selects RX0 yX0_trustSum yX0_trustSum, Cond.code yX0_trustSum cX0_trustSum 4 (some .int), Cond.methodLink RX0 85 yX0_hasSighting, Cond.instanceMethod yX0_hasSighting, Cond.selects RX0 yX0_hasSighting yX0_hasSighting, Cond.code yX0_hasSighting cX0_hasSighting 4 (some .boolean), Cond.methodLink RX0 75 yX0_placeOf, Cond.static yX0_placeOf, Cond.code yX0_placeOf cX0_placeOf 2 (some .int), Cond.static yX2_mark, Cond.code yX2_mark cX2_mark 3 none, Cond.methodLink RX0 107 yX0_burnCandles, Cond.instanceMethod yX0_burnCandles, Cond.selects RX0 yX0_burnCandles yX0_burnCandles, Cond.code yX0_burnCandles cX0_burnCandles 4 (some .int), Cond.fieldLink RX0 31 "SailorCandles$Chapel" "harbour" "LSailorCandles$Harbour;", Cond.methodLink RX0 61 yX1_shipWith, Cond.instanceMethod yX1_shipWith, Cond.selects RX1 yX1_shipWith yX1_shipWith, Cond.initialized RX1]
def wsX2_wouldStayLit_r4 : List Cond := [Cond.code yX1_shipWith cX1_shipWith 2 (some .int), Cond.fieldLink RX1 15 "SailorCandles$Harbour" "ship" "[I", Cond.methodLink RX0 79 yX0_stayOf, Cond.instanceMethod yX0_stayOf, Cond.selects RX0 yX0_stayOf yX0_stayOf, Cond.code yX0_stayOf cX0_stayOf 2 (some .int), Cond.methodLink RX0 127 yX0_burnCandle, Cond.instanceMethod yX0_burnCandle, Cond.selects RX0 yX0_burnCandle yX0_burnCandle, Cond.code yX0_burnCandle cX0_burnCandle 3 none, Cond.methodLink RX0 67 yX0_lightCandle, Cond.instanceMethod yX0_lightCandle, Cond.selects RX0 yX0_lightCandle yX0_lightCandle, Cond.code yX0_lightCandle cX0_lightCandle 2 (some .boolean), Cond.methodLink RX0 110 yX0_countNightOut, Cond.instanceMethod yX0_countNightOut, Cond.selects RX0 yX0_countNightOut yX0_countNightOut, Cond.code yX0_countNightOut cX0_countNightOut 3 none, Cond.methodLink RX0 133 yX1_votesToLose, Cond.instanceMethod yX1_votesToLose, Cond.selects RX1 yX1_votesToLose yX1_votesToLose, Cond.code yX1_votesToLose cX1_votesToLose 3 (some .int), Cond.methodLink RX1 57 Lib.Math.max.name, Cond.methodLink RX1 50 yX1_votersFor]
def wsX2_wouldStayLit_r5 : List Cond := [Cond.instanceMethod yX1_votersFor, Cond.selects RX1 yX1_votersFor yX1_votersFor, Cond.code yX1_votersFor cX1_votersFor 2 (some .int), Cond.fieldLink RX1 21 "SailorCandles$Harbour" "voter" "[Z", Cond.methodLink RX1 46 yX1_countOfShip, Cond.instanceMethod yX1_countOfShip, Cond.selects RX1 yX1_countOfShip yX1_countOfShip, Cond.code yX1_countOfShip cX1_countOfShip 5 (some .int), Cond.methodLink RX1 54 yX1_votesAgainst, Cond.instanceMethod yX1_votesAgainst, Cond.selects RX1 yX1_votesAgainst yX1_votesAgainst, Cond.code yX1_votesAgainst cX1_votesAgainst 2 (some .int), Cond.fieldLink RX1 25 "SailorCandles$Harbour" "givenUp" "[Z", Cond.methodLink RX0 136 yX0_endWaiting, Cond.instanceMethod yX0_endWaiting, Cond.selects RX0 yX0_endWaiting yX0_endWaiting, Cond.code yX0_endWaiting cX0_endWaiting 4 none, Cond.methodLink RX2 189 yX0_darkCount, Cond.instanceMethod yX0_darkCount, Cond.selects RX0 yX0_darkCount yX0_darkCount, Cond.code yX0_darkCount cX0_darkCount 3 (some .int), Cond.methodLink RX0 94 yX0_darkFor, Cond.instanceMethod yX0_darkFor, Cond.selects RX0 yX0_darkFor yX0_darkFor]
def wsX2_wouldStayLit_r6 : List Cond := [Cond.code yX0_darkFor cX0_darkFor 2 (some .boolean)]
def wsX2_wouldStayLit : List Cond := .code yX2_wouldStayLit cX2_wouldStayLit 4 (some .boolean) :: ((wsX2_wouldStayLit_r1 ++ (wsX2_wouldStayLit_r2 ++ (wsX2_wouldStayLit_r3 ++ (wsX2_wouldStayLit_r4 ++ (wsX2_wouldStayLit_r5 ++ wsX2_wouldStayLit_r6))))) ++ wsX20 ++ wsX00 ++ wsX10)
def wsX2_waxWanted_r1 : List Cond := [Cond.methodLink RX2 155 yX2_needNights, Cond.static yX2_needNights, Cond.initialized RX2, Cond.code yX2_needNights cX2_needNights 2 none, Cond.classLink RX2 28 "java/lang/IllegalArgumentException", Cond.initialized "java/lang/IllegalArgumentException", Cond.methodLink RX2 207 yX2_wouldStayLit, Cond.instanceMethod yX2_wouldStayLit, Cond.selects RX2 yX2_wouldStayLit yX2_wouldStayLit, Cond.code yX2_wouldStayLit cX2_wouldStayLit 4 (some .boolean), Cond.fieldLink RX2 25 "SailorCandles" "trial" "LSailorCandles$Chapel;", Cond.fieldLink RX2 21 "SailorCandles" "now" "LSailorCandles$Chapel;", Cond.methodLink RX2 200 yX0_copyFrom, Cond.instanceMethod yX0_copyFrom, Cond.selects RX0 yX0_copyFrom yX0_copyFrom, Cond.initialized RX0, Cond.code yX0_copyFrom cX0_copyFrom 2 none, Cond.fieldLink RX0 9 "SailorCandles$Chapel" "stay" "[I", Cond.fieldLink RX0 15 "SailorCandles$Chapel" "outFor" "[I", Cond.fieldLink RX0 18 "SailorCandles$Chapel" "rung" "[Z", Cond.fieldLink RX0 22 "SailorCandles$Chapel" "candle" "[I", Cond.fieldLink RX0 25 "SailorCandles$Chapel" "trust" "[I", Cond.fieldLink RX0 28 "SailorCandles$Chapel" "sightingAge" "[I", Cond.fieldLink RX0 43 "SailorCandles$Chapel" "nightsPassed" "I"]
def wsX2_waxWanted_r2 : List Cond := [Cond.fieldLink RX0 47 "SailorCandles$Chapel" "waxLeft" "I", Cond.fieldLink RX0 50 "SailorCandles$Chapel" "unringings" "I", Cond.static yX2_copyRow, Cond.code yX2_copyRow cX2_copyRow 3 none, Cond.static yX2_copyMarks, Cond.code yX2_copyMarks cX2_copyMarks 3 none, Cond.methodLink RX2 204 yX0_passNight, Cond.instanceMethod yX0_passNight, Cond.selects RX0 yX0_passNight yX0_passNight, Cond.code yX0_passNight cX0_passNight 2 (some .int), Cond.methodLink RX0 101 yX0_ageSightings, Cond.instanceMethod yX0_ageSightings, Cond.selects RX0 yX0_ageSightings yX0_ageSightings, Cond.code yX0_ageSightings cX0_ageSightings 2 none, Cond.methodLink RX0 113 yX0_watcherAt, Cond.static yX0_watcherAt, Cond.code yX0_watcherAt cX0_watcherAt 1 (some .int), Cond.methodLink RX0 116 yX0_doubt, Cond.instanceMethod yX0_doubt, Cond.selects RX0 yX0_doubt yX0_doubt, Cond.code yX0_doubt cX0_doubt 2 none, Cond.methodLink RX0 120 Lib.Math.max.name, Cond.static Lib.Math.max.name, Cond.initialized "java/lang/Math"]
def wsX2_waxWanted_r3 : List Cond := [Cond.code Lib.Math.max.name Lib.Math.max.code 2 (some .int), Cond.static yX2_at, Cond.code yX2_at cX2_at 2 (some .int), Cond.static yX2_put, Cond.code yX2_put cX2_put 3 none, Cond.methodLink RX0 104 yX0_unringBells, Cond.instanceMethod yX0_unringBells, Cond.selects RX0 yX0_unringBells yX0_unringBells, Cond.code yX0_unringBells cX0_unringBells 2 none, Cond.static yX2_is, Cond.code yX2_is cX2_is 2 (some .boolean), Cond.methodLink RX0 82 yX0_trustSum, Cond.instanceMethod yX0_trustSum, Cond.selects RX0 yX0_trustSum yX0_trustSum, Cond.code yX0_trustSum cX0_trustSum 4 (some .int), Cond.methodLink RX0 85 yX0_hasSighting, Cond.instanceMethod yX0_hasSighting, Cond.selects RX0 yX0_hasSighting yX0_hasSighting, Cond.code yX0_hasSighting cX0_hasSighting 4 (some .boolean), Cond.methodLink RX0 75 yX0_placeOf, Cond.static yX0_placeOf, Cond.code yX0_placeOf cX0_placeOf 2 (some .int), Cond.static yX2_mark, Cond.code yX2_mark cX2_mark 3 none]
def wsX2_waxWanted_r4 : List Cond := [Cond.methodLink RX0 107 yX0_burnCandles, Cond.instanceMethod yX0_burnCandles, Cond.selects RX0 yX0_burnCandles yX0_burnCandles, Cond.code yX0_burnCandles cX0_burnCandles 4 (some .int), Cond.fieldLink RX0 31 "SailorCandles$Chapel" "harbour" "LSailorCandles$Harbour;", Cond.methodLink RX0 61 yX1_shipWith, Cond.instanceMethod yX1_shipWith, Cond.selects RX1 yX1_shipWith yX1_shipWith, Cond.initialized RX1, Cond.code yX1_shipWith cX1_shipWith 2 (some .int), Cond.fieldLink RX1 15 "SailorCandles$Harbour" "ship" "[I", Cond.methodLink RX0 79 yX0_stayOf, Cond.instanceMethod yX0_stayOf, Cond.selects RX0 yX0_stayOf yX0_stayOf, Cond.code yX0_stayOf cX0_stayOf 2 (some .int), Cond.methodLink RX0 127 yX0_burnCandle, Cond.instanceMethod yX0_burnCandle, Cond.selects RX0 yX0_burnCandle yX0_burnCandle, Cond.code yX0_burnCandle cX0_burnCandle 3 none, Cond.methodLink RX0 67 yX0_lightCandle, Cond.instanceMethod yX0_lightCandle, Cond.selects RX0 yX0_lightCandle yX0_lightCandle, Cond.code yX0_lightCandle cX0_lightCandle 2 (some .boolean), Cond.methodLink RX0 110 yX0_countNightOut]
def wsX2_waxWanted_r5 : List Cond := [Cond.instanceMethod yX0_countNightOut, Cond.selects RX0 yX0_countNightOut yX0_countNightOut, Cond.code yX0_countNightOut cX0_countNightOut 3 none, Cond.methodLink RX0 133 yX1_votesToLose, Cond.instanceMethod yX1_votesToLose, Cond.selects RX1 yX1_votesToLose yX1_votesToLose, Cond.code yX1_votesToLose cX1_votesToLose 3 (some .int), Cond.methodLink RX1 57 Lib.Math.max.name, Cond.methodLink RX1 50 yX1_votersFor, Cond.instanceMethod yX1_votersFor, Cond.selects RX1 yX1_votersFor yX1_votersFor, Cond.code yX1_votersFor cX1_votersFor 2 (some .int), Cond.fieldLink RX1 21 "SailorCandles$Harbour" "voter" "[Z", Cond.methodLink RX1 46 yX1_countOfShip, Cond.instanceMethod yX1_countOfShip, Cond.selects RX1 yX1_countOfShip yX1_countOfShip, Cond.code yX1_countOfShip cX1_countOfShip 5 (some .int), Cond.methodLink RX1 54 yX1_votesAgainst, Cond.instanceMethod yX1_votesAgainst, Cond.selects RX1 yX1_votesAgainst yX1_votesAgainst, Cond.code yX1_votesAgainst cX1_votesAgainst 2 (some .int), Cond.fieldLink RX1 25 "SailorCandles$Harbour" "givenUp" "[Z", Cond.methodLink RX0 136 yX0_endWaiting, Cond.instanceMethod yX0_endWaiting]
def wsX2_waxWanted_r6 : List Cond := [Cond.selects RX0 yX0_endWaiting yX0_endWaiting, Cond.code yX0_endWaiting cX0_endWaiting 4 none, Cond.methodLink RX2 189 yX0_darkCount, Cond.instanceMethod yX0_darkCount, Cond.selects RX0 yX0_darkCount yX0_darkCount, Cond.code yX0_darkCount cX0_darkCount 3 (some .int), Cond.methodLink RX0 94 yX0_darkFor, Cond.instanceMethod yX0_darkFor, Cond.selects RX0 yX0_darkFor yX0_darkFor, Cond.code yX0_darkFor cX0_darkFor 2 (some .boolean)]
def wsX2_waxWanted : List Cond := .code yX2_waxWanted cX2_waxWanted 4 (some .int) :: ((wsX2_waxWanted_r1 ++ (wsX2_waxWanted_r2 ++ (wsX2_waxWanted_r3 ++ (wsX2_waxWanted_r4 ++ (wsX2_waxWanted_r5 ++ wsX2_waxWanted_r6))))) ++ wsX20 ++ wsX00 ++ wsX10 ++ (vx_atS RX2 32 "java/lang/IllegalArgumentException" ["java/lang/RuntimeException", "java/lang/Exception"]).filter goodWord)
def wsX2_meanTrust : List Cond := .code yX2_meanTrust cX2_meanTrust 3 (some .double) :: ([.fieldLink RX2 10 "SailorCandles" "harbour" "LSailorCandles$Harbour;", .fieldLink RX2 21 "SailorCandles" "now" "LSailorCandles$Chapel;", .methodLink RX2 56 yX2_at, .static yX2_at, .initialized RX2, .code yX2_at cX2_at 2 (some .int)] ++ wsX20 ++ wsX10 ++ wsX00)
def wsX2_mix : List Cond := .code yX2_mix cX2_mix 3 (some .long) :: ([.constantLong RX2 227 (31)])
def wsX2_one : List Cond := .code yX2_one cX2_one 1 (some .int) :: ([])
def wsX2_mixShip_r1 : List Cond := [Cond.fieldLink RX2 10 "SailorCandles" "harbour" "LSailorCandles$Harbour;", Cond.fieldLink RX2 21 "SailorCandles" "now" "LSailorCandles$Chapel;", Cond.methodLink RX2 56 yX2_at, Cond.static yX2_at, Cond.initialized RX2, Cond.code yX2_at cX2_at 2 (some .int), Cond.methodLink RX2 213 yX2_mix, Cond.static yX2_mix, Cond.code yX2_mix cX2_mix 3 (some .long), Cond.constantLong RX2 227 (31), Cond.methodLink RX2 65 yX0_stayOf, Cond.instanceMethod yX0_stayOf, Cond.selects RX0 yX0_stayOf yX0_stayOf, Cond.initialized RX0, Cond.code yX0_stayOf cX0_stayOf 2 (some .int), Cond.fieldLink RX0 9 "SailorCandles$Chapel" "stay" "[I", Cond.methodLink RX2 223 yX2_one, Cond.static yX2_one, Cond.code yX2_one cX2_one 1 (some .int), Cond.methodLink RX2 128 yX2_is, Cond.static yX2_is, Cond.code yX2_is cX2_is 2 (some .boolean), Cond.methodLink RX2 161 yX0_trustSum, Cond.instanceMethod yX0_trustSum]
def wsX2_mixShip_r2 : List Cond := [Cond.selects RX0 yX0_trustSum yX0_trustSum, Cond.code yX0_trustSum cX0_trustSum 4 (some .int), Cond.fieldLink RX0 25 "SailorCandles$Chapel" "trust" "[I", Cond.methodLink RX0 85 yX0_hasSighting, Cond.instanceMethod yX0_hasSighting, Cond.selects RX0 yX0_hasSighting yX0_hasSighting, Cond.code yX0_hasSighting cX0_hasSighting 4 (some .boolean), Cond.fieldLink RX0 28 "SailorCandles$Chapel" "sightingAge" "[I", Cond.methodLink RX0 75 yX0_placeOf, Cond.static yX0_placeOf, Cond.code yX0_placeOf cX0_placeOf 2 (some .int), Cond.methodLink RX2 164 yX1_votersFor, Cond.instanceMethod yX1_votersFor, Cond.selects RX1 yX1_votersFor yX1_votersFor, Cond.initialized RX1, Cond.code yX1_votersFor cX1_votersFor 2 (some .int), Cond.fieldLink RX1 21 "SailorCandles$Harbour" "voter" "[Z", Cond.methodLink RX1 46 yX1_countOfShip, Cond.instanceMethod yX1_countOfShip, Cond.selects RX1 yX1_countOfShip yX1_countOfShip, Cond.code yX1_countOfShip cX1_countOfShip 5 (some .int), Cond.fieldLink RX1 15 "SailorCandles$Harbour" "ship" "[I", Cond.methodLink RX2 152 yX1_votesAgainst, Cond.instanceMethod yX1_votesAgainst]
def wsX2_mixShip_r3 : List Cond := [Cond.selects RX1 yX1_votesAgainst yX1_votesAgainst, Cond.code yX1_votesAgainst cX1_votesAgainst 2 (some .int), Cond.fieldLink RX1 25 "SailorCandles$Harbour" "givenUp" "[Z"]
def wsX2_mixShip : List Cond := .code yX2_mixShip cX2_mixShip 6 (some .long) :: ((wsX2_mixShip_r1 ++ (wsX2_mixShip_r2 ++ wsX2_mixShip_r3)) ++ wsX20 ++ wsX10 ++ wsX00)
def wsX2_mixSailor : List Cond := .code yX2_mixSailor cX2_mixSailor 6 (some .long) :: ([.fieldLink RX2 10 "SailorCandles" "harbour" "LSailorCandles$Harbour;", .fieldLink RX2 21 "SailorCandles" "now" "LSailorCandles$Chapel;", .methodLink RX2 140 yX1_shipWith, .instanceMethod yX1_shipWith, .selects RX1 yX1_shipWith yX1_shipWith, .initialized RX1, .code yX1_shipWith cX1_shipWith 2 (some .int), .fieldLink RX1 15 "SailorCandles$Harbour" "ship" "[I", .methodLink RX2 213 yX2_mix, .static yX2_mix, .initialized RX2, .code yX2_mix cX2_mix 3 (some .long), .constantLong RX2 227 (31), .methodLink RX2 56 yX2_at, .static yX2_at, .code yX2_at cX2_at 2 (some .int), .methodLink RX2 128 yX2_is, .static yX2_is, .code yX2_is cX2_is 2 (some .boolean), .methodLink RX2 223 yX2_one, .static yX2_one, .code yX2_one cX2_one 1 (some .int)] ++ wsX20 ++ wsX10 ++ wsX00)
def wsX2_digest_r1 : List Cond := [Cond.constantLong RX2 211 (1949), Cond.fieldLink RX2 10 "SailorCandles" "harbour" "LSailorCandles$Harbour;", Cond.fieldLink RX2 21 "SailorCandles" "now" "LSailorCandles$Chapel;", Cond.methodLink RX2 213 yX2_mix, Cond.static yX2_mix, Cond.initialized RX2, Cond.code yX2_mix cX2_mix 3 (some .long), Cond.constantLong RX2 227 (31), Cond.methodLink RX2 183 yX0_sightingCount, Cond.instanceMethod yX0_sightingCount, Cond.selects RX0 yX0_sightingCount yX0_sightingCount, Cond.initialized RX0, Cond.code yX0_sightingCount cX0_sightingCount 3 (some .int), Cond.fieldLink RX0 28 "SailorCandles$Chapel" "sightingAge" "[I", Cond.methodLink RX2 189 yX0_darkCount, Cond.instanceMethod yX0_darkCount, Cond.selects RX0 yX0_darkCount yX0_darkCount, Cond.code yX0_darkCount cX0_darkCount 3 (some .int), Cond.methodLink RX0 94 yX0_darkFor, Cond.instanceMethod yX0_darkFor, Cond.selects RX0 yX0_darkFor yX0_darkFor, Cond.code yX0_darkFor cX0_darkFor 2 (some .boolean), Cond.fieldLink RX0 31 "SailorCandles$Chapel" "harbour" "LSailorCandles$Harbour;", Cond.fieldLink RX0 22 "SailorCandles$Chapel" "candle" "[I"]
def wsX2_digest_r2 : List Cond := [Cond.methodLink RX0 61 yX1_shipWith, Cond.instanceMethod yX1_shipWith, Cond.selects RX1 yX1_shipWith yX1_shipWith, Cond.initialized RX1, Cond.code yX1_shipWith cX1_shipWith 2 (some .int), Cond.fieldLink RX1 15 "SailorCandles$Harbour" "ship" "[I", Cond.methodLink RX0 79 yX0_stayOf, Cond.instanceMethod yX0_stayOf, Cond.selects RX0 yX0_stayOf yX0_stayOf, Cond.code yX0_stayOf cX0_stayOf 2 (some .int), Cond.fieldLink RX0 9 "SailorCandles$Chapel" "stay" "[I", Cond.static yX2_at, Cond.code yX2_at cX2_at 2 (some .int), Cond.methodLink RX2 195 yX0_lostSailors, Cond.instanceMethod yX0_lostSailors, Cond.selects RX0 yX0_lostSailors yX0_lostSailors, Cond.code yX0_lostSailors cX0_lostSailors 3 (some .int), Cond.methodLink RX2 217 yX2_mixShip, Cond.instanceMethod yX2_mixShip, Cond.selects RX2 yX2_mixShip yX2_mixShip, Cond.code yX2_mixShip cX2_mixShip 6 (some .long), Cond.methodLink RX2 56 yX2_at, Cond.methodLink RX2 65 yX0_stayOf, Cond.methodLink RX2 223 yX2_one]
def wsX2_digest_r3 : List Cond := [Cond.static yX2_one, Cond.code yX2_one cX2_one 1 (some .int), Cond.methodLink RX2 128 yX2_is, Cond.static yX2_is, Cond.code yX2_is cX2_is 2 (some .boolean), Cond.methodLink RX2 161 yX0_trustSum, Cond.instanceMethod yX0_trustSum, Cond.selects RX0 yX0_trustSum yX0_trustSum, Cond.code yX0_trustSum cX0_trustSum 4 (some .int), Cond.fieldLink RX0 25 "SailorCandles$Chapel" "trust" "[I", Cond.methodLink RX0 85 yX0_hasSighting, Cond.instanceMethod yX0_hasSighting, Cond.selects RX0 yX0_hasSighting yX0_hasSighting, Cond.code yX0_hasSighting cX0_hasSighting 4 (some .boolean), Cond.methodLink RX0 75 yX0_placeOf, Cond.static yX0_placeOf, Cond.code yX0_placeOf cX0_placeOf 2 (some .int), Cond.methodLink RX2 164 yX1_votersFor, Cond.instanceMethod yX1_votersFor, Cond.selects RX1 yX1_votersFor yX1_votersFor, Cond.code yX1_votersFor cX1_votersFor 2 (some .int), Cond.fieldLink RX1 21 "SailorCandles$Harbour" "voter" "[Z", Cond.methodLink RX1 46 yX1_countOfShip, Cond.instanceMethod yX1_countOfShip]
def wsX2_digest_r4 : List Cond := [Cond.selects RX1 yX1_countOfShip yX1_countOfShip, Cond.code yX1_countOfShip cX1_countOfShip 5 (some .int), Cond.methodLink RX2 152 yX1_votesAgainst, Cond.instanceMethod yX1_votesAgainst, Cond.selects RX1 yX1_votesAgainst yX1_votesAgainst, Cond.code yX1_votesAgainst cX1_votesAgainst 2 (some .int), Cond.fieldLink RX1 25 "SailorCandles$Harbour" "givenUp" "[Z", Cond.methodLink RX2 220 yX2_mixSailor, Cond.instanceMethod yX2_mixSailor, Cond.selects RX2 yX2_mixSailor yX2_mixSailor, Cond.code yX2_mixSailor cX2_mixSailor 6 (some .long), Cond.methodLink RX2 140 yX1_shipWith]
def wsX2_digest : List Cond := .code yX2_digest cX2_digest 4 (some .long) :: ((wsX2_digest_r1 ++ (wsX2_digest_r2 ++ (wsX2_digest_r3 ++ wsX2_digest_r4))) ++ wsX20 ++ wsX10 ++ wsX00)
def wsX3_init : List Cond := .code yX3_init cX3_init 1 none :: ([.methodLink RX3 1 objectInit, .instanceMethod objectInit, .code objectInit ⟨#[0xb1]⟩ 1 none, .classLink RX3 7 "[I", .fieldLink RX3 9 "SailorCandlesLaw$Sim" "ships" "[[I", .fieldLink RX3 15 "SailorCandlesLaw$Sim" "sailors" "[[I", .arrayClass .int, .fieldLink RX3 18 "SailorCandlesLaw$Sim" "trust" "[I", .fieldLink RX3 21 "SailorCandlesLaw$Sim" "sights" "[[I"] ++ wsX30)
def wsX3_more : List Cond := .code yX3_more cX3_more 4 (some (.array (.array .int))) :: ([.classLink RX3 7 "[I"])
def wsX3_trustIn : List Cond := .code yX3_trustIn cX3_trustIn 7 (some .int) :: ([.fieldLink RX3 21 "SailorCandlesLaw$Sim" "sights" "[[I", .fieldLink RX3 18 "SailorCandlesLaw$Sim" "trust" "[I"] ++ wsX30)
def wsX3_isSighted : List Cond := .code yX3_isSighted cX3_isSighted 8 (some .boolean) :: ([.fieldLink RX3 21 "SailorCandlesLaw$Sim" "sights" "[[I"] ++ wsX30)
def wsX3_drop : List Cond := .code yX3_drop cX3_drop 8 none :: ([.classLink RX3 7 "[I", .fieldLink RX3 21 "SailorCandlesLaw$Sim" "sights" "[[I", .methodLink RX3 43 yX3_more, .static yX3_more, .initialized RX3, .code yX3_more cX3_more 4 (some (.array (.array .int)))] ++ wsX30)
def wsX3_votes : List Cond := .code yX3_votes cX3_votes 8 (some .int) :: ([.fieldLink RX3 15 "SailorCandlesLaw$Sim" "sailors" "[[I"] ++ wsX30)
def wsX3_isDark : List Cond := .code yX3_isDark cX3_isDark 2 (some .boolean) :: ([.fieldLink RX3 9 "SailorCandlesLaw$Sim" "ships" "[[I"] ++ wsX30)
def wsX3_dark : List Cond := .code yX3_dark cX3_dark 6 (some .int) :: ([.fieldLink RX3 15 "SailorCandlesLaw$Sim" "sailors" "[[I", .methodLink RX3 47 yX3_isDark, .instanceMethod yX3_isDark, .selects RX3 yX3_isDark yX3_isDark, .initialized RX3, .code yX3_isDark cX3_isDark 2 (some .boolean), .fieldLink RX3 9 "SailorCandlesLaw$Sim" "ships" "[[I"] ++ wsX30)
def wsX3_light : List Cond := .code yX3_light cX3_light 2 (some .boolean) :: ([.fieldLink RX3 33 "SailorCandlesLaw$Sim" "wax" "I"] ++ wsX30)
def wsX3_ends : List Cond := .code yX3_ends cX3_ends 6 none :: ([.fieldLink RX3 9 "SailorCandlesLaw$Sim" "ships" "[[I", .fieldLink RX3 15 "SailorCandlesLaw$Sim" "sailors" "[[I", .fieldLink RX3 33 "SailorCandlesLaw$Sim" "wax" "I", .methodLink RX3 51 yX3_drop, .instanceMethod yX3_drop, .selects RX3 yX3_drop yX3_drop, .initialized RX3, .code yX3_drop cX3_drop 8 none, .classLink RX3 7 "[I", .fieldLink RX3 21 "SailorCandlesLaw$Sim" "sights" "[[I", .methodLink RX3 43 yX3_more, .static yX3_more, .code yX3_more cX3_more 4 (some (.array (.array .int)))] ++ wsX30)
def wsX3_pass_r1 : List Cond := [Cond.fieldLink RX3 21 "SailorCandlesLaw$Sim" "sights" "[[I", Cond.fieldLink RX3 18 "SailorCandlesLaw$Sim" "trust" "[I", Cond.fieldLink RX3 9 "SailorCandlesLaw$Sim" "ships" "[[I", Cond.fieldLink RX3 36 "SailorCandlesLaw$Sim" "unrung" "I", Cond.fieldLink RX3 15 "SailorCandlesLaw$Sim" "sailors" "[[I", Cond.fieldLink RX3 29 "SailorCandlesLaw$Sim" "night" "I", Cond.methodLink RX3 51 yX3_drop, Cond.instanceMethod yX3_drop, Cond.selects RX3 yX3_drop yX3_drop, Cond.initialized RX3, Cond.code yX3_drop cX3_drop 8 none, Cond.classLink RX3 7 "[I", Cond.methodLink RX3 43 yX3_more, Cond.static yX3_more, Cond.code yX3_more cX3_more 4 (some (.array (.array .int))), Cond.methodLink RX3 55 yX3_trustIn, Cond.instanceMethod yX3_trustIn, Cond.selects RX3 yX3_trustIn yX3_trustIn, Cond.code yX3_trustIn cX3_trustIn 7 (some .int), Cond.methodLink RX3 59 yX3_light, Cond.instanceMethod yX3_light, Cond.selects RX3 yX3_light yX3_light, Cond.code yX3_light cX3_light 2 (some .boolean), Cond.fieldLink RX3 33 "SailorCandlesLaw$Sim" "wax" "I"]
def wsX3_pass_r2 : List Cond := [Cond.methodLink RX3 62 yX3_votes, Cond.instanceMethod yX3_votes, Cond.selects RX3 yX3_votes yX3_votes, Cond.code yX3_votes cX3_votes 8 (some .int), Cond.methodLink RX3 66 yX3_ends, Cond.instanceMethod yX3_ends, Cond.selects RX3 yX3_ends yX3_ends, Cond.code yX3_ends cX3_ends 6 none]
def wsX3_pass : List Cond := .code yX3_pass cX3_pass 7 (some .int) :: ((wsX3_pass_r1 ++ wsX3_pass_r2) ++ wsX30)
def wsX3_isSame_r1 : List Cond := [Cond.fieldLink RX3 9 "SailorCandlesLaw$Sim" "ships" "[[I", Cond.fieldLink RX3 15 "SailorCandlesLaw$Sim" "sailors" "[[I", Cond.fieldLink RX3 18 "SailorCandlesLaw$Sim" "trust" "[I", Cond.fieldLink RX3 21 "SailorCandlesLaw$Sim" "sights" "[[I", Cond.fieldLink RX3 29 "SailorCandlesLaw$Sim" "night" "I", Cond.fieldLink RX3 33 "SailorCandlesLaw$Sim" "wax" "I", Cond.fieldLink RX3 36 "SailorCandlesLaw$Sim" "unrung" "I", Cond.methodLink RX3 62 yX3_votes, Cond.instanceMethod yX3_votes, Cond.selects RX3 yX3_votes yX3_votes, Cond.initialized RX3, Cond.code yX3_votes cX3_votes 8 (some .int), Cond.methodLink RX3 70 yX2_mastsOf, Cond.instanceMethod yX2_mastsOf, Cond.selects RX2 yX2_mastsOf yX2_mastsOf, Cond.initialized RX2, Cond.code yX2_mastsOf cX2_mastsOf 2 (some .int), Cond.fieldLink RX2 10 "SailorCandles" "harbour" "LSailorCandles$Harbour;", Cond.methodLink RX2 48 yX2_needShip, Cond.instanceMethod yX2_needShip, Cond.selects RX2 yX2_needShip yX2_needShip, Cond.code yX2_needShip cX2_needShip 2 none, Cond.classLink RX2 60 "java/lang/IndexOutOfBoundsException", Cond.initialized "java/lang/IndexOutOfBoundsException"]
def wsX3_isSame_r2 : List Cond := [Cond.methodLink RX2 56 yX2_at, Cond.static yX2_at, Cond.code yX2_at cX2_at 2 (some .int), Cond.methodLink RX3 75 yX2_isAway, Cond.instanceMethod yX2_isAway, Cond.selects RX2 yX2_isAway yX2_isAway, Cond.code yX2_isAway cX2_isAway 2 (some .boolean), Cond.fieldLink RX2 21 "SailorCandles" "now" "LSailorCandles$Chapel;", Cond.methodLink RX2 65 yX0_stayOf, Cond.instanceMethod yX0_stayOf, Cond.selects RX0 yX0_stayOf yX0_stayOf, Cond.initialized RX0, Cond.code yX0_stayOf cX0_stayOf 2 (some .int), Cond.fieldLink RX0 9 "SailorCandles$Chapel" "stay" "[I", Cond.methodLink RX3 79 yX2_isLost, Cond.instanceMethod yX2_isLost, Cond.selects RX2 yX2_isLost yX2_isLost, Cond.code yX2_isLost cX2_isLost 2 (some .boolean), Cond.methodLink RX3 82 yX2_nightsOut, Cond.instanceMethod yX2_nightsOut, Cond.selects RX2 yX2_nightsOut yX2_nightsOut, Cond.code yX2_nightsOut cX2_nightsOut 2 (some .int), Cond.methodLink RX3 85 yX2_isRung, Cond.instanceMethod yX2_isRung]
def wsX3_isSame_r3 : List Cond := [Cond.selects RX2 yX2_isRung yX2_isRung, Cond.code yX2_isRung cX2_isRung 2 (some .boolean), Cond.methodLink RX2 128 yX2_is, Cond.static yX2_is, Cond.code yX2_is cX2_is 2 (some .boolean), Cond.methodLink RX3 88 yX2_trustIn, Cond.instanceMethod yX2_trustIn, Cond.selects RX2 yX2_trustIn yX2_trustIn, Cond.code yX2_trustIn cX2_trustIn 2 (some .int), Cond.methodLink RX2 161 yX0_trustSum, Cond.instanceMethod yX0_trustSum, Cond.selects RX0 yX0_trustSum yX0_trustSum, Cond.code yX0_trustSum cX0_trustSum 4 (some .int), Cond.fieldLink RX0 25 "SailorCandles$Chapel" "trust" "[I", Cond.methodLink RX0 85 yX0_hasSighting, Cond.instanceMethod yX0_hasSighting, Cond.selects RX0 yX0_hasSighting yX0_hasSighting, Cond.code yX0_hasSighting cX0_hasSighting 4 (some .boolean), Cond.fieldLink RX0 28 "SailorCandles$Chapel" "sightingAge" "[I", Cond.methodLink RX0 75 yX0_placeOf, Cond.static yX0_placeOf, Cond.code yX0_placeOf cX0_placeOf 2 (some .int), Cond.methodLink RX3 55 yX3_trustIn, Cond.instanceMethod yX3_trustIn]
def wsX3_isSame_r4 : List Cond := [Cond.selects RX3 yX3_trustIn yX3_trustIn, Cond.code yX3_trustIn cX3_trustIn 7 (some .int), Cond.methodLink RX3 89 yX2_voters, Cond.instanceMethod yX2_voters, Cond.selects RX2 yX2_voters yX2_voters, Cond.code yX2_voters cX2_voters 2 (some .int), Cond.methodLink RX2 164 yX1_votersFor, Cond.instanceMethod yX1_votersFor, Cond.selects RX1 yX1_votersFor yX1_votersFor, Cond.initialized RX1, Cond.code yX1_votersFor cX1_votersFor 2 (some .int), Cond.fieldLink RX1 21 "SailorCandles$Harbour" "voter" "[Z", Cond.methodLink RX1 46 yX1_countOfShip, Cond.instanceMethod yX1_countOfShip, Cond.selects RX1 yX1_countOfShip yX1_countOfShip, Cond.code yX1_countOfShip cX1_countOfShip 5 (some .int), Cond.fieldLink RX1 15 "SailorCandles$Harbour" "ship" "[I", Cond.methodLink RX3 92 yX2_votesForLost, Cond.instanceMethod yX2_votesForLost, Cond.selects RX2 yX2_votesForLost yX2_votesForLost, Cond.code yX2_votesForLost cX2_votesForLost 2 (some .int), Cond.methodLink RX2 152 yX1_votesAgainst, Cond.instanceMethod yX1_votesAgainst, Cond.selects RX1 yX1_votesAgainst yX1_votesAgainst]
def wsX3_isSame_r5 : List Cond := [Cond.code yX1_votesAgainst cX1_votesAgainst 2 (some .int), Cond.fieldLink RX1 25 "SailorCandles$Harbour" "givenUp" "[Z", Cond.methodLink RX3 95 yX2_votesMissing, Cond.instanceMethod yX2_votesMissing, Cond.selects RX2 yX2_votesMissing yX2_votesMissing, Cond.code yX2_votesMissing cX2_votesMissing 2 (some .int), Cond.methodLink RX2 167 yX1_votesToLose, Cond.instanceMethod yX1_votesToLose, Cond.selects RX1 yX1_votesToLose yX1_votesToLose, Cond.code yX1_votesToLose cX1_votesToLose 3 (some .int), Cond.methodLink RX1 57 Lib.Math.max.name, Cond.static Lib.Math.max.name, Cond.initialized "java/lang/Math", Cond.code Lib.Math.max.name Lib.Math.max.code 2 (some .int), Cond.methodLink RX1 50 yX1_votersFor, Cond.methodLink RX1 54 yX1_votesAgainst, Cond.methodLink RX3 98 yX2_shipOf, Cond.instanceMethod yX2_shipOf, Cond.selects RX2 yX2_shipOf yX2_shipOf, Cond.code yX2_shipOf cX2_shipOf 2 (some .int), Cond.methodLink RX2 132 yX2_needSailor, Cond.instanceMethod yX2_needSailor, Cond.selects RX2 yX2_needSailor yX2_needSailor, Cond.code yX2_needSailor cX2_needSailor 2 none]
def wsX3_isSame_r6 : List Cond := [Cond.methodLink RX2 140 yX1_shipWith, Cond.instanceMethod yX1_shipWith, Cond.selects RX1 yX1_shipWith yX1_shipWith, Cond.code yX1_shipWith cX1_shipWith 2 (some .int), Cond.methodLink RX3 101 yX2_mastOf, Cond.instanceMethod yX2_mastOf, Cond.selects RX2 yX2_mastOf yX2_mastOf, Cond.code yX2_mastOf cX2_mastOf 2 (some .int), Cond.methodLink RX3 104 yX2_hasVoter, Cond.instanceMethod yX2_hasVoter, Cond.selects RX2 yX2_hasVoter yX2_hasVoter, Cond.code yX2_hasVoter cX2_hasVoter 2 (some .boolean), Cond.methodLink RX3 107 yX2_isGivenUp, Cond.instanceMethod yX2_isGivenUp, Cond.selects RX2 yX2_isGivenUp yX2_isGivenUp, Cond.code yX2_isGivenUp cX2_isGivenUp 2 (some .boolean), Cond.methodLink RX3 110 yX2_candleOf, Cond.instanceMethod yX2_candleOf, Cond.selects RX2 yX2_candleOf yX2_candleOf, Cond.code yX2_candleOf cX2_candleOf 2 (some .int), Cond.methodLink RX3 113 yX2_isDark, Cond.instanceMethod yX2_isDark, Cond.selects RX2 yX2_isDark yX2_isDark, Cond.code yX2_isDark cX2_isDark 2 (some .boolean)]
def wsX3_isSame_r7 : List Cond := [Cond.methodLink RX2 176 yX0_darkFor, Cond.instanceMethod yX0_darkFor, Cond.selects RX0 yX0_darkFor yX0_darkFor, Cond.code yX0_darkFor cX0_darkFor 2 (some .boolean), Cond.fieldLink RX0 31 "SailorCandles$Chapel" "harbour" "LSailorCandles$Harbour;", Cond.fieldLink RX0 22 "SailorCandles$Chapel" "candle" "[I", Cond.methodLink RX0 61 yX1_shipWith, Cond.methodLink RX0 79 yX0_stayOf, Cond.methodLink RX3 47 yX3_isDark, Cond.instanceMethod yX3_isDark, Cond.selects RX3 yX3_isDark yX3_isDark, Cond.code yX3_isDark cX3_isDark 2 (some .boolean), Cond.methodLink RX3 115 yX2_trustOf, Cond.instanceMethod yX2_trustOf, Cond.selects RX2 yX2_trustOf yX2_trustOf, Cond.code yX2_trustOf cX2_trustOf 2 (some .int), Cond.methodLink RX2 180 yX2_needWatcher, Cond.instanceMethod yX2_needWatcher, Cond.selects RX2 yX2_needWatcher yX2_needWatcher, Cond.code yX2_needWatcher cX2_needWatcher 2 none, Cond.methodLink RX3 118 yX2_ships, Cond.instanceMethod yX2_ships, Cond.selects RX2 yX2_ships yX2_ships, Cond.code yX2_ships cX2_ships 1 (some .int)]
def wsX3_isSame_r8 : List Cond := [Cond.methodLink RX3 121 yX2_sailors, Cond.instanceMethod yX2_sailors, Cond.selects RX2 yX2_sailors yX2_sailors, Cond.code yX2_sailors cX2_sailors 1 (some .int), Cond.methodLink RX3 123 yX2_watchers, Cond.instanceMethod yX2_watchers, Cond.selects RX2 yX2_watchers yX2_watchers, Cond.code yX2_watchers cX2_watchers 1 (some .int), Cond.methodLink RX3 126 yX2_sightings, Cond.instanceMethod yX2_sightings, Cond.selects RX2 yX2_sightings yX2_sightings, Cond.code yX2_sightings cX2_sightings 1 (some .int), Cond.methodLink RX2 183 yX0_sightingCount, Cond.instanceMethod yX0_sightingCount, Cond.selects RX0 yX0_sightingCount yX0_sightingCount, Cond.code yX0_sightingCount cX0_sightingCount 3 (some .int), Cond.methodLink RX3 129 yX2_night, Cond.instanceMethod yX2_night, Cond.selects RX2 yX2_night yX2_night, Cond.code yX2_night cX2_night 1 (some .int), Cond.methodLink RX3 131 yX2_wax, Cond.instanceMethod yX2_wax, Cond.selects RX2 yX2_wax yX2_wax, Cond.code yX2_wax cX2_wax 1 (some .int)]
def wsX3_isSame_r9 : List Cond := [Cond.methodLink RX3 133 yX2_darkCandles, Cond.instanceMethod yX2_darkCandles, Cond.selects RX2 yX2_darkCandles yX2_darkCandles, Cond.code yX2_darkCandles cX2_darkCandles 1 (some .int), Cond.methodLink RX2 189 yX0_darkCount, Cond.instanceMethod yX0_darkCount, Cond.selects RX0 yX0_darkCount yX0_darkCount, Cond.code yX0_darkCount cX0_darkCount 3 (some .int), Cond.methodLink RX0 94 yX0_darkFor, Cond.methodLink RX3 136 yX3_dark, Cond.instanceMethod yX3_dark, Cond.selects RX3 yX3_dark yX3_dark, Cond.code yX3_dark cX3_dark 6 (some .int), Cond.methodLink RX3 139 yX2_bellsUnrung, Cond.instanceMethod yX2_bellsUnrung, Cond.selects RX2 yX2_bellsUnrung yX2_bellsUnrung, Cond.code yX2_bellsUnrung cX2_bellsUnrung 1 (some .int), Cond.methodLink RX3 142 yX2_namesOnWall, Cond.instanceMethod yX2_namesOnWall, Cond.selects RX2 yX2_namesOnWall yX2_namesOnWall, Cond.code yX2_namesOnWall cX2_namesOnWall 1 (some .int), Cond.methodLink RX2 195 yX0_lostSailors, Cond.instanceMethod yX0_lostSailors, Cond.selects RX0 yX0_lostSailors yX0_lostSailors]
def wsX3_isSame_r10 : List Cond := [Cond.code yX0_lostSailors cX0_lostSailors 3 (some .int), Cond.methodLink RX3 145 yX2_meanTrust, Cond.instanceMethod yX2_meanTrust, Cond.selects RX2 yX2_meanTrust yX2_meanTrust, Cond.code yX2_meanTrust cX2_meanTrust 3 (some .double)]
def wsX3_isSame : List Cond := .code yX3_isSame cX3_isSame 8 (some .boolean) :: ((wsX3_isSame_r1 ++ (wsX3_isSame_r2 ++ (wsX3_isSame_r3 ++ (wsX3_isSame_r4 ++ (wsX3_isSame_r5 ++ (wsX3_isSame_r6 ++ (wsX3_isSame_r7 ++ (wsX3_isSame_r8 ++ (wsX3_isSame_r9 ++ wsX3_isSame_r10))))))))) ++ wsX30 ++ wsX20 ++ wsX10 ++ wsX00 ++ (vx_atS RX2 64 "java/lang/IndexOutOfBoundsException" ["java/lang/RuntimeException", "java/lang/Exception"]).filter goodWord)
def wsJ9_max_7cf53 : List Cond := .code yJ9_max_7cf53 cJ9_max_7cf53 2 (some .int) :: ([])
def wsJ9_min_7cf53 : List Cond := .code yJ9_min_7cf53 cJ9_min_7cf53 2 (some .int) :: ([])
def wsL_below : List Cond := .code yL_below cL_below 2 (some .int) :: ([.constant RL 7 (2147483647)])
def wsL_cell : List Cond := .code yL_cell cL_cell 2 (some .int) :: ([.constant RL 8 (790386105)])
def wsL_refused : List Cond := .code yL_refused cL_refused 5 (some .boolean) :: ([.fieldLink RL 9 "SailorCandlesLaw$Sim" "ships" "[[I", .fieldLink RL 25 "SailorCandlesLaw$Sim" "sailors" "[[I", .fieldLink RL 21 "SailorCandlesLaw$Sim" "trust" "[I", .methodLink RL 15 yL_below, .static yL_below, .initialized RL, .code yL_below cL_below 2 (some .int), .constant RL 7 (2147483647), .methodLink RL 96 yX3_isSighted, .instanceMethod yX3_isSighted, .selects RX3 yX3_isSighted yX3_isSighted, .initialized RX3, .code yX3_isSighted cX3_isSighted 8 (some .boolean), .fieldLink RX3 21 "SailorCandlesLaw$Sim" "sights" "[[I"] ++ wsX30)
def wsL_act_r1 : List Cond := [Cond.classLink RL 94 "java/lang/IllegalStateException", Cond.fieldLink RL 9 "SailorCandlesLaw$Sim" "ships" "[[I", Cond.fieldLink RL 21 "SailorCandlesLaw$Sim" "trust" "[I", Cond.fieldLink RL 25 "SailorCandlesLaw$Sim" "sailors" "[[I", Cond.arrayClass .int, Cond.fieldLink RL 50 "SailorCandlesLaw$Sim" "wax" "I", Cond.fieldLink RL 67 "SailorCandlesLaw$Sim" "sights" "[[I", Cond.methodLink RL 15 yL_below, Cond.static yL_below, Cond.initialized RL, Cond.code yL_below cL_below 2 (some .int), Cond.constant RL 7 (2147483647), Cond.methodLink RL 28 yL_refused, Cond.static yL_refused, Cond.code yL_refused cL_refused 5 (some .boolean), Cond.methodLink RL 96 yX3_isSighted, Cond.instanceMethod yX3_isSighted, Cond.selects RX3 yX3_isSighted yX3_isSighted, Cond.initialized RX3, Cond.code yX3_isSighted cX3_isSighted 8 (some .boolean), Cond.fieldLink RX3 21 "SailorCandlesLaw$Sim" "sights" "[[I", Cond.methodLink RL 32 yX2_addShip, Cond.instanceMethod yX2_addShip, Cond.selects RX2 yX2_addShip yX2_addShip]
def wsL_act_r2 : List Cond := [Cond.initialized RX2, Cond.code yX2_addShip cX2_addShip 2 (some .int), Cond.classLink RX2 28 "java/lang/IllegalArgumentException", Cond.initialized "java/lang/IllegalArgumentException", Cond.classLink RX2 39 "java/lang/IllegalStateException", Cond.initialized "java/lang/IllegalStateException", Cond.fieldLink RX2 10 "SailorCandles" "harbour" "LSailorCandles$Harbour;", Cond.methodLink RX2 44 yX1_enterShip, Cond.instanceMethod yX1_enterShip, Cond.selects RX1 yX1_enterShip yX1_enterShip, Cond.initialized RX1, Cond.code yX1_enterShip cX1_enterShip 3 (some .int), Cond.fieldLink RX1 28 "SailorCandles$Harbour" "shipCount" "I", Cond.fieldLink RX1 9 "SailorCandles$Harbour" "masts" "[I", Cond.static yX2_put, Cond.code yX2_put cX2_put 3 none, Cond.methodLink RL 38 yX3_more, Cond.static yX3_more, Cond.code yX3_more cX3_more 4 (some (.array (.array .int))), Cond.classLink RX3 7 "[I", Cond.methodLink RL 42 yX2_addSailor, Cond.instanceMethod yX2_addSailor, Cond.selects RX2 yX2_addSailor yX2_addSailor, Cond.code yX2_addSailor cX2_addSailor 4 (some .int)]
def wsL_act_r3 : List Cond := [Cond.classLink RX2 60 "java/lang/IndexOutOfBoundsException", Cond.initialized "java/lang/IndexOutOfBoundsException", Cond.fieldLink RX2 21 "SailorCandles" "now" "LSailorCandles$Chapel;", Cond.methodLink RX2 48 yX2_needShip, Cond.instanceMethod yX2_needShip, Cond.selects RX2 yX2_needShip yX2_needShip, Cond.code yX2_needShip cX2_needShip 2 none, Cond.methodLink RX2 56 yX2_at, Cond.static yX2_at, Cond.code yX2_at cX2_at 2 (some .int), Cond.methodLink RX2 65 yX0_stayOf, Cond.instanceMethod yX0_stayOf, Cond.selects RX0 yX0_stayOf yX0_stayOf, Cond.initialized RX0, Cond.code yX0_stayOf cX0_stayOf 2 (some .int), Cond.fieldLink RX0 9 "SailorCandles$Chapel" "stay" "[I", Cond.methodLink RX2 75 yX1_enterSailor, Cond.instanceMethod yX1_enterSailor, Cond.selects RX1 yX1_enterSailor yX1_enterSailor, Cond.code yX1_enterSailor cX1_enterSailor 5 (some .int), Cond.fieldLink RX1 36 "SailorCandles$Harbour" "sailorCount" "I", Cond.fieldLink RX1 15 "SailorCandles$Harbour" "ship" "[I", Cond.fieldLink RX1 18 "SailorCandles$Harbour" "mast" "[I", Cond.fieldLink RX1 21 "SailorCandles$Harbour" "voter" "[Z"]
def wsL_act_r4 : List Cond := [Cond.static yX2_mark, Cond.code yX2_mark cX2_mark 3 none, Cond.methodLink RL 46 yX2_addWatcher, Cond.instanceMethod yX2_addWatcher, Cond.selects RX2 yX2_addWatcher yX2_addWatcher, Cond.code yX2_addWatcher cX2_addWatcher 2 (some .int), Cond.methodLink RX2 84 yX1_enterWatcher, Cond.instanceMethod yX1_enterWatcher, Cond.selects RX1 yX1_enterWatcher yX1_enterWatcher, Cond.code yX1_enterWatcher cX1_enterWatcher 2 (some .int), Cond.fieldLink RX1 43 "SailorCandles$Harbour" "watcherCount" "I", Cond.methodLink RX2 91 yX2_put, Cond.methodLink RL 54 yX2_buyWax, Cond.instanceMethod yX2_buyWax, Cond.selects RX2 yX2_buyWax yX2_buyWax, Cond.code yX2_buyWax cX2_buyWax 2 (some .int), Cond.methodLink RL 57 yX2_sail, Cond.instanceMethod yX2_sail, Cond.selects RX2 yX2_sail yX2_sail, Cond.code yX2_sail cX2_sail 2 (some .int), Cond.methodLink RX2 100 yX1_clearVotes, Cond.instanceMethod yX1_clearVotes, Cond.selects RX1 yX1_clearVotes yX1_clearVotes, Cond.code yX1_clearVotes cX1_clearVotes 3 none]
def wsL_act_r5 : List Cond := [Cond.fieldLink RX1 25 "SailorCandles$Harbour" "givenUp" "[Z", Cond.methodLink RX2 103 yX0_sendOut, Cond.instanceMethod yX0_sendOut, Cond.selects RX0 yX0_sendOut yX0_sendOut, Cond.code yX0_sendOut cX0_sendOut 4 (some .int), Cond.fieldLink RX0 15 "SailorCandles$Chapel" "outFor" "[I", Cond.fieldLink RX0 31 "SailorCandles$Chapel" "harbour" "LSailorCandles$Harbour;", Cond.methodLink RX0 61 yX1_shipWith, Cond.instanceMethod yX1_shipWith, Cond.selects RX1 yX1_shipWith yX1_shipWith, Cond.code yX1_shipWith cX1_shipWith 2 (some .int), Cond.methodLink RX0 67 yX0_lightCandle, Cond.instanceMethod yX0_lightCandle, Cond.selects RX0 yX0_lightCandle yX0_lightCandle, Cond.code yX0_lightCandle cX0_lightCandle 2 (some .boolean), Cond.fieldLink RX0 47 "SailorCandles$Chapel" "waxLeft" "I", Cond.fieldLink RX0 22 "SailorCandles$Chapel" "candle" "[I", Cond.methodLink RL 60 yX3_light, Cond.instanceMethod yX3_light, Cond.selects RX3 yX3_light yX3_light, Cond.code yX3_light cX3_light 2 (some .boolean), Cond.fieldLink RX3 33 "SailorCandlesLaw$Sim" "wax" "I", Cond.methodLink RL 64 yX2_comeHome, Cond.instanceMethod yX2_comeHome]
def wsL_act_r6 : List Cond := [Cond.selects RX2 yX2_comeHome yX2_comeHome, Cond.code yX2_comeHome cX2_comeHome 2 (some .int), Cond.methodLink RX2 108 yX0_believeWatchersOf, Cond.instanceMethod yX0_believeWatchersOf, Cond.selects RX0 yX0_believeWatchersOf yX0_believeWatchersOf, Cond.code yX0_believeWatchersOf cX0_believeWatchersOf 3 none, Cond.fieldLink RX0 25 "SailorCandles$Chapel" "trust" "[I", Cond.methodLink RX0 89 Lib.Math.min.name, Cond.static Lib.Math.min.name, Cond.initialized "java/lang/Math", Cond.code Lib.Math.min.name Lib.Math.min.code 2 (some .int), Cond.methodLink RX0 85 yX0_hasSighting, Cond.instanceMethod yX0_hasSighting, Cond.selects RX0 yX0_hasSighting yX0_hasSighting, Cond.code yX0_hasSighting cX0_hasSighting 4 (some .boolean), Cond.fieldLink RX0 28 "SailorCandles$Chapel" "sightingAge" "[I", Cond.methodLink RX0 75 yX0_placeOf, Cond.static yX0_placeOf, Cond.code yX0_placeOf cX0_placeOf 2 (some .int), Cond.methodLink RX2 111 yX0_endWaiting, Cond.instanceMethod yX0_endWaiting, Cond.selects RX0 yX0_endWaiting yX0_endWaiting, Cond.code yX0_endWaiting cX0_endWaiting 4 none, Cond.fieldLink RX0 18 "SailorCandles$Chapel" "rung" "[Z"]
def wsL_act_r7 : List Cond := [Cond.methodLink RL 70 yX3_ends, Cond.instanceMethod yX3_ends, Cond.selects RX3 yX3_ends yX3_ends, Cond.code yX3_ends cX3_ends 6 none, Cond.fieldLink RX3 9 "SailorCandlesLaw$Sim" "ships" "[[I", Cond.fieldLink RX3 15 "SailorCandlesLaw$Sim" "sailors" "[[I", Cond.methodLink RX3 51 yX3_drop, Cond.instanceMethod yX3_drop, Cond.selects RX3 yX3_drop yX3_drop, Cond.code yX3_drop cX3_drop 8 none, Cond.methodLink RX3 43 yX3_more, Cond.methodLink RL 74 yX2_sight, Cond.instanceMethod yX2_sight, Cond.selects RX2 yX2_sight yX2_sight, Cond.code yX2_sight cX2_sight 3 (some .boolean), Cond.methodLink RX2 118 yX2_needNewSighting, Cond.instanceMethod yX2_needNewSighting, Cond.selects RX2 yX2_needNewSighting yX2_needNewSighting, Cond.code yX2_needNewSighting cX2_needNewSighting 3 none, Cond.methodLink RX2 180 yX2_needWatcher, Cond.instanceMethod yX2_needWatcher, Cond.selects RX2 yX2_needWatcher yX2_needWatcher, Cond.code yX2_needWatcher cX2_needWatcher 2 none, Cond.methodLink RX2 235 yX0_hasSighting]
def wsL_act_r8 : List Cond := [Cond.methodLink RX2 121 yX0_enterSighting, Cond.instanceMethod yX0_enterSighting, Cond.selects RX0 yX0_enterSighting yX0_enterSighting, Cond.code yX0_enterSighting cX0_enterSighting 3 none, Cond.methodLink RX0 82 yX0_trustSum, Cond.instanceMethod yX0_trustSum, Cond.selects RX0 yX0_trustSum yX0_trustSum, Cond.code yX0_trustSum cX0_trustSum 4 (some .int), Cond.methodLink RX2 128 yX2_is, Cond.static yX2_is, Cond.code yX2_is cX2_is 2 (some .boolean), Cond.methodLink RL 78 yX3_trustIn, Cond.instanceMethod yX3_trustIn, Cond.selects RX3 yX3_trustIn yX3_trustIn, Cond.code yX3_trustIn cX3_trustIn 7 (some .int), Cond.fieldLink RX3 18 "SailorCandlesLaw$Sim" "trust" "[I", Cond.methodLink RL 81 yX2_vote, Cond.instanceMethod yX2_vote, Cond.selects RX2 yX2_vote yX2_vote, Cond.code yX2_vote cX2_vote 4 (some .int), Cond.methodLink RX2 132 yX2_needSailor, Cond.instanceMethod yX2_needSailor, Cond.selects RX2 yX2_needSailor yX2_needSailor, Cond.code yX2_needSailor cX2_needSailor 2 none]
def wsL_act_r9 : List Cond := [Cond.methodLink RX2 140 yX1_shipWith, Cond.methodLink RX2 148 yX2_mark, Cond.methodLink RX2 152 yX1_votesAgainst, Cond.instanceMethod yX1_votesAgainst, Cond.selects RX1 yX1_votesAgainst yX1_votesAgainst, Cond.code yX1_votesAgainst cX1_votesAgainst 2 (some .int), Cond.methodLink RX1 46 yX1_countOfShip, Cond.instanceMethod yX1_countOfShip, Cond.selects RX1 yX1_countOfShip yX1_countOfShip, Cond.code yX1_countOfShip cX1_countOfShip 5 (some .int), Cond.methodLink RL 85 yX3_votes, Cond.instanceMethod yX3_votes, Cond.selects RX3 yX3_votes yX3_votes, Cond.code yX3_votes cX3_votes 8 (some .int), Cond.methodLink RL 88 yX3_pass, Cond.instanceMethod yX3_pass, Cond.selects RX3 yX3_pass yX3_pass, Cond.code yX3_pass cX3_pass 7 (some .int), Cond.fieldLink RX3 36 "SailorCandlesLaw$Sim" "unrung" "I", Cond.fieldLink RX3 29 "SailorCandlesLaw$Sim" "night" "I", Cond.methodLink RX3 55 yX3_trustIn, Cond.methodLink RX3 59 yX3_light, Cond.methodLink RX3 62 yX3_votes, Cond.methodLink RX3 66 yX3_ends]
def wsL_act_r10 : List Cond := [Cond.methodLink RL 91 yX2_burnNights, Cond.instanceMethod yX2_burnNights, Cond.selects RX2 yX2_burnNights yX2_burnNights, Cond.code yX2_burnNights cX2_burnNights 2 (some .int), Cond.methodLink RX2 155 yX2_needNights, Cond.static yX2_needNights, Cond.code yX2_needNights cX2_needNights 2 none, Cond.methodLink RX2 158 yX0_passNights, Cond.instanceMethod yX0_passNights, Cond.selects RX0 yX0_passNights yX0_passNights, Cond.code yX0_passNights cX0_passNights 4 (some .int), Cond.methodLink RX0 97 yX0_passNight, Cond.instanceMethod yX0_passNight, Cond.selects RX0 yX0_passNight yX0_passNight, Cond.code yX0_passNight cX0_passNight 2 (some .int), Cond.fieldLink RX0 43 "SailorCandles$Chapel" "nightsPassed" "I", Cond.methodLink RX0 101 yX0_ageSightings, Cond.instanceMethod yX0_ageSightings, Cond.selects RX0 yX0_ageSightings yX0_ageSightings, Cond.code yX0_ageSightings cX0_ageSightings 2 none, Cond.methodLink RX0 113 yX0_watcherAt, Cond.static yX0_watcherAt, Cond.code yX0_watcherAt cX0_watcherAt 1 (some .int), Cond.methodLink RX0 116 yX0_doubt]
def wsL_act_r11 : List Cond := [Cond.instanceMethod yX0_doubt, Cond.selects RX0 yX0_doubt yX0_doubt, Cond.code yX0_doubt cX0_doubt 2 none, Cond.methodLink RX0 120 Lib.Math.max.name, Cond.static Lib.Math.max.name, Cond.code Lib.Math.max.name Lib.Math.max.code 2 (some .int), Cond.methodLink RX0 104 yX0_unringBells, Cond.instanceMethod yX0_unringBells, Cond.selects RX0 yX0_unringBells yX0_unringBells, Cond.code yX0_unringBells cX0_unringBells 2 none, Cond.fieldLink RX0 50 "SailorCandles$Chapel" "unringings" "I", Cond.methodLink RX0 107 yX0_burnCandles, Cond.instanceMethod yX0_burnCandles, Cond.selects RX0 yX0_burnCandles yX0_burnCandles, Cond.code yX0_burnCandles cX0_burnCandles 4 (some .int), Cond.methodLink RX0 79 yX0_stayOf, Cond.methodLink RX0 127 yX0_burnCandle, Cond.instanceMethod yX0_burnCandle, Cond.selects RX0 yX0_burnCandle yX0_burnCandle, Cond.code yX0_burnCandle cX0_burnCandle 3 none, Cond.methodLink RX0 110 yX0_countNightOut, Cond.instanceMethod yX0_countNightOut, Cond.selects RX0 yX0_countNightOut yX0_countNightOut, Cond.code yX0_countNightOut cX0_countNightOut 3 none]
def wsL_act_r12 : List Cond := [Cond.methodLink RX0 133 yX1_votesToLose, Cond.instanceMethod yX1_votesToLose, Cond.selects RX1 yX1_votesToLose yX1_votesToLose, Cond.code yX1_votesToLose cX1_votesToLose 3 (some .int), Cond.methodLink RX1 57 Lib.Math.max.name, Cond.methodLink RX1 50 yX1_votersFor, Cond.instanceMethod yX1_votersFor, Cond.selects RX1 yX1_votersFor yX1_votersFor, Cond.code yX1_votersFor cX1_votersFor 2 (some .int), Cond.methodLink RX1 54 yX1_votesAgainst, Cond.methodLink RX0 136 yX0_endWaiting]
def wsL_act : List Cond := .codeWith yL_act cL_act 12 (some .boolean) [(103, 217, 1043, 94), (218, 270, 1043, 94), (271, 322, 1043, 94), (323, 391, 1043, 94), (392, 403, 1043, 94), (404, 478, 1043, 94), (479, 537, 1043, 94), (538, 550, 1043, 94), (551, 656, 1043, 94), (657, 669, 1043, 94), (670, 774, 1043, 94), (775, 784, 1043, 94), (785, 799, 1043, 94), (800, 877, 1043, 94), (878, 887, 1043, 94), (888, 930, 1043, 94), (931, 970, 1043, 94), (971, 1042, 1043, 94)] :: ((wsL_act_r1 ++ (wsL_act_r2 ++ (wsL_act_r3 ++ (wsL_act_r4 ++ (wsL_act_r5 ++ (wsL_act_r6 ++ (wsL_act_r7 ++ (wsL_act_r8 ++ (wsL_act_r9 ++ (wsL_act_r10 ++ (wsL_act_r11 ++ wsL_act_r12))))))))))) ++ wsX30 ++ wsX20 ++ wsX10 ++ wsX00 ++ (vx_atS RX2 32 "java/lang/IllegalArgumentException" ["java/lang/RuntimeException", "java/lang/Exception"]).filter goodWord ++ (vx_atS RX2 43 "java/lang/IllegalStateException" ["java/lang/RuntimeException", "java/lang/Exception"]).filter goodWord ++ (vx_atS RX2 64 "java/lang/IndexOutOfBoundsException" ["java/lang/RuntimeException", "java/lang/Exception"]).filter goodWord)
def wsL_build_r1 : List Cond := [Cond.classLink RL 10 RX3, Cond.instantiable RX3 7, Cond.initialized RX3, Cond.fieldLink RL 9 "SailorCandlesLaw$Sim" "ships" "[[I", Cond.arrayClass .int, Cond.fieldLink RL 25 "SailorCandlesLaw$Sim" "sailors" "[[I", Cond.fieldLink RL 21 "SailorCandlesLaw$Sim" "trust" "[I", Cond.fieldLink RL 50 "SailorCandlesLaw$Sim" "wax" "I", Cond.instanceMethod yX3_init, Cond.code yX3_init cX3_init 1 none, Cond.methodLink RX3 1 objectInit, Cond.instanceMethod objectInit, Cond.code objectInit ⟨#[0xb1]⟩ 1 none, Cond.classLink RX3 7 "[I", Cond.fieldLink RX3 9 "SailorCandlesLaw$Sim" "ships" "[[I", Cond.fieldLink RX3 15 "SailorCandlesLaw$Sim" "sailors" "[[I", Cond.fieldLink RX3 18 "SailorCandlesLaw$Sim" "trust" "[I", Cond.fieldLink RX3 21 "SailorCandlesLaw$Sim" "sights" "[[I", Cond.methodLink RL 100 yL_cell, Cond.static yL_cell, Cond.initialized RL, Cond.code yL_cell cL_cell 2 (some .int), Cond.constant RL 8 (790386105), Cond.methodLink RL 15 yL_below]
def wsL_build_r2 : List Cond := [Cond.static yL_below, Cond.code yL_below cL_below 2 (some .int), Cond.constant RL 7 (2147483647), Cond.methodLink RL 38 yX3_more, Cond.static yX3_more, Cond.code yX3_more cX3_more 4 (some (.array (.array .int))), Cond.methodLink RL 32 yX2_addShip, Cond.instanceMethod yX2_addShip, Cond.selects RX2 yX2_addShip yX2_addShip, Cond.initialized RX2, Cond.code yX2_addShip cX2_addShip 2 (some .int), Cond.classLink RX2 28 "java/lang/IllegalArgumentException", Cond.initialized "java/lang/IllegalArgumentException", Cond.classLink RX2 39 "java/lang/IllegalStateException", Cond.initialized "java/lang/IllegalStateException", Cond.fieldLink RX2 10 "SailorCandles" "harbour" "LSailorCandles$Harbour;", Cond.methodLink RX2 44 yX1_enterShip, Cond.instanceMethod yX1_enterShip, Cond.selects RX1 yX1_enterShip yX1_enterShip, Cond.initialized RX1, Cond.code yX1_enterShip cX1_enterShip 3 (some .int), Cond.fieldLink RX1 28 "SailorCandles$Harbour" "shipCount" "I", Cond.fieldLink RX1 9 "SailorCandles$Harbour" "masts" "[I", Cond.static yX2_put]
def wsL_build_r3 : List Cond := [Cond.code yX2_put cX2_put 3 none, Cond.methodLink RL 42 yX2_addSailor, Cond.instanceMethod yX2_addSailor, Cond.selects RX2 yX2_addSailor yX2_addSailor, Cond.code yX2_addSailor cX2_addSailor 4 (some .int), Cond.classLink RX2 60 "java/lang/IndexOutOfBoundsException", Cond.initialized "java/lang/IndexOutOfBoundsException", Cond.fieldLink RX2 21 "SailorCandles" "now" "LSailorCandles$Chapel;", Cond.methodLink RX2 48 yX2_needShip, Cond.instanceMethod yX2_needShip, Cond.selects RX2 yX2_needShip yX2_needShip, Cond.code yX2_needShip cX2_needShip 2 none, Cond.methodLink RX2 56 yX2_at, Cond.static yX2_at, Cond.code yX2_at cX2_at 2 (some .int), Cond.methodLink RX2 65 yX0_stayOf, Cond.instanceMethod yX0_stayOf, Cond.selects RX0 yX0_stayOf yX0_stayOf, Cond.initialized RX0, Cond.code yX0_stayOf cX0_stayOf 2 (some .int), Cond.fieldLink RX0 9 "SailorCandles$Chapel" "stay" "[I", Cond.methodLink RX2 75 yX1_enterSailor, Cond.instanceMethod yX1_enterSailor, Cond.selects RX1 yX1_enterSailor yX1_enterSailor]
def wsL_build_r4 : List Cond := [Cond.code yX1_enterSailor cX1_enterSailor 5 (some .int), Cond.fieldLink RX1 36 "SailorCandles$Harbour" "sailorCount" "I", Cond.fieldLink RX1 15 "SailorCandles$Harbour" "ship" "[I", Cond.fieldLink RX1 18 "SailorCandles$Harbour" "mast" "[I", Cond.fieldLink RX1 21 "SailorCandles$Harbour" "voter" "[Z", Cond.static yX2_mark, Cond.code yX2_mark cX2_mark 3 none, Cond.methodLink RL 46 yX2_addWatcher, Cond.instanceMethod yX2_addWatcher, Cond.selects RX2 yX2_addWatcher yX2_addWatcher, Cond.code yX2_addWatcher cX2_addWatcher 2 (some .int), Cond.methodLink RX2 84 yX1_enterWatcher, Cond.instanceMethod yX1_enterWatcher, Cond.selects RX1 yX1_enterWatcher yX1_enterWatcher, Cond.code yX1_enterWatcher cX1_enterWatcher 2 (some .int), Cond.fieldLink RX1 43 "SailorCandles$Harbour" "watcherCount" "I", Cond.methodLink RX2 91 yX2_put, Cond.methodLink RL 54 yX2_buyWax, Cond.instanceMethod yX2_buyWax, Cond.selects RX2 yX2_buyWax yX2_buyWax, Cond.code yX2_buyWax cX2_buyWax 2 (some .int)]
def wsL_build : List Cond := .code yL_build cL_build 10 (some (.object "SailorCandlesLaw$Sim")) :: ((wsL_build_r1 ++ (wsL_build_r2 ++ (wsL_build_r3 ++ wsL_build_r4))) ++ wsX30 ++ wsX20 ++ wsX10 ++ wsX00 ++ (vx_atS RX2 32 "java/lang/IllegalArgumentException" ["java/lang/RuntimeException", "java/lang/Exception"]).filter goodWord ++ (vx_atS RX2 43 "java/lang/IllegalStateException" ["java/lang/RuntimeException", "java/lang/Exception"]).filter goodWord ++ (vx_atS RX2 64 "java/lang/IndexOutOfBoundsException" ["java/lang/RuntimeException", "java/lang/Exception"]).filter goodWord)
def wsL_law0_r1 : List Cond := [Cond.classLink RL 33 RX2, Cond.instantiable RX2 3, Cond.initialized RX2, Cond.arrayClass .int, Cond.methodLink RL 164 Lib.Math.max.name, Cond.static Lib.Math.max.name, Cond.initialized "java/lang/Math", Cond.code Lib.Math.max.name Lib.Math.max.code 2 (some .int), Cond.fieldLink RL 9 "SailorCandlesLaw$Sim" "ships" "[[I", Cond.fieldLink RL 67 "SailorCandlesLaw$Sim" "sights" "[[I", Cond.fieldLink RL 50 "SailorCandlesLaw$Sim" "wax" "I", Cond.methodLink RL 193 Lib.Math.min.name, Cond.static Lib.Math.min.name, Cond.code Lib.Math.min.name Lib.Math.min.code 2 (some .int), Cond.methodLink RL 104 yX2_init, Cond.instanceMethod yX2_init, Cond.code yX2_init cX2_init 2 none, Cond.methodLink RX2 1 objectInit, Cond.instanceMethod objectInit, Cond.code objectInit ⟨#[0xb1]⟩ 1 none, Cond.classLink RX2 7 RX1, Cond.instantiable RX1 8, Cond.initialized RX1, Cond.fieldLink RX2 10 "SailorCandles" "harbour" "LSailorCandles$Harbour;"]
def wsL_law0_r2 : List Cond := [Cond.classLink RX2 16 RX0, Cond.instantiable RX0 10, Cond.initialized RX0, Cond.fieldLink RX2 21 "SailorCandles" "now" "LSailorCandles$Chapel;", Cond.fieldLink RX2 25 "SailorCandles" "trial" "LSailorCandles$Chapel;", Cond.methodLink RX2 9 yX1_init, Cond.instanceMethod yX1_init, Cond.code yX1_init cX1_init 2 none, Cond.methodLink RX1 3 objectInit, Cond.fieldLink RX1 9 "SailorCandles$Harbour" "masts" "[I", Cond.fieldLink RX1 15 "SailorCandles$Harbour" "ship" "[I", Cond.fieldLink RX1 18 "SailorCandles$Harbour" "mast" "[I", Cond.arrayClass .boolean, Cond.fieldLink RX1 21 "SailorCandles$Harbour" "voter" "[Z", Cond.fieldLink RX1 25 "SailorCandles$Harbour" "givenUp" "[Z", Cond.methodLink RX2 18 yX0_init, Cond.instanceMethod yX0_init, Cond.code yX0_init cX0_init 3 none, Cond.methodLink RX0 3 objectInit, Cond.fieldLink RX0 9 "SailorCandles$Chapel" "stay" "[I", Cond.fieldLink RX0 15 "SailorCandles$Chapel" "outFor" "[I", Cond.fieldLink RX0 18 "SailorCandles$Chapel" "rung" "[Z", Cond.fieldLink RX0 22 "SailorCandles$Chapel" "candle" "[I", Cond.fieldLink RX0 25 "SailorCandles$Chapel" "trust" "[I"]
def wsL_law0_r3 : List Cond := [Cond.fieldLink RX0 28 "SailorCandles$Chapel" "sightingAge" "[I", Cond.fieldLink RX0 31 "SailorCandles$Chapel" "harbour" "LSailorCandles$Harbour;", Cond.methodLink RL 105 yL_build, Cond.static yL_build, Cond.initialized RL, Cond.code yL_build cL_build 10 (some (.object "SailorCandlesLaw$Sim")), Cond.classLink RL 10 RX3, Cond.instantiable RX3 7, Cond.initialized RX3, Cond.fieldLink RL 25 "SailorCandlesLaw$Sim" "sailors" "[[I", Cond.fieldLink RL 21 "SailorCandlesLaw$Sim" "trust" "[I", Cond.instanceMethod yX3_init, Cond.code yX3_init cX3_init 1 none, Cond.methodLink RX3 1 objectInit, Cond.classLink RX3 7 "[I", Cond.fieldLink RX3 9 "SailorCandlesLaw$Sim" "ships" "[[I", Cond.fieldLink RX3 15 "SailorCandlesLaw$Sim" "sailors" "[[I", Cond.fieldLink RX3 18 "SailorCandlesLaw$Sim" "trust" "[I", Cond.fieldLink RX3 21 "SailorCandlesLaw$Sim" "sights" "[[I", Cond.methodLink RL 100 yL_cell, Cond.static yL_cell, Cond.code yL_cell cL_cell 2 (some .int), Cond.constant RL 8 (790386105), Cond.methodLink RL 15 yL_below]
def wsL_law0_r4 : List Cond := [Cond.static yL_below, Cond.code yL_below cL_below 2 (some .int), Cond.constant RL 7 (2147483647), Cond.methodLink RL 38 yX3_more, Cond.static yX3_more, Cond.code yX3_more cX3_more 4 (some (.array (.array .int))), Cond.methodLink RL 32 yX2_addShip, Cond.instanceMethod yX2_addShip, Cond.selects RX2 yX2_addShip yX2_addShip, Cond.code yX2_addShip cX2_addShip 2 (some .int), Cond.classLink RX2 28 "java/lang/IllegalArgumentException", Cond.initialized "java/lang/IllegalArgumentException", Cond.classLink RX2 39 "java/lang/IllegalStateException", Cond.initialized "java/lang/IllegalStateException", Cond.methodLink RX2 44 yX1_enterShip, Cond.instanceMethod yX1_enterShip, Cond.selects RX1 yX1_enterShip yX1_enterShip, Cond.code yX1_enterShip cX1_enterShip 3 (some .int), Cond.fieldLink RX1 28 "SailorCandles$Harbour" "shipCount" "I", Cond.static yX2_put, Cond.code yX2_put cX2_put 3 none, Cond.methodLink RL 42 yX2_addSailor, Cond.instanceMethod yX2_addSailor, Cond.selects RX2 yX2_addSailor yX2_addSailor]
def wsL_law0_r5 : List Cond := [Cond.code yX2_addSailor cX2_addSailor 4 (some .int), Cond.classLink RX2 60 "java/lang/IndexOutOfBoundsException", Cond.initialized "java/lang/IndexOutOfBoundsException", Cond.methodLink RX2 48 yX2_needShip, Cond.instanceMethod yX2_needShip, Cond.selects RX2 yX2_needShip yX2_needShip, Cond.code yX2_needShip cX2_needShip 2 none, Cond.methodLink RX2 56 yX2_at, Cond.static yX2_at, Cond.code yX2_at cX2_at 2 (some .int), Cond.methodLink RX2 65 yX0_stayOf, Cond.instanceMethod yX0_stayOf, Cond.selects RX0 yX0_stayOf yX0_stayOf, Cond.code yX0_stayOf cX0_stayOf 2 (some .int), Cond.methodLink RX2 75 yX1_enterSailor, Cond.instanceMethod yX1_enterSailor, Cond.selects RX1 yX1_enterSailor yX1_enterSailor, Cond.code yX1_enterSailor cX1_enterSailor 5 (some .int), Cond.fieldLink RX1 36 "SailorCandles$Harbour" "sailorCount" "I", Cond.static yX2_mark, Cond.code yX2_mark cX2_mark 3 none, Cond.methodLink RL 46 yX2_addWatcher, Cond.instanceMethod yX2_addWatcher, Cond.selects RX2 yX2_addWatcher yX2_addWatcher]
def wsL_law0_r6 : List Cond := [Cond.code yX2_addWatcher cX2_addWatcher 2 (some .int), Cond.methodLink RX2 84 yX1_enterWatcher, Cond.instanceMethod yX1_enterWatcher, Cond.selects RX1 yX1_enterWatcher yX1_enterWatcher, Cond.code yX1_enterWatcher cX1_enterWatcher 2 (some .int), Cond.fieldLink RX1 43 "SailorCandles$Harbour" "watcherCount" "I", Cond.methodLink RX2 91 yX2_put, Cond.methodLink RL 54 yX2_buyWax, Cond.instanceMethod yX2_buyWax, Cond.selects RX2 yX2_buyWax yX2_buyWax, Cond.code yX2_buyWax cX2_buyWax 2 (some .int), Cond.methodLink RL 109 yL_act, Cond.static yL_act, Cond.codeWith yL_act cL_act 12 (some .boolean) [(103, 217, 1043, 94), (218, 270, 1043, 94), (271, 322, 1043, 94), (323, 391, 1043, 94), (392, 403, 1043, 94), (404, 478, 1043, 94), (479, 537, 1043, 94), (538, 550, 1043, 94), (551, 656, 1043, 94), (657, 669, 1043, 94), (670, 774, 1043, 94), (775, 784, 1043, 94), (785, 799, 1043, 94), (800, 877, 1043, 94), (878, 887, 1043, 94), (888, 930, 1043, 94), (931, 970, 1043, 94), (971, 1042, 1043, 94)], Cond.classLink RL 94 "java/lang/IllegalStateException", Cond.methodLink RL 28 yL_refused, Cond.static yL_refused, Cond.code yL_refused cL_refused 5 (some .boolean), Cond.methodLink RL 96 yX3_isSighted, Cond.instanceMethod yX3_isSighted, Cond.selects RX3 yX3_isSighted yX3_isSighted, Cond.code yX3_isSighted cX3_isSighted 8 (some .boolean), Cond.methodLink RL 57 yX2_sail, Cond.instanceMethod yX2_sail]
def wsL_law0_r7 : List Cond := [Cond.selects RX2 yX2_sail yX2_sail, Cond.code yX2_sail cX2_sail 2 (some .int), Cond.methodLink RX2 100 yX1_clearVotes, Cond.instanceMethod yX1_clearVotes, Cond.selects RX1 yX1_clearVotes yX1_clearVotes, Cond.code yX1_clearVotes cX1_clearVotes 3 none, Cond.methodLink RX2 103 yX0_sendOut, Cond.instanceMethod yX0_sendOut, Cond.selects RX0 yX0_sendOut yX0_sendOut, Cond.code yX0_sendOut cX0_sendOut 4 (some .int), Cond.methodLink RX0 61 yX1_shipWith, Cond.instanceMethod yX1_shipWith, Cond.selects RX1 yX1_shipWith yX1_shipWith, Cond.code yX1_shipWith cX1_shipWith 2 (some .int), Cond.methodLink RX0 67 yX0_lightCandle, Cond.instanceMethod yX0_lightCandle, Cond.selects RX0 yX0_lightCandle yX0_lightCandle, Cond.code yX0_lightCandle cX0_lightCandle 2 (some .boolean), Cond.fieldLink RX0 47 "SailorCandles$Chapel" "waxLeft" "I", Cond.methodLink RL 60 yX3_light, Cond.instanceMethod yX3_light, Cond.selects RX3 yX3_light yX3_light, Cond.code yX3_light cX3_light 2 (some .boolean), Cond.fieldLink RX3 33 "SailorCandlesLaw$Sim" "wax" "I"]
def wsL_law0_r8 : List Cond := [Cond.methodLink RL 64 yX2_comeHome, Cond.instanceMethod yX2_comeHome, Cond.selects RX2 yX2_comeHome yX2_comeHome, Cond.code yX2_comeHome cX2_comeHome 2 (some .int), Cond.methodLink RX2 108 yX0_believeWatchersOf, Cond.instanceMethod yX0_believeWatchersOf, Cond.selects RX0 yX0_believeWatchersOf yX0_believeWatchersOf, Cond.code yX0_believeWatchersOf cX0_believeWatchersOf 3 none, Cond.methodLink RX0 89 Lib.Math.min.name, Cond.methodLink RX0 85 yX0_hasSighting, Cond.instanceMethod yX0_hasSighting, Cond.selects RX0 yX0_hasSighting yX0_hasSighting, Cond.code yX0_hasSighting cX0_hasSighting 4 (some .boolean), Cond.methodLink RX0 75 yX0_placeOf, Cond.static yX0_placeOf, Cond.code yX0_placeOf cX0_placeOf 2 (some .int), Cond.methodLink RX2 111 yX0_endWaiting, Cond.instanceMethod yX0_endWaiting, Cond.selects RX0 yX0_endWaiting yX0_endWaiting, Cond.code yX0_endWaiting cX0_endWaiting 4 none, Cond.methodLink RL 70 yX3_ends, Cond.instanceMethod yX3_ends, Cond.selects RX3 yX3_ends yX3_ends, Cond.code yX3_ends cX3_ends 6 none]
def wsL_law0_r9 : List Cond := [Cond.methodLink RX3 51 yX3_drop, Cond.instanceMethod yX3_drop, Cond.selects RX3 yX3_drop yX3_drop, Cond.code yX3_drop cX3_drop 8 none, Cond.methodLink RX3 43 yX3_more, Cond.methodLink RL 74 yX2_sight, Cond.instanceMethod yX2_sight, Cond.selects RX2 yX2_sight yX2_sight, Cond.code yX2_sight cX2_sight 3 (some .boolean), Cond.methodLink RX2 118 yX2_needNewSighting, Cond.instanceMethod yX2_needNewSighting, Cond.selects RX2 yX2_needNewSighting yX2_needNewSighting, Cond.code yX2_needNewSighting cX2_needNewSighting 3 none, Cond.methodLink RX2 180 yX2_needWatcher, Cond.instanceMethod yX2_needWatcher, Cond.selects RX2 yX2_needWatcher yX2_needWatcher, Cond.code yX2_needWatcher cX2_needWatcher 2 none, Cond.methodLink RX2 235 yX0_hasSighting, Cond.methodLink RX2 121 yX0_enterSighting, Cond.instanceMethod yX0_enterSighting, Cond.selects RX0 yX0_enterSighting yX0_enterSighting, Cond.code yX0_enterSighting cX0_enterSighting 3 none, Cond.methodLink RX0 82 yX0_trustSum, Cond.instanceMethod yX0_trustSum]
def wsL_law0_r10 : List Cond := [Cond.selects RX0 yX0_trustSum yX0_trustSum, Cond.code yX0_trustSum cX0_trustSum 4 (some .int), Cond.methodLink RX2 128 yX2_is, Cond.static yX2_is, Cond.code yX2_is cX2_is 2 (some .boolean), Cond.methodLink RL 78 yX3_trustIn, Cond.instanceMethod yX3_trustIn, Cond.selects RX3 yX3_trustIn yX3_trustIn, Cond.code yX3_trustIn cX3_trustIn 7 (some .int), Cond.methodLink RL 81 yX2_vote, Cond.instanceMethod yX2_vote, Cond.selects RX2 yX2_vote yX2_vote, Cond.code yX2_vote cX2_vote 4 (some .int), Cond.methodLink RX2 132 yX2_needSailor, Cond.instanceMethod yX2_needSailor, Cond.selects RX2 yX2_needSailor yX2_needSailor, Cond.code yX2_needSailor cX2_needSailor 2 none, Cond.methodLink RX2 140 yX1_shipWith, Cond.methodLink RX2 148 yX2_mark, Cond.methodLink RX2 152 yX1_votesAgainst, Cond.instanceMethod yX1_votesAgainst, Cond.selects RX1 yX1_votesAgainst yX1_votesAgainst, Cond.code yX1_votesAgainst cX1_votesAgainst 2 (some .int), Cond.methodLink RX1 46 yX1_countOfShip]
def wsL_law0_r11 : List Cond := [Cond.instanceMethod yX1_countOfShip, Cond.selects RX1 yX1_countOfShip yX1_countOfShip, Cond.code yX1_countOfShip cX1_countOfShip 5 (some .int), Cond.methodLink RL 85 yX3_votes, Cond.instanceMethod yX3_votes, Cond.selects RX3 yX3_votes yX3_votes, Cond.code yX3_votes cX3_votes 8 (some .int), Cond.methodLink RL 88 yX3_pass, Cond.instanceMethod yX3_pass, Cond.selects RX3 yX3_pass yX3_pass, Cond.code yX3_pass cX3_pass 7 (some .int), Cond.fieldLink RX3 36 "SailorCandlesLaw$Sim" "unrung" "I", Cond.fieldLink RX3 29 "SailorCandlesLaw$Sim" "night" "I", Cond.methodLink RX3 55 yX3_trustIn, Cond.methodLink RX3 59 yX3_light, Cond.methodLink RX3 62 yX3_votes, Cond.methodLink RX3 66 yX3_ends, Cond.methodLink RL 91 yX2_burnNights, Cond.instanceMethod yX2_burnNights, Cond.selects RX2 yX2_burnNights yX2_burnNights, Cond.code yX2_burnNights cX2_burnNights 2 (some .int), Cond.methodLink RX2 155 yX2_needNights, Cond.static yX2_needNights, Cond.code yX2_needNights cX2_needNights 2 none]
def wsL_law0_r12 : List Cond := [Cond.methodLink RX2 158 yX0_passNights, Cond.instanceMethod yX0_passNights, Cond.selects RX0 yX0_passNights yX0_passNights, Cond.code yX0_passNights cX0_passNights 4 (some .int), Cond.methodLink RX0 97 yX0_passNight, Cond.instanceMethod yX0_passNight, Cond.selects RX0 yX0_passNight yX0_passNight, Cond.code yX0_passNight cX0_passNight 2 (some .int), Cond.fieldLink RX0 43 "SailorCandles$Chapel" "nightsPassed" "I", Cond.methodLink RX0 101 yX0_ageSightings, Cond.instanceMethod yX0_ageSightings, Cond.selects RX0 yX0_ageSightings yX0_ageSightings, Cond.code yX0_ageSightings cX0_ageSightings 2 none, Cond.methodLink RX0 113 yX0_watcherAt, Cond.static yX0_watcherAt, Cond.code yX0_watcherAt cX0_watcherAt 1 (some .int), Cond.methodLink RX0 116 yX0_doubt, Cond.instanceMethod yX0_doubt, Cond.selects RX0 yX0_doubt yX0_doubt, Cond.code yX0_doubt cX0_doubt 2 none, Cond.methodLink RX0 120 Lib.Math.max.name, Cond.methodLink RX0 104 yX0_unringBells, Cond.instanceMethod yX0_unringBells, Cond.selects RX0 yX0_unringBells yX0_unringBells]
def wsL_law0_r13 : List Cond := [Cond.code yX0_unringBells cX0_unringBells 2 none, Cond.fieldLink RX0 50 "SailorCandles$Chapel" "unringings" "I", Cond.methodLink RX0 107 yX0_burnCandles, Cond.instanceMethod yX0_burnCandles, Cond.selects RX0 yX0_burnCandles yX0_burnCandles, Cond.code yX0_burnCandles cX0_burnCandles 4 (some .int), Cond.methodLink RX0 79 yX0_stayOf, Cond.methodLink RX0 127 yX0_burnCandle, Cond.instanceMethod yX0_burnCandle, Cond.selects RX0 yX0_burnCandle yX0_burnCandle, Cond.code yX0_burnCandle cX0_burnCandle 3 none, Cond.methodLink RX0 110 yX0_countNightOut, Cond.instanceMethod yX0_countNightOut, Cond.selects RX0 yX0_countNightOut yX0_countNightOut, Cond.code yX0_countNightOut cX0_countNightOut 3 none, Cond.methodLink RX0 133 yX1_votesToLose, Cond.instanceMethod yX1_votesToLose, Cond.selects RX1 yX1_votesToLose yX1_votesToLose, Cond.code yX1_votesToLose cX1_votesToLose 3 (some .int), Cond.methodLink RX1 57 Lib.Math.max.name, Cond.methodLink RX1 50 yX1_votersFor, Cond.instanceMethod yX1_votersFor, Cond.selects RX1 yX1_votersFor yX1_votersFor, Cond.code yX1_votersFor cX1_votersFor 2 (some .int)]
def wsL_law0_r14 : List Cond := [Cond.methodLink RX1 54 yX1_votesAgainst, Cond.methodLink RX0 136 yX0_endWaiting, Cond.methodLink RL 113 yX2_digest, Cond.instanceMethod yX2_digest, Cond.selects RX2 yX2_digest yX2_digest, Cond.code yX2_digest cX2_digest 4 (some .long), Cond.constantLong RX2 211 (1949), Cond.methodLink RX2 213 yX2_mix, Cond.static yX2_mix, Cond.code yX2_mix cX2_mix 3 (some .long), Cond.constantLong RX2 227 (31), Cond.methodLink RX2 183 yX0_sightingCount, Cond.instanceMethod yX0_sightingCount, Cond.selects RX0 yX0_sightingCount yX0_sightingCount, Cond.code yX0_sightingCount cX0_sightingCount 3 (some .int), Cond.methodLink RX2 189 yX0_darkCount, Cond.instanceMethod yX0_darkCount, Cond.selects RX0 yX0_darkCount yX0_darkCount, Cond.code yX0_darkCount cX0_darkCount 3 (some .int), Cond.methodLink RX0 94 yX0_darkFor, Cond.instanceMethod yX0_darkFor, Cond.selects RX0 yX0_darkFor yX0_darkFor, Cond.code yX0_darkFor cX0_darkFor 2 (some .boolean), Cond.methodLink RX2 195 yX0_lostSailors]
def wsL_law0_r15 : List Cond := [Cond.instanceMethod yX0_lostSailors, Cond.selects RX0 yX0_lostSailors yX0_lostSailors, Cond.code yX0_lostSailors cX0_lostSailors 3 (some .int), Cond.methodLink RX2 217 yX2_mixShip, Cond.instanceMethod yX2_mixShip, Cond.selects RX2 yX2_mixShip yX2_mixShip, Cond.code yX2_mixShip cX2_mixShip 6 (some .long), Cond.methodLink RX2 223 yX2_one, Cond.static yX2_one, Cond.code yX2_one cX2_one 1 (some .int), Cond.methodLink RX2 161 yX0_trustSum, Cond.methodLink RX2 164 yX1_votersFor, Cond.methodLink RX2 220 yX2_mixSailor, Cond.instanceMethod yX2_mixSailor, Cond.selects RX2 yX2_mixSailor yX2_mixSailor, Cond.code yX2_mixSailor cX2_mixSailor 6 (some .long), Cond.methodLink RL 117 yX2_ships, Cond.instanceMethod yX2_ships, Cond.selects RX2 yX2_ships yX2_ships, Cond.code yX2_ships cX2_ships 1 (some .int), Cond.methodLink RL 119 yX2_wax, Cond.instanceMethod yX2_wax, Cond.selects RX2 yX2_wax yX2_wax, Cond.code yX2_wax cX2_wax 1 (some .int)]
def wsL_law0_r16 : List Cond := [Cond.methodLink RL 121 yX2_sailors, Cond.instanceMethod yX2_sailors, Cond.selects RX2 yX2_sailors yX2_sailors, Cond.code yX2_sailors cX2_sailors 1 (some .int), Cond.methodLink RL 123 yX2_shipOf, Cond.instanceMethod yX2_shipOf, Cond.selects RX2 yX2_shipOf yX2_shipOf, Cond.code yX2_shipOf cX2_shipOf 2 (some .int), Cond.methodLink RL 126 yX2_isAway, Cond.instanceMethod yX2_isAway, Cond.selects RX2 yX2_isAway yX2_isAway, Cond.code yX2_isAway cX2_isAway 2 (some .boolean), Cond.methodLink RL 130 yX2_isLost, Cond.instanceMethod yX2_isLost, Cond.selects RX2 yX2_isLost yX2_isLost, Cond.code yX2_isLost cX2_isLost 2 (some .boolean), Cond.methodLink RL 133 yX2_candleOf, Cond.instanceMethod yX2_candleOf, Cond.selects RX2 yX2_candleOf yX2_candleOf, Cond.code yX2_candleOf cX2_candleOf 2 (some .int), Cond.methodLink RL 136 yX2_isDark, Cond.instanceMethod yX2_isDark, Cond.selects RX2 yX2_isDark yX2_isDark, Cond.code yX2_isDark cX2_isDark 2 (some .boolean)]
def wsL_law0_r17 : List Cond := [Cond.methodLink RX2 176 yX0_darkFor, Cond.methodLink RL 139 yX2_mastOf, Cond.instanceMethod yX2_mastOf, Cond.selects RX2 yX2_mastOf yX2_mastOf, Cond.code yX2_mastOf cX2_mastOf 2 (some .int), Cond.methodLink RL 142 yX2_mastsOf, Cond.instanceMethod yX2_mastsOf, Cond.selects RX2 yX2_mastsOf yX2_mastsOf, Cond.code yX2_mastsOf cX2_mastsOf 2 (some .int), Cond.methodLink RL 145 yX2_hasVoter, Cond.instanceMethod yX2_hasVoter, Cond.selects RX2 yX2_hasVoter yX2_hasVoter, Cond.code yX2_hasVoter cX2_hasVoter 2 (some .boolean), Cond.methodLink RL 148 yX2_isGivenUp, Cond.instanceMethod yX2_isGivenUp, Cond.selects RX2 yX2_isGivenUp yX2_isGivenUp, Cond.code yX2_isGivenUp cX2_isGivenUp 2 (some .boolean), Cond.methodLink RL 151 yX2_isRung, Cond.instanceMethod yX2_isRung, Cond.selects RX2 yX2_isRung yX2_isRung, Cond.code yX2_isRung cX2_isRung 2 (some .boolean), Cond.methodLink RL 154 yX2_trustIn, Cond.instanceMethod yX2_trustIn, Cond.selects RX2 yX2_trustIn yX2_trustIn]
def wsL_law0_r18 : List Cond := [Cond.code yX2_trustIn cX2_trustIn 2 (some .int), Cond.methodLink RL 155 yX2_voters, Cond.instanceMethod yX2_voters, Cond.selects RX2 yX2_voters yX2_voters, Cond.code yX2_voters cX2_voters 2 (some .int), Cond.methodLink RL 158 yX2_votesForLost, Cond.instanceMethod yX2_votesForLost, Cond.selects RX2 yX2_votesForLost yX2_votesForLost, Cond.code yX2_votesForLost cX2_votesForLost 2 (some .int), Cond.methodLink RL 161 yX2_votesMissing, Cond.instanceMethod yX2_votesMissing, Cond.selects RX2 yX2_votesMissing yX2_votesMissing, Cond.code yX2_votesMissing cX2_votesMissing 2 (some .int), Cond.methodLink RX2 167 yX1_votesToLose, Cond.methodLink RL 169 yX2_watchers, Cond.instanceMethod yX2_watchers, Cond.selects RX2 yX2_watchers yX2_watchers, Cond.code yX2_watchers cX2_watchers 1 (some .int), Cond.methodLink RL 172 yX2_trustOf, Cond.instanceMethod yX2_trustOf, Cond.selects RX2 yX2_trustOf yX2_trustOf, Cond.code yX2_trustOf cX2_trustOf 2 (some .int), Cond.methodLink RL 175 yX2_nightsUntilDark, Cond.instanceMethod yX2_nightsUntilDark]
def wsL_law0_r19 : List Cond := [Cond.selects RX2 yX2_nightsUntilDark yX2_nightsUntilDark, Cond.code yX2_nightsUntilDark cX2_nightsUntilDark 2 (some .int), Cond.methodLink RX2 200 yX0_copyFrom, Cond.instanceMethod yX0_copyFrom, Cond.selects RX0 yX0_copyFrom yX0_copyFrom, Cond.code yX0_copyFrom cX0_copyFrom 2 none, Cond.static yX2_copyRow, Cond.code yX2_copyRow cX2_copyRow 3 none, Cond.static yX2_copyMarks, Cond.code yX2_copyMarks cX2_copyMarks 3 none, Cond.methodLink RX2 204 yX0_passNight, Cond.methodLink RL 178 yX2_darkCandles, Cond.instanceMethod yX2_darkCandles, Cond.selects RX2 yX2_darkCandles yX2_darkCandles, Cond.code yX2_darkCandles cX2_darkCandles 1 (some .int), Cond.methodLink RL 181 yX2_namesOnWall, Cond.instanceMethod yX2_namesOnWall, Cond.selects RX2 yX2_namesOnWall yX2_namesOnWall, Cond.code yX2_namesOnWall cX2_namesOnWall 1 (some .int), Cond.methodLink RL 184 yX2_wouldRing, Cond.instanceMethod yX2_wouldRing, Cond.selects RX2 yX2_wouldRing yX2_wouldRing, Cond.code yX2_wouldRing cX2_wouldRing 3 (some .boolean), Cond.methodLink RL 187 yX2_waxWanted]
def wsL_law0_r20 : List Cond := [Cond.instanceMethod yX2_waxWanted, Cond.selects RX2 yX2_waxWanted yX2_waxWanted, Cond.code yX2_waxWanted cX2_waxWanted 4 (some .int), Cond.methodLink RX2 207 yX2_wouldStayLit, Cond.instanceMethod yX2_wouldStayLit, Cond.selects RX2 yX2_wouldStayLit yX2_wouldStayLit, Cond.code yX2_wouldStayLit cX2_wouldStayLit 4 (some .boolean), Cond.methodLink RL 190 yX2_bellsUnrung, Cond.instanceMethod yX2_bellsUnrung, Cond.selects RX2 yX2_bellsUnrung yX2_bellsUnrung, Cond.code yX2_bellsUnrung cX2_bellsUnrung 1 (some .int), Cond.methodLink RL 196 yX3_isSame, Cond.instanceMethod yX3_isSame, Cond.selects RX3 yX3_isSame yX3_isSame, Cond.code yX3_isSame cX3_isSame 8 (some .boolean), Cond.methodLink RX3 70 yX2_mastsOf, Cond.methodLink RX3 75 yX2_isAway, Cond.methodLink RX3 79 yX2_isLost, Cond.methodLink RX3 82 yX2_nightsOut, Cond.instanceMethod yX2_nightsOut, Cond.selects RX2 yX2_nightsOut yX2_nightsOut, Cond.code yX2_nightsOut cX2_nightsOut 2 (some .int), Cond.methodLink RX3 85 yX2_isRung, Cond.methodLink RX3 88 yX2_trustIn]
def wsL_law0_r21 : List Cond := [Cond.methodLink RX3 89 yX2_voters, Cond.methodLink RX3 92 yX2_votesForLost, Cond.methodLink RX3 95 yX2_votesMissing, Cond.methodLink RX3 98 yX2_shipOf, Cond.methodLink RX3 101 yX2_mastOf, Cond.methodLink RX3 104 yX2_hasVoter, Cond.methodLink RX3 107 yX2_isGivenUp, Cond.methodLink RX3 110 yX2_candleOf, Cond.methodLink RX3 113 yX2_isDark, Cond.methodLink RX3 47 yX3_isDark, Cond.instanceMethod yX3_isDark, Cond.selects RX3 yX3_isDark yX3_isDark, Cond.code yX3_isDark cX3_isDark 2 (some .boolean), Cond.methodLink RX3 115 yX2_trustOf, Cond.methodLink RX3 118 yX2_ships, Cond.methodLink RX3 121 yX2_sailors, Cond.methodLink RX3 123 yX2_watchers, Cond.methodLink RX3 126 yX2_sightings, Cond.instanceMethod yX2_sightings, Cond.selects RX2 yX2_sightings yX2_sightings, Cond.code yX2_sightings cX2_sightings 1 (some .int), Cond.methodLink RX3 129 yX2_night, Cond.instanceMethod yX2_night, Cond.selects RX2 yX2_night yX2_night]
def wsL_law0_r22 : List Cond := [Cond.code yX2_night cX2_night 1 (some .int), Cond.methodLink RX3 131 yX2_wax, Cond.methodLink RX3 133 yX2_darkCandles, Cond.methodLink RX3 136 yX3_dark, Cond.instanceMethod yX3_dark, Cond.selects RX3 yX3_dark yX3_dark, Cond.code yX3_dark cX3_dark 6 (some .int), Cond.methodLink RX3 139 yX2_bellsUnrung, Cond.methodLink RX3 142 yX2_namesOnWall, Cond.methodLink RX3 145 yX2_meanTrust, Cond.instanceMethod yX2_meanTrust, Cond.selects RX2 yX2_meanTrust yX2_meanTrust, Cond.code yX2_meanTrust cX2_meanTrust 3 (some .double)]
def wsL_law0 : List Cond := (wsL_law0_r1 ++ (wsL_law0_r2 ++ (wsL_law0_r3 ++ (wsL_law0_r4 ++ (wsL_law0_r5 ++ (wsL_law0_r6 ++ (wsL_law0_r7 ++ (wsL_law0_r8 ++ (wsL_law0_r9 ++ (wsL_law0_r10 ++ (wsL_law0_r11 ++ (wsL_law0_r12 ++ (wsL_law0_r13 ++ (wsL_law0_r14 ++ (wsL_law0_r15 ++ (wsL_law0_r16 ++ (wsL_law0_r17 ++ (wsL_law0_r18 ++ (wsL_law0_r19 ++ (wsL_law0_r20 ++ (wsL_law0_r21 ++ wsL_law0_r22))))))))))))))))))))) ++ wsX20 ++ wsX30 ++ wsX10 ++ wsX00 ++ ([] : List Cond)
def wsL_law : List Cond := wsL_law0 ++ (vx_atS RX2 32 "java/lang/IllegalArgumentException" ["java/lang/RuntimeException", "java/lang/Exception"]).filter goodWord ++ (vx_atS RX2 43 "java/lang/IllegalStateException" ["java/lang/RuntimeException", "java/lang/Exception"]).filter goodWord ++ (vx_atS RX2 64 "java/lang/IndexOutOfBoundsException" ["java/lang/RuntimeException", "java/lang/Exception"]).filter goodWord
theorem inX4 : ∀ w ∈ wsX40, w ∈ lw_tbl := by decide +kernel
theorem inJ9 : ∀ w ∈ wsJ90, w ∈ lw_tbl := by decide +kernel
theorem inJ0 : ∀ w ∈ wsJ00, w ∈ lw_tbl := by decide +kernel
abbrev vwCl : List vw_C := [(RX0, TX0, 10), (RX1, TX1, 8), (RX2, TX2, 3), (RX3, TX3, 7)]

