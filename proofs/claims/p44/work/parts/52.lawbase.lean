def R_law : String := "SailorCandlesLaw"
def lw_P (b : Addr) (xs : List Int32) (args : Array Value) (s : State) : Prop := args = #[.ref b] ∧ s.IntsAt b xs ∧ xs.length ≤ 260 ∧ (Jvm.Cond.and given_1 narrow_1).before args s = true
/-- what a walk over the start with the record d0 says of its end, said of the start itself -/
theorem lw_closed {s t : State} {o : Outcome} {d0 : Drawn} {L : List Loc} {k n : Nat} (hd0 : s.drawn.sameBut d0 lw_cs) (hv : ∃ v, o = .returned v) (hW : (s.setDrawn d0).WarmedH t.vm) (hs : (s.setDrawn d0).sameButNew ({ t with vm := s.vm } : State) L k n) : State.butDraws s t lw_cs (fun t1 => Framed s o t1 L k n) := by
  have h2 : t.drawn = d0 := congrArg State.drawn hs.1
  refine ⟨⟨hv, hW, State.sameButNew.setDrawn hs s.drawn⟩, ?_, by decide⟩
  rw [h2]
  exact hd0
def lw_Q (_ : Array Value) (s : State) (o : Outcome) (t : State) : Prop := o = .returned (some (.int 1)) ∧ State.butDraws s t lw_cs (fun t1 => Framed s o t1 [] 600130 7301080)
def lw_Z (below : List Frame) (a : Array Value) (s : State) : State → Prop := fun t => ∃ o, t.status = .running ∧ Ended t below o ∧ lw_Q a s o t
/-- the law's own end, with 1 on the stack, nothing written that was there before, its room as the claim has it; d0: the record of draws at this point (at the entry s.drawn: begin with 'refine W.base ?_' and 'have hd0 := Drawn.sameBut.refl s.drawn lw_cs') -/
theorem lw_ret {p : Program} {l : Launch} {e : Env} {s : State} {m : MethodId} {below : List Frame} {meth : Method} {c : Code} {b : Nat} {d0 : Drawn} (hd0 : s.drawn.sameBut d0 lw_cs) (hx : p.tables.exec = Jvm.exec) (hb : c.code = code) (hr : meth.sig.returnType = ret) (hlocks : meth.locks = false) {pc : Nat} {H : Heap} {ls : Array Slot} (hdg : decode code pc = .ok (.ireturn, 1)) : W p l e room_1 (s.setDrawn d0) m #[Value.ref b] below meth c H [] 600130 7301080 (lw_Z below #[Value.ref b] s) (F0 m pc ls [.int 1]) := by
  intro T hT X
  obtain ⟨fs, hret, hrun, hended, hW, hframe⟩ := X.leave (v := some (.int 1)) (hlocks := hlocks) (fun h => by rw [hr] at h; cases h)
  have hmeth' : T.vm.method? m = some meth := X.method'
  refine ⟨T.setFrames fs, ?_, .returned (some (.int 1)), hrun, hended, rfl, lw_closed hd0 ⟨_, rfl⟩ hW hframe⟩
  jvm_step X.here [X.here.top, hx, hb, hdg, hmeth', hr, ret, narrow_b1]
  (try refine ⟨rfl, ?_⟩); (try refine ⟨rfl, ?_⟩)
  first | (intro acts; rw [hret _ acts rfl rfl rfl]) | rw [hret _ _ rfl rfl rfl]
  exact Steps.refl _
/-- what holds at the law's entry: the machine, the code, the tables' words (any of lw_tbl by 'hts w (by decide +kernel)'), the script of L ints xs at the cell b, what the Statement gives of the start (any of its parts by flat_of_before) -/
def lw_At (p : Program) (s : State) (m : MethodId) (meth : Method) (c : Code) (b L : Nat) (xs : Nat → Int32) : Prop :=
  p.tables.exec = Jvm.exec ∧ c.code = code ∧ meth.sig.returnType = ret ∧ c.maxLocals = 29 ∧ s.vm.findClass R_law = some m.cls ∧ (∀ w ∈ lw_tbl, w.before #[Value.ref b] s = true) ∧ va_X b L xs s s.heap ∧ b < s.heap.size ∧ meth.locks = false ∧ (Jvm.Cond.and given_1 narrow_1).before #[Value.ref b] s = true
/-! ===== the law's body: its own sums and rows ===== -/
def l_vt (so : FnN) (b : Nat → Bool) (f : Fn) : Nat → Fn | 0 => f | i + 1 => upd (l_vt so b f i) (so i) (l_vt so b f i (so i) + bI (b i))
def l_sb (b : Nat → Bool) : Nat → Int32 | 0 => 0 | i + 1 => l_sb b i + bI (b i)
def l_sc (f : Fn) (c : Int32) : Nat → Int32 | 0 => c | i + 1 => l_sc f c i + f i
def l_lt (b : Nat → Bool) (f : Fn) : Nat → Fn | 0 => f | i + 1 => upd (l_lt b f i) i (bI (b i))
def l_hd (f : Fn) : Nat → Fn | 0 => fun _ => 0 | i + 1 => upd (l_hd f i) i (f i)
def l_hr (b : Nat → Bool) : Nat → Fn | 0 => fun _ => 0 | i + 1 => upd (l_hr b i) i (bI (b i))
def l_ob (b : Nat → Bool) : Nat → Bool | 0 => false | i + 1 => l_ob b i || b i
def l_bu (c : Nat → Bool) (f : Fn) : Nat → Int32 | 0 => 0 | i + 1 => if c i = true then l_bu c f i + f i else l_bu c f i
section KIORB
variable {p : Program} {l : Launch} {e : Env} {R : Room} {s : State} {m : MethodId} {args : Array Value} {below : List Frame} {meth : Method} {c : Code} {H : Heap} {locs : List Loc} {cells slots : Nat} {Q : State → Prop}
variable {cc : ByteArray} {pc : Nat} {ls : Array Slot} {rest : List Value}
theorem k_iorB (hx : p.tables.exec = Jvm.exec) (hb : c.code = cc) {a b : Bool} (hdg : decode cc pc = .ok (.ior, 1)) (kk : W p l e R s m args below meth c H locs cells slots Q (F0 m (pc + 1) ls (.int (bI (a || b)) :: rest))) : W p l e R s m args below meth c H locs cells slots Q (F0 m pc ls (.int (bI b) :: .int (bI a) :: rest)) :=
  lv_ior hx hb hdg (by rw [show bI a ||| bI b = bI (a || b) from by cases a <;> cases b <;> decide]; exact kk)
end KIORB
abbrev aL (s : State) : Nat → Prop := fun q => s.heap.size ≤ q
theorem rp_83 {E : Ev} {x0 : Nat} {b0 c0 d0 : Nat → Nat} {a1 : Nat → Nat} {h1 : Nat} {S1 : CS} {a2 : Nat → Nat} {h2 : Nat} {S2 : CS} {a3 : Nat → Nat} {S3 : HS} {n4 : Nat} {a4 : Nat} {S4 : Fn} {n5 : Nat} {a5 : Nat} {S5 : Fn} {n6 : Nat} {a6 : Nat} {S6 : Fn} {a7 : Nat} {b7 : AP} {S7 : SM} : Rp (wX x0 b0 c0 d0 ++ wC E a1 h1 S1 ++ wC E a2 h2 S2 ++ wG E a3 S3 ++ [(a4, aI E n4 S4)] ++ [(a5, aI E n5 S5)] ++ [(a6, aI E n6 S6)] ++ wS E a7 b7 S7) (wX x0 b0 c0 d0 ++ wC E a1 h1 S1 ++ wC E a2 h2 S2 ++ wG E a3 S3) (wX x0 b0 c0 d0 ++ wC E a1 h1 S1 ++ wC E a2 h2 S2 ++ wG E a3 S3) (wX x0 b0 c0 d0 ++ wC E a1 h1 S1 ++ wC E a2 h2 S2 ++ wG E a3 S3 ++ [(a4, aI E n4 S4)] ++ [(a5, aI E n5 S5)] ++ [(a6, aI E n6 S6)] ++ wS E a7 b7 S7) := by
  refine ⟨[(a4, aI E n4 S4)] ++ [(a5, aI E n5 S5)] ++ [(a6, aI E n6 S6)] ++ wS E a7 b7 S7, perm9 (fun a => ?_), perm9 (fun a => ?_), rfl⟩
  · simp only [cnt9_app, cnt9_cons, cnt9_nil] <;> omega
  · simp only [cnt9_app, cnt9_cons, cnt9_nil] <;> omega
theorem rp_84 {E : Ev} {x0 : Nat} {b0 c0 d0 : Nat → Nat} {a1 : Nat → Nat} {h1 : Nat} {S1 : CS} {a2 : Nat → Nat} {h2 : Nat} {S2 : CS} {a3 : Nat → Nat} {S3 : HS} {n4 : Nat} {a4 : Nat} {S4 : Fn} {n5 : Nat} {a5 : Nat} {S5 : Fn} {n6 : Nat} {a6 : Nat} {S6 : Fn} {a7 : Nat} {b7 : AP} {S7 : SM} : Rp (wX x0 b0 c0 d0 ++ wC E a1 h1 S1 ++ wC E a2 h2 S2 ++ wG E a3 S3 ++ [(a4, aI E n4 S4)] ++ [(a5, aI E n5 S5)] ++ [(a6, aI E n6 S6)] ++ wS E a7 b7 S7) (wX x0 b0 c0 d0 ++ wC E a1 h1 S1 ++ wC E a2 h2 S2 ++ wG E a3 S3) (wX x0 b0 c0 d0 ++ wC E a1 h1 S1 ++ wC E a2 h2 S2 ++ wG E a3 S3) (wX x0 b0 c0 d0 ++ wC E a1 h1 S1 ++ wC E a2 h2 S2 ++ wG E a3 S3 ++ [(a4, aI E n4 S4)] ++ [(a5, aI E n5 S5)] ++ [(a6, aI E n6 S6)] ++ wS E a7 b7 S7) := by
  refine ⟨[(a4, aI E n4 S4)] ++ [(a5, aI E n5 S5)] ++ [(a6, aI E n6 S6)] ++ wS E a7 b7 S7, perm9 (fun a => ?_), perm9 (fun a => ?_), rfl⟩
  · simp only [cnt9_app, cnt9_cons, cnt9_nil] <;> omega
  · simp only [cnt9_app, cnt9_cons, cnt9_nil] <;> omega
theorem rp_85 {E : Ev} {x0 : Nat} {b0 c0 d0 : Nat → Nat} {a1 : Nat → Nat} {h1 : Nat} {S1 : CS} {a2 : Nat → Nat} {h2 : Nat} {S2 V2 : CS} {a3 : Nat → Nat} {S3 : HS} {n4 : Nat} {a4 : Nat} {S4 : Fn} {n5 : Nat} {a5 : Nat} {S5 : Fn} {n6 : Nat} {a6 : Nat} {S6 : Fn} {a7 : Nat} {b7 : AP} {S7 : SM} : Rp (wX x0 b0 c0 d0 ++ wC E a1 h1 S1 ++ wC E a2 h2 S2 ++ wG E a3 S3 ++ [(a4, aI E n4 S4)] ++ [(a5, aI E n5 S5)] ++ [(a6, aI E n6 S6)] ++ wS E a7 b7 S7) (wX x0 b0 c0 d0 ++ wC E a1 h1 S1 ++ wC E a2 h2 S2 ++ wG E a3 S3) (wX x0 b0 c0 d0 ++ wC E a1 h1 S1 ++ wC E a2 h2 V2 ++ wG E a3 S3) (wX x0 b0 c0 d0 ++ wC E a1 h1 S1 ++ wC E a2 h2 V2 ++ wG E a3 S3 ++ [(a4, aI E n4 S4)] ++ [(a5, aI E n5 S5)] ++ [(a6, aI E n6 S6)] ++ wS E a7 b7 S7) := by
  refine ⟨[(a4, aI E n4 S4)] ++ [(a5, aI E n5 S5)] ++ [(a6, aI E n6 S6)] ++ wS E a7 b7 S7, perm9 (fun a => ?_), perm9 (fun a => ?_), rfl⟩
  · simp only [cnt9_app, cnt9_cons, cnt9_nil] <;> omega
  · simp only [cnt9_app, cnt9_cons, cnt9_nil] <;> omega
theorem rp_86 {E : Ev} {x0 : Nat} {b0 c0 d0 : Nat → Nat} {a1 : Nat → Nat} {h1 : Nat} {S1 : CS} {a2 : Nat → Nat} {h2 : Nat} {S2 : CS} {a3 : Nat → Nat} {S3 : HS} {n4 : Nat} {a4 : Nat} {S4 : Fn} {n5 : Nat} {a5 : Nat} {S5 : Fn} {n6 : Nat} {a6 : Nat} {S6 : Fn} {a7 : Nat} {b7 : AP} {S7 : SM} : Rp (wX x0 b0 c0 d0 ++ wC E a1 h1 S1 ++ wC E a2 h2 S2 ++ wG E a3 S3 ++ [(a4, aI E n4 S4)] ++ [(a5, aI E n5 S5)] ++ [(a6, aI E n6 S6)] ++ wS E a7 b7 S7) (([] : va_W)) (([] : va_W)) (wX x0 b0 c0 d0 ++ wC E a1 h1 S1 ++ wC E a2 h2 S2 ++ wG E a3 S3 ++ [(a4, aI E n4 S4)] ++ [(a5, aI E n5 S5)] ++ [(a6, aI E n6 S6)] ++ wS E a7 b7 S7) := by
  refine ⟨wX x0 b0 c0 d0 ++ wC E a1 h1 S1 ++ wC E a2 h2 S2 ++ wG E a3 S3 ++ [(a4, aI E n4 S4)] ++ [(a5, aI E n5 S5)] ++ [(a6, aI E n6 S6)] ++ wS E a7 b7 S7, perm9 (fun a => ?_), perm9 (fun a => ?_), rfl⟩
  · simp only [cnt9_app, cnt9_cons, cnt9_nil] <;> omega
  · simp only [cnt9_app, cnt9_cons, cnt9_nil] <;> omega
theorem rp_87 {E : Ev} {x0 : Nat} {b0 c0 d0 : Nat → Nat} {a1 : Nat → Nat} {h1 : Nat} {S1 : CS} {a2 : Nat → Nat} {h2 : Nat} {S2 : CS} {a3 : Nat → Nat} {S3 : HS} {n4 : Nat} {a4 : Nat} {S4 : Fn} {n5 : Nat} {a5 : Nat} {S5 : Fn} {n6 : Nat} {a6 : Nat} {S6 : Fn} {a7 : Nat} {b7 : AP} {S7 : SM} : Rp (wX x0 b0 c0 d0 ++ wC E a1 h1 S1 ++ wC E a2 h2 S2 ++ wG E a3 S3 ++ [(a4, aI E n4 S4)] ++ [(a5, aI E n5 S5)] ++ [(a6, aI E n6 S6)] ++ wS E a7 b7 S7) (wS E a7 b7 S7) (wS E a7 b7 S7) (wX x0 b0 c0 d0 ++ wC E a1 h1 S1 ++ wC E a2 h2 S2 ++ wG E a3 S3 ++ [(a4, aI E n4 S4)] ++ [(a5, aI E n5 S5)] ++ [(a6, aI E n6 S6)] ++ wS E a7 b7 S7) := by
  refine ⟨wX x0 b0 c0 d0 ++ wC E a1 h1 S1 ++ wC E a2 h2 S2 ++ wG E a3 S3 ++ [(a4, aI E n4 S4)] ++ [(a5, aI E n5 S5)] ++ [(a6, aI E n6 S6)], perm9 (fun a => ?_), perm9 (fun a => ?_), rfl⟩
  · simp only [cnt9_app, cnt9_cons, cnt9_nil] <;> omega
  · simp only [cnt9_app, cnt9_cons, cnt9_nil] <;> omega
theorem rp_88 {E : Ev} {x0 : Nat} {b0 c0 d0 : Nat → Nat} {a1 : Nat → Nat} {h1 : Nat} {S1 V1 : CS} {a2 : Nat → Nat} {h2 : Nat} {S2 : CS} {a3 : Nat → Nat} {S3 : HS} {n4 : Nat} {a4 : Nat} {S4 : Fn} {n5 : Nat} {a5 : Nat} {S5 : Fn} {n6 : Nat} {a6 : Nat} {S6 : Fn} {a7 : Nat} {b7 : AP} {S7 : SM} : Rp (wX x0 b0 c0 d0 ++ wC E a1 h1 S1 ++ wC E a2 h2 S2 ++ wG E a3 S3 ++ [(a4, aI E n4 S4)] ++ [(a5, aI E n5 S5)] ++ [(a6, aI E n6 S6)] ++ wS E a7 b7 S7) (wX x0 b0 c0 d0 ++ wC E a1 h1 S1 ++ wC E a2 h2 S2 ++ wG E a3 S3) (wX x0 b0 c0 d0 ++ wC E a1 h1 V1 ++ wC E a2 h2 S2 ++ wG E a3 S3) (wX x0 b0 c0 d0 ++ wC E a1 h1 V1 ++ wC E a2 h2 S2 ++ wG E a3 S3 ++ [(a4, aI E n4 S4)] ++ [(a5, aI E n5 S5)] ++ [(a6, aI E n6 S6)] ++ wS E a7 b7 S7) := by
  refine ⟨[(a4, aI E n4 S4)] ++ [(a5, aI E n5 S5)] ++ [(a6, aI E n6 S6)] ++ wS E a7 b7 S7, perm9 (fun a => ?_), perm9 (fun a => ?_), rfl⟩
  · simp only [cnt9_app, cnt9_cons, cnt9_nil] <;> omega
  · simp only [cnt9_app, cnt9_cons, cnt9_nil] <;> omega
theorem rp_89 {E : Ev} {x0 : Nat} {b0 c0 d0 : Nat → Nat} {a1 : Nat → Nat} {h1 : Nat} {S1 : CS} {a2 : Nat → Nat} {h2 : Nat} {S2 : CS} {a3 : Nat → Nat} {S3 : HS} {n4 : Nat} {a4 : Nat} {S4 : Fn} {n5 : Nat} {a5 : Nat} {S5 : Fn} {n6 : Nat} {a6 : Nat} {S6 : Fn} {n7 : Nat} {a7 : Nat} {S7 : Fn} {n8 : Nat} {a8 : Nat} {S8 : Fn} {a9 : Nat} {b9 : AP} {S9 : SM} : Rp (wX x0 b0 c0 d0 ++ wC E a1 h1 S1 ++ wC E a2 h2 S2 ++ wG E a3 S3 ++ [(a4, aI E n4 S4)] ++ [(a5, aI E n5 S5)] ++ [(a6, aI E n6 S6)] ++ [(a7, aI E n7 S7)] ++ [(a8, aI E n8 S8)] ++ wS E a9 b9 S9) (wX x0 b0 c0 d0 ++ wC E a1 h1 S1 ++ wC E a2 h2 S2 ++ wG E a3 S3) (wX x0 b0 c0 d0 ++ wC E a1 h1 S1 ++ wC E a2 h2 S2 ++ wG E a3 S3) (wX x0 b0 c0 d0 ++ wC E a1 h1 S1 ++ wC E a2 h2 S2 ++ wG E a3 S3 ++ [(a4, aI E n4 S4)] ++ [(a5, aI E n5 S5)] ++ [(a6, aI E n6 S6)] ++ [(a7, aI E n7 S7)] ++ [(a8, aI E n8 S8)] ++ wS E a9 b9 S9) := by
  refine ⟨[(a4, aI E n4 S4)] ++ [(a5, aI E n5 S5)] ++ [(a6, aI E n6 S6)] ++ [(a7, aI E n7 S7)] ++ [(a8, aI E n8 S8)] ++ wS E a9 b9 S9, perm9 (fun a => ?_), perm9 (fun a => ?_), rfl⟩
  · simp only [cnt9_app, cnt9_cons, cnt9_nil] <;> omega
  · simp only [cnt9_app, cnt9_cons, cnt9_nil] <;> omega
theorem rp_90 {E : Ev} {x0 : Nat} {b0 c0 d0 : Nat → Nat} {a1 : Nat → Nat} {h1 : Nat} {S1 V1 : CS} {a2 : Nat → Nat} {h2 : Nat} {S2 : CS} {a3 : Nat → Nat} {S3 : HS} {n4 : Nat} {a4 : Nat} {S4 : Fn} {n5 : Nat} {a5 : Nat} {S5 : Fn} {n6 : Nat} {a6 : Nat} {S6 : Fn} {n7 : Nat} {a7 : Nat} {S7 : Fn} {n8 : Nat} {a8 : Nat} {S8 : Fn} {a9 : Nat} {b9 : AP} {S9 : SM} : Rp (wX x0 b0 c0 d0 ++ wC E a1 h1 S1 ++ wC E a2 h2 S2 ++ wG E a3 S3 ++ [(a4, aI E n4 S4)] ++ [(a5, aI E n5 S5)] ++ [(a6, aI E n6 S6)] ++ [(a7, aI E n7 S7)] ++ [(a8, aI E n8 S8)] ++ wS E a9 b9 S9) (wX x0 b0 c0 d0 ++ wC E a1 h1 S1 ++ wC E a2 h2 S2 ++ wG E a3 S3) (wX x0 b0 c0 d0 ++ wC E a1 h1 V1 ++ wC E a2 h2 S2 ++ wG E a3 S3) (wX x0 b0 c0 d0 ++ wC E a1 h1 V1 ++ wC E a2 h2 S2 ++ wG E a3 S3 ++ [(a4, aI E n4 S4)] ++ [(a5, aI E n5 S5)] ++ [(a6, aI E n6 S6)] ++ [(a7, aI E n7 S7)] ++ [(a8, aI E n8 S8)] ++ wS E a9 b9 S9) := by
  refine ⟨[(a4, aI E n4 S4)] ++ [(a5, aI E n5 S5)] ++ [(a6, aI E n6 S6)] ++ [(a7, aI E n7 S7)] ++ [(a8, aI E n8 S8)] ++ wS E a9 b9 S9, perm9 (fun a => ?_), perm9 (fun a => ?_), rfl⟩
  · simp only [cnt9_app, cnt9_cons, cnt9_nil] <;> omega
  · simp only [cnt9_app, cnt9_cons, cnt9_nil] <;> omega
theorem rp_91 {E : Ev} {x0 : Nat} {b0 c0 d0 : Nat → Nat} {a1 : Nat → Nat} {h1 : Nat} {S1 : CS} {a2 : Nat → Nat} {h2 : Nat} {S2 : CS} {a3 : Nat → Nat} {S3 : HS} {n4 : Nat} {a4 : Nat} {S4 : Fn} {n5 : Nat} {a5 : Nat} {S5 : Fn} {n6 : Nat} {a6 : Nat} {S6 : Fn} {n7 : Nat} {a7 : Nat} {S7 : Fn} {n8 : Nat} {a8 : Nat} {S8 : Fn} {a9 : Nat} {b9 : AP} {S9 : SM} : Rp (wX x0 b0 c0 d0 ++ wC E a1 h1 S1 ++ wC E a2 h2 S2 ++ wG E a3 S3 ++ [(a4, aI E n4 S4)] ++ [(a5, aI E n5 S5)] ++ [(a6, aI E n6 S6)] ++ [(a7, aI E n7 S7)] ++ [(a8, aI E n8 S8)] ++ wS E a9 b9 S9) (wX x0 b0 c0 d0 ++ wC E a1 h1 S1 ++ wC E a2 h2 S2 ++ wG E a3 S3) (wX x0 b0 c0 d0 ++ wC E a1 h1 S1 ++ wC E a2 h2 S2 ++ wG E a3 S3) (wX x0 b0 c0 d0 ++ wC E a1 h1 S1 ++ wC E a2 h2 S2 ++ wG E a3 S3 ++ [(a4, aI E n4 S4)] ++ [(a5, aI E n5 S5)] ++ [(a6, aI E n6 S6)] ++ [(a7, aI E n7 S7)] ++ [(a8, aI E n8 S8)] ++ wS E a9 b9 S9) := by
  refine ⟨[(a4, aI E n4 S4)] ++ [(a5, aI E n5 S5)] ++ [(a6, aI E n6 S6)] ++ [(a7, aI E n7 S7)] ++ [(a8, aI E n8 S8)] ++ wS E a9 b9 S9, perm9 (fun a => ?_), perm9 (fun a => ?_), rfl⟩
  · simp only [cnt9_app, cnt9_cons, cnt9_nil] <;> omega
  · simp only [cnt9_app, cnt9_cons, cnt9_nil] <;> omega
