/-! ===== the law's own methods: they catch what the class throws ===== -/
theorem k_entryH {p : Program} {l : Launch} {y : MethodName} {wy : List Cond} {rm : Room} {cc : ByteArray} {maxL : Nat} {ret : Option FieldType} {e : Env} {s : State} {m : MethodId} {args : Array Value} {below : List Frame} {meth : Method} {c : Code} {s₁ : State} {E : Ev} {AV : List Value} {ws : va_W} {Q : State → Prop} (hsz : (lg_sl AV).length ≤ maxL)
    (B : BodyLoose p l y (headSpec wy rm) cc maxL ret e s m args below meth c s₁) (hml : c.maxLocals = maxL) (hv : va_Pc AV (PW E ws s.heap.size) args s)
    (body : ∀ (ls : Array Slot), args = AV.toArray → lv_has ls maxL (lv_args 0 AV) → Cx E y.cls cc maxL ret wy p s m args meth c (va_A ws s.heap.size) → Wd E (va_A ws s.heap.size) s.heap ws s.heap [] → W p l e (headSpec wy rm).room s m args below meth c s.heap [] 0 0 Q (F0 m 0 ls [])) :
    W p l e (headSpec wy rm).room s m args below meth c s.heap [] 0 0 Q (entryFrame m args maxL) := by
  obtain ⟨rfl, hz, hP, hK, hD, hG⟩ := hv
  have hl := lv_entry AV (n := maxL) hsz
  rw [lg_entry_eq]
  refine body _ rfl hl ⟨B.exec, B.bytes, hml, B.returns, findClass_of_methodNamed B.named, atoms_spec (ws := wy) B.pre, B.notSynchronized, hK, hG, fun q h => Or.inr h⟩ ⟨hP, hD.self, va_S.rf⟩
section BODIESH
variable {l : Launch} {E : Ev} {y : MethodName} {wy wy' : List Cond} {rm : Room} {AV : List Value} {ws w1 : va_W} {wU : CS → va_W} {cc : ByteArray} {maxL : Nat} {ret : Option FieldType} {hh : List (Nat × Nat × Nat × Nat)}
theorem k_bXIH {T : Nat} {F : Int32} (hy : plainName y.cls = true) (hwy : wy = Cond.codeWith y cc maxL ret hh :: wy') (hsz : (lg_sl AV).length ≤ maxL)
    (body : ∀ (p : Program) (e : Env) (s : State) (m : MethodId) (args : Array Value) (below : List Frame) (meth : Method) (c : Code) (A : Nat → Prop) (ls : Array Slot), Cx E y.cls cc maxL ret wy p s m args meth c A → c.exceptionTable.toList = tableOf hh → Zx A s s.heap → lv_has ls maxL (lv_args 0 AV) → Wd E A s.heap ws s.heap [] → W p l e rm s m args below meth c s.heap [] 0 0 (XndI E A T F ws w1 below args s rm.cells rm.slots) (F0 m 0 ls [])) : XI l E y wy rm AV ws T F w1 := by
  intro sz
  refine vx_ofWH (cc := cc) (maxL := maxL) (ret := ret) (hh := hh) hy hwy ?_
  intro p e s m args below meth c s₁ B hml hv
  have ht := vx_table (x := y) B (atoms_spec (ws := wy) B.pre (Cond.codeWith y cc maxL ret hh) (by rw [hwy]; exact List.mem_cons_self))
  obtain ⟨hv1, hv2, hZ⟩ := hv
  have hz := hv2.1
  subst hz
  exact k_entryH hsz B hml ⟨hv1, hv2⟩ (fun ls _ hl hC hw => body p e s m args below meth c _ ls hC ht hZ hl hw)
theorem k_bXIEH {T : Nat} {F : Int32} (hy : plainName y.cls = true) (hwy : wy = Cond.codeWith y cc maxL ret hh :: wy') (hsz : (lg_sl AV).length ≤ maxL)
    (body : ∀ (p : Program) (e : Env) (s : State) (m : MethodId) (args : Array Value) (below : List Frame) (meth : Method) (c : Code) (A : Nat → Prop) (ls : Array Slot), Cx E y.cls cc maxL ret wy p s m args meth c A → c.exceptionTable.toList = tableOf hh → Zx A s s.heap → lv_has ls maxL (lv_args 0 AV) → Wd E A s.heap ws s.heap [] → W p l e rm s m args below meth c s.heap [] 0 0 (XndIE E A T F ws wU below args s rm.cells rm.slots) (F0 m 0 ls [])) : XIE l E y wy rm AV ws T F wU := by
  intro sz
  refine vx_ofWH (cc := cc) (maxL := maxL) (ret := ret) (hh := hh) hy hwy ?_
  intro p e s m args below meth c s₁ B hml hv
  have ht := vx_table (x := y) B (atoms_spec (ws := wy) B.pre (Cond.codeWith y cc maxL ret hh) (by rw [hwy]; exact List.mem_cons_self))
  obtain ⟨hv1, hv2, hZ⟩ := hv
  have hz := hv2.1
  subst hz
  exact k_entryH hsz B hml ⟨hv1, hv2⟩ (fun ls _ hl hC hw => body p e s m args below meth c _ ls hC ht hZ hl hw)
end BODIESH
theorem rp_81 {E : Ev} {x0 : Nat} {b0 c0 d0 : Nat → Nat} {a1 : Nat → Nat} {h1 : Nat} {S1 : CS} {a2 : Nat → Nat} {h2 : Nat} {S2 : CS} {a3 : Nat → Nat} {S3 V3 : HS} {a4 : Nat} {S4 : Nat → Int64} : Rp (wX x0 b0 c0 d0 ++ wC E a1 h1 S1 ++ wC E a2 h2 S2 ++ wG E a3 S3 ++ [(a4, aJ E 1 S4)]) (wX x0 b0 c0 d0 ++ wC E a1 h1 S1 ++ wC E a2 h2 S2 ++ wG E a3 S3) (wX x0 b0 c0 d0 ++ wC E a1 h1 S1 ++ wC E a2 h2 S2 ++ wG E a3 V3) (wX x0 b0 c0 d0 ++ wC E a1 h1 S1 ++ wC E a2 h2 S2 ++ wG E a3 V3 ++ [(a4, aJ E 1 S4)]) := by
  refine ⟨[(a4, aJ E 1 S4)], perm9 (fun a => ?_), perm9 (fun a => ?_), rfl⟩
  · simp only [cnt9_app, cnt9_cons, cnt9_nil] <;> omega
  · simp only [cnt9_app, cnt9_cons, cnt9_nil] <;> omega
theorem rp_82 {E : Ev} {x0 : Nat} {b0 c0 d0 : Nat → Nat} {a1 : Nat → Nat} {h1 : Nat} {S1 : CS} {a2 : Nat → Nat} {h2 : Nat} {S2 : CS} {a3 : Nat → Nat} {S3 : HS} {a4 : Nat} {S4 : Nat → Int64} : Rp (wX x0 b0 c0 d0 ++ wC E a1 h1 S1 ++ wC E a2 h2 S2 ++ wG E a3 S3 ++ [(a4, aJ E 1 S4)]) (wX x0 b0 c0 d0 ++ wC E a1 h1 S1 ++ wC E a2 h2 S2 ++ wG E a3 S3) (wX x0 b0 c0 d0 ++ wC E a1 h1 S1 ++ wC E a2 h2 S2 ++ wG E a3 S3) (wX x0 b0 c0 d0 ++ wC E a1 h1 S1 ++ wC E a2 h2 S2 ++ wG E a3 S3 ++ [(a4, aJ E 1 S4)]) := by
  refine ⟨[(a4, aJ E 1 S4)], perm9 (fun a => ?_), perm9 (fun a => ?_), rfl⟩
  · simp only [cnt9_app, cnt9_cons, cnt9_nil] <;> omega
  · simp only [cnt9_app, cnt9_cons, cnt9_nil] <;> omega
theorem rp_83 {E : Ev} {x0 : Nat} {b0 c0 d0 : Nat → Nat} {a1 : Nat → Nat} {h1 : Nat} {S1 V1 : CS} {a2 : Nat → Nat} {h2 : Nat} {S2 : CS} {a3 : Nat → Nat} {S3 V3 : HS} {a4 : Nat} {S4 : Nat → Int64} : Rp (wX x0 b0 c0 d0 ++ wC E a1 h1 S1 ++ wC E a2 h2 S2 ++ wG E a3 S3 ++ [(a4, aJ E 1 S4)]) (wX x0 b0 c0 d0 ++ wC E a1 h1 S1 ++ wC E a2 h2 S2 ++ wG E a3 S3) (wX x0 b0 c0 d0 ++ wC E a1 h1 V1 ++ wC E a2 h2 S2 ++ wG E a3 V3) (wX x0 b0 c0 d0 ++ wC E a1 h1 V1 ++ wC E a2 h2 S2 ++ wG E a3 V3 ++ [(a4, aJ E 1 S4)]) := by
  refine ⟨[(a4, aJ E 1 S4)], perm9 (fun a => ?_), perm9 (fun a => ?_), rfl⟩
  · simp only [cnt9_app, cnt9_cons, cnt9_nil] <;> omega
  · simp only [cnt9_app, cnt9_cons, cnt9_nil] <;> omega
theorem rp_84 {E : Ev} {x0 : Nat} {b0 c0 d0 : Nat → Nat} {a1 : Nat → Nat} {h1 : Nat} {S1 V1 : CS} {a2 : Nat → Nat} {h2 : Nat} {S2 : CS} {a3 : Nat → Nat} {S3 : HS} {a4 : Nat} {S4 : Nat → Int64} : Rp (wX x0 b0 c0 d0 ++ wC E a1 h1 S1 ++ wC E a2 h2 S2 ++ wG E a3 S3 ++ [(a4, aJ E 1 S4)]) (wX x0 b0 c0 d0 ++ wC E a1 h1 S1 ++ wC E a2 h2 S2 ++ wG E a3 S3) (wX x0 b0 c0 d0 ++ wC E a1 h1 V1 ++ wC E a2 h2 S2 ++ wG E a3 S3) (wX x0 b0 c0 d0 ++ wC E a1 h1 V1 ++ wC E a2 h2 S2 ++ wG E a3 S3 ++ [(a4, aJ E 1 S4)]) := by
  refine ⟨[(a4, aJ E 1 S4)], perm9 (fun a => ?_), perm9 (fun a => ?_), rfl⟩
  · simp only [cnt9_app, cnt9_cons, cnt9_nil] <;> omega
  · simp only [cnt9_app, cnt9_cons, cnt9_nil] <;> omega
theorem rp_85 {E : Ev} {x0 : Nat} {b0 c0 d0 : Nat → Nat} {a1 : Nat → Nat} {h1 : Nat} {S1 : CS} {a2 : Nat → Nat} {h2 : Nat} {S2 V2 : CS} {a3 : Nat → Nat} {S3 : HS} {a4 : Nat} {S4 : Nat → Int64} : Rp (wX x0 b0 c0 d0 ++ wC E a1 h1 S1 ++ wC E a2 h2 S2 ++ wG E a3 S3 ++ [(a4, aJ E 1 S4)]) (wX x0 b0 c0 d0 ++ wC E a1 h1 S1 ++ wC E a2 h2 S2 ++ wG E a3 S3) (wX x0 b0 c0 d0 ++ wC E a1 h1 S1 ++ wC E a2 h2 V2 ++ wG E a3 S3) (wX x0 b0 c0 d0 ++ wC E a1 h1 S1 ++ wC E a2 h2 V2 ++ wG E a3 S3 ++ [(a4, aJ E 1 S4)]) := by
  refine ⟨[(a4, aJ E 1 S4)], perm9 (fun a => ?_), perm9 (fun a => ?_), rfl⟩
  · simp only [cnt9_app, cnt9_cons, cnt9_nil] <;> omega
  · simp only [cnt9_app, cnt9_cons, cnt9_nil] <;> omega
