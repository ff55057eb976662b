/-! ===== the law's body: rows over the script, and comparisons ===== -/
abbrev aL (s : State) : Nat → Prop := fun q => s.heap.size ≤ q
section LAWROWS
variable {p : Program} {l : Launch} {e : Env} {R : Room} {s : State} {m : MethodId} {args : Array Value} {below : List Frame} {meth : Method} {c : Code} {H : Heap} {locs : List Loc} {cells slots : Nat} {Q : State → Prop}
variable {cc : ByteArray} {E : Ev} {ws : va_W} {pc : Nat} {ls : Array Slot} {rest : List Value}
theorem k_sldv (hx : p.tables.exec = Jvm.exec) (hb : c.code = cc) {b L : Nat} {xs : Nat → Int32} (hX : va_X b L xs s s.heap) (hbl : b < s.heap.size) (hw : Wd E (aL s) s.heap ws H locs) {i : Nat} {v : Int32} (hi : i < L) (hL : L < 2 ^ 31) (hv : xs i = v) (hdg : decode cc pc = .ok (.iaload, 1))
    (kk : W p l e R s m args below meth c H locs cells slots Q (F0 m (pc + 1) ls (.int v :: rest))) : W p l e R s m args below meth c H locs cells slots Q (F0 m pc ls (.int (nI i) :: .ref b :: rest)) := by
  subst hv
  refine va_sld (A := aL s) hx hb hX hbl (Nat.not_le.mpr hbl) hw.2.2 (vp_in_nI hi hL) hdg ?_
  rw [nI_clamp (by omega)]
  exact kk
theorem k_lcmpE (hx : p.tables.exec = Jvm.exec) (hb : c.code = cc) {x y : Int64} (hdg : decode cc pc = .ok (.lcmp, 1)) (h : x = y)
    (kk : W p l e R s m args below meth c H locs cells slots Q (F0 m (pc + 1) ls (.int 0 :: rest))) : W p l e R s m args below meth c H locs cells slots Q (F0 m pc ls (.long y :: .long x :: rest)) := by
  subst h
  refine W.lcmp hx hb hdg ?_
  rw [show lg_cmp x x = 0 by simp [lg_cmp]]
  exact kk
theorem k_dcmpE (hx : p.tables.exec = Jvm.exec) (hb : c.code = cc) {x y : UInt64} {op : CmpOp} (hdg : decode cc pc = .ok (.dcmp op, 1)) (h : x = y) (hn : FP.dcmp x x = some .eq)
    (kk : W p l e R s m args below meth c H locs cells slots Q (F0 m (pc + 1) ls (.int 0 :: rest))) : W p l e R s m args below meth c H locs cells slots Q (F0 m pc ls (.double y :: .double x :: rest)) := by
  subst h
  refine lv_dcmp hx hb hdg ?_
  rw [hn]
  exact kk
end LAWROWS
theorem rp_86 {E : Ev} {x0 : Nat} {b0 c0 d0 : Nat → Nat} {a1 : Nat → Nat} {h1 : Nat} {S1 : CS} {a2 : Nat → Nat} {h2 : Nat} {S2 : CS} {a3 : Nat → Nat} {S3 : HS} {a4 : Nat} {S4 : Nat → Int64} {a5 : Nat → Nat} {S5 : MN} : Rp (wX x0 b0 c0 d0 ++ wC E a1 h1 S1 ++ wC E a2 h2 S2 ++ wG E a3 S3 ++ [(a4, aJ E 1 S4)] ++ wN E a5 S5) (wX x0 b0 c0 d0 ++ wC E a1 h1 S1 ++ wC E a2 h2 S2 ++ wG E a3 S3 ++ [(a4, aJ E 1 S4)]) (wX x0 b0 c0 d0 ++ wC E a1 h1 S1 ++ wC E a2 h2 S2 ++ wG E a3 S3 ++ [(a4, aJ E 1 S4)]) (wX x0 b0 c0 d0 ++ wC E a1 h1 S1 ++ wC E a2 h2 S2 ++ wG E a3 S3 ++ [(a4, aJ E 1 S4)] ++ wN E a5 S5) := by
  refine ⟨wN E a5 S5, perm9 (fun a => ?_), perm9 (fun a => ?_), rfl⟩
  · simp only [cnt9_app, cnt9_cons, cnt9_nil] <;> omega
  · simp only [cnt9_app, cnt9_cons, cnt9_nil] <;> omega
theorem rp_87 {E : Ev} {x0 : Nat} {b0 c0 d0 : Nat → Nat} {a1 : Nat → Nat} {h1 : Nat} {S1 : CS} {a2 : Nat → Nat} {h2 : Nat} {S2 : CS} {a3 : Nat → Nat} {S3 : HS} {a4 : Nat} {S4 : Nat → Int64} {a5 : Nat → Nat} {S5 V5 : MN} : Rp (wX x0 b0 c0 d0 ++ wC E a1 h1 S1 ++ wC E a2 h2 S2 ++ wG E a3 S3 ++ [(a4, aJ E 1 S4)] ++ wN E a5 S5) (wN E a5 S5) (wN E a5 V5) (wX x0 b0 c0 d0 ++ wC E a1 h1 S1 ++ wC E a2 h2 S2 ++ wG E a3 S3 ++ [(a4, aJ E 1 S4)] ++ wN E a5 V5) := by
  refine ⟨wX x0 b0 c0 d0 ++ wC E a1 h1 S1 ++ wC E a2 h2 S2 ++ wG E a3 S3 ++ [(a4, aJ E 1 S4)], perm9 (fun a => ?_), perm9 (fun a => ?_), rfl⟩
  · simp only [cnt9_app, cnt9_cons, cnt9_nil] <;> omega
  · simp only [cnt9_app, cnt9_cons, cnt9_nil] <;> omega
theorem rp_88 {E : Ev} {x0 : Nat} {b0 c0 d0 : Nat → Nat} {a1 : Nat → Nat} {h1 : Nat} {S1 : CS} {a2 : Nat → Nat} {h2 : Nat} {S2 : CS} {a3 : Nat → Nat} {S3 : HS} {a4 : Nat} {S4 : Nat → Int64} {a5 : Nat → Nat} {S5 : MN} : Rp (wX x0 b0 c0 d0 ++ wC E a1 h1 S1 ++ wC E a2 h2 S2 ++ wG E a3 S3 ++ [(a4, aJ E 1 S4)] ++ wN E a5 S5) (wN E a5 S5) (wN E a5 S5) (wX x0 b0 c0 d0 ++ wC E a1 h1 S1 ++ wC E a2 h2 S2 ++ wG E a3 S3 ++ [(a4, aJ E 1 S4)] ++ wN E a5 S5) := by
  refine ⟨wX x0 b0 c0 d0 ++ wC E a1 h1 S1 ++ wC E a2 h2 S2 ++ wG E a3 S3 ++ [(a4, aJ E 1 S4)], perm9 (fun a => ?_), perm9 (fun a => ?_), rfl⟩
  · simp only [cnt9_app, cnt9_cons, cnt9_nil] <;> omega
  · simp only [cnt9_app, cnt9_cons, cnt9_nil] <;> omega
theorem rp_89 {E : Ev} {x0 : Nat} {b0 c0 d0 : Nat → Nat} {a1 : Nat → Nat} {h1 : Nat} {S1 : CS} {a2 : Nat → Nat} {h2 : Nat} {S2 : CS} {a3 : Nat → Nat} {S3 V3 : HS} {a4 : Nat} {S4 V4 : Nat → Int64} {a5 : Nat → Nat} {S5 : MN} : Rp (wX x0 b0 c0 d0 ++ wC E a1 h1 S1 ++ wC E a2 h2 S2 ++ wG E a3 S3 ++ [(a4, aJ E 1 S4)] ++ wN E a5 S5) (wX x0 b0 c0 d0 ++ wC E a1 h1 S1 ++ wC E a2 h2 S2 ++ wG E a3 S3 ++ [(a4, aJ E 1 S4)]) (wX x0 b0 c0 d0 ++ wC E a1 h1 S1 ++ wC E a2 h2 S2 ++ wG E a3 V3 ++ [(a4, aJ E 1 V4)]) (wX x0 b0 c0 d0 ++ wC E a1 h1 S1 ++ wC E a2 h2 S2 ++ wG E a3 V3 ++ [(a4, aJ E 1 V4)] ++ wN E a5 S5) := by
  refine ⟨wN E a5 S5, perm9 (fun a => ?_), perm9 (fun a => ?_), rfl⟩
  · simp only [cnt9_app, cnt9_cons, cnt9_nil] <;> omega
  · simp only [cnt9_app, cnt9_cons, cnt9_nil] <;> omega
theorem rp_90 {E : Ev} {x0 : Nat} {b0 c0 d0 : Nat → Nat} {a1 : Nat → Nat} {h1 : Nat} {S1 V1 : CS} {a2 : Nat → Nat} {h2 : Nat} {S2 : CS} {a3 : Nat → Nat} {S3 V3 : HS} {a4 : Nat} {S4 V4 : Nat → Int64} {a5 : Nat → Nat} {S5 : MN} : Rp (wX x0 b0 c0 d0 ++ wC E a1 h1 S1 ++ wC E a2 h2 S2 ++ wG E a3 S3 ++ [(a4, aJ E 1 S4)] ++ wN E a5 S5) (wX x0 b0 c0 d0 ++ wC E a1 h1 S1 ++ wC E a2 h2 S2 ++ wG E a3 S3 ++ [(a4, aJ E 1 S4)]) (wX x0 b0 c0 d0 ++ wC E a1 h1 V1 ++ wC E a2 h2 S2 ++ wG E a3 V3 ++ [(a4, aJ E 1 V4)]) (wX x0 b0 c0 d0 ++ wC E a1 h1 V1 ++ wC E a2 h2 S2 ++ wG E a3 V3 ++ [(a4, aJ E 1 V4)] ++ wN E a5 S5) := by
  refine ⟨wN E a5 S5, perm9 (fun a => ?_), perm9 (fun a => ?_), rfl⟩
  · simp only [cnt9_app, cnt9_cons, cnt9_nil] <;> omega
  · simp only [cnt9_app, cnt9_cons, cnt9_nil] <;> omega
theorem rp_91 {E : Ev} {x0 : Nat} {b0 c0 d0 : Nat → Nat} {a1 : Nat → Nat} {h1 : Nat} {S1 V1 : CS} {a2 : Nat → Nat} {h2 : Nat} {S2 : CS} {a3 : Nat → Nat} {S3 : HS} {a4 : Nat} {S4 V4 : Nat → Int64} {a5 : Nat → Nat} {S5 : MN} : Rp (wX x0 b0 c0 d0 ++ wC E a1 h1 S1 ++ wC E a2 h2 S2 ++ wG E a3 S3 ++ [(a4, aJ E 1 S4)] ++ wN E a5 S5) (wX x0 b0 c0 d0 ++ wC E a1 h1 S1 ++ wC E a2 h2 S2 ++ wG E a3 S3 ++ [(a4, aJ E 1 S4)]) (wX x0 b0 c0 d0 ++ wC E a1 h1 V1 ++ wC E a2 h2 S2 ++ wG E a3 S3 ++ [(a4, aJ E 1 V4)]) (wX x0 b0 c0 d0 ++ wC E a1 h1 V1 ++ wC E a2 h2 S2 ++ wG E a3 S3 ++ [(a4, aJ E 1 V4)] ++ wN E a5 S5) := by
  refine ⟨wN E a5 S5, perm9 (fun a => ?_), perm9 (fun a => ?_), rfl⟩
  · simp only [cnt9_app, cnt9_cons, cnt9_nil] <;> omega
  · simp only [cnt9_app, cnt9_cons, cnt9_nil] <;> omega
theorem rp_92 {E : Ev} {x0 : Nat} {b0 c0 d0 : Nat → Nat} {a1 : Nat → Nat} {h1 : Nat} {S1 : CS} {a2 : Nat → Nat} {h2 : Nat} {S2 : CS} {a3 : Nat → Nat} {S3 : HS} {a4 : Nat} {S4 : Nat → Int64} {a5 : Nat → Nat} {S5 : MN} : Rp (wX x0 b0 c0 d0 ++ wC E a1 h1 S1 ++ wC E a2 h2 S2 ++ wG E a3 S3 ++ [(a4, aJ E 1 S4)] ++ wN E a5 S5) (wX x0 b0 c0 d0 ++ wC E a1 h1 S1 ++ wC E a2 h2 S2 ++ wG E a3 S3) (wX x0 b0 c0 d0 ++ wC E a1 h1 S1 ++ wC E a2 h2 S2 ++ wG E a3 S3) (wX x0 b0 c0 d0 ++ wC E a1 h1 S1 ++ wC E a2 h2 S2 ++ wG E a3 S3 ++ [(a4, aJ E 1 S4)] ++ wN E a5 S5) := by
  refine ⟨[(a4, aJ E 1 S4)] ++ wN E a5 S5, perm9 (fun a => ?_), perm9 (fun a => ?_), rfl⟩
  · simp only [cnt9_app, cnt9_cons, cnt9_nil] <;> omega
  · simp only [cnt9_app, cnt9_cons, cnt9_nil] <;> omega
theorem rp_93 {E : Ev} {x0 : Nat} {b0 c0 d0 : Nat → Nat} {a1 : Nat → Nat} {h1 : Nat} {S1 : CS} {a2 : Nat → Nat} {h2 : Nat} {S2 : CS} {a3 : Nat → Nat} {S3 : HS} {a4 : Nat} {S4 V4 : Nat → Int64} {a5 : Nat → Nat} {S5 : MN} : Rp (wX x0 b0 c0 d0 ++ wC E a1 h1 S1 ++ wC E a2 h2 S2 ++ wG E a3 S3 ++ [(a4, aJ E 1 S4)] ++ wN E a5 S5) (wX x0 b0 c0 d0 ++ wC E a1 h1 S1 ++ wC E a2 h2 S2 ++ wG E a3 S3 ++ [(a4, aJ E 1 S4)]) (wX x0 b0 c0 d0 ++ wC E a1 h1 S1 ++ wC E a2 h2 S2 ++ wG E a3 S3 ++ [(a4, aJ E 1 V4)]) (wX x0 b0 c0 d0 ++ wC E a1 h1 S1 ++ wC E a2 h2 S2 ++ wG E a3 S3 ++ [(a4, aJ E 1 V4)] ++ wN E a5 S5) := by
  refine ⟨wN E a5 S5, perm9 (fun a => ?_), perm9 (fun a => ?_), rfl⟩
  · simp only [cnt9_app, cnt9_cons, cnt9_nil] <;> omega
  · simp only [cnt9_app, cnt9_cons, cnt9_nil] <;> omega
theorem rp_94 {E : Ev} {x0 : Nat} {b0 c0 d0 : Nat → Nat} {a1 : Nat → Nat} {h1 : Nat} {S1 : CS} {a2 : Nat → Nat} {h2 : Nat} {S2 V2 : CS} {a3 : Nat → Nat} {S3 : HS} {a4 : Nat} {S4 V4 : Nat → Int64} {a5 : Nat → Nat} {S5 : MN} : Rp (wX x0 b0 c0 d0 ++ wC E a1 h1 S1 ++ wC E a2 h2 S2 ++ wG E a3 S3 ++ [(a4, aJ E 1 S4)] ++ wN E a5 S5) (wX x0 b0 c0 d0 ++ wC E a1 h1 S1 ++ wC E a2 h2 S2 ++ wG E a3 S3 ++ [(a4, aJ E 1 S4)]) (wX x0 b0 c0 d0 ++ wC E a1 h1 S1 ++ wC E a2 h2 V2 ++ wG E a3 S3 ++ [(a4, aJ E 1 V4)]) (wX x0 b0 c0 d0 ++ wC E a1 h1 S1 ++ wC E a2 h2 V2 ++ wG E a3 S3 ++ [(a4, aJ E 1 V4)] ++ wN E a5 S5) := by
  refine ⟨wN E a5 S5, perm9 (fun a => ?_), perm9 (fun a => ?_), rfl⟩
  · simp only [cnt9_app, cnt9_cons, cnt9_nil] <;> omega
  · simp only [cnt9_app, cnt9_cons, cnt9_nil] <;> omega
theorem rp_95 {E : Ev} {x0 : Nat} {b0 c0 d0 : Nat → Nat} {a1 : Nat → Nat} {h1 : Nat} {S1 : CS} {a2 : Nat → Nat} {h2 : Nat} {S2 V2 : CS} {a3 : Nat → Nat} {S3 : HS} {a4 : Nat} {S4 : Nat → Int64} {a5 : Nat → Nat} {S5 : MN} : Rp (wX x0 b0 c0 d0 ++ wC E a1 h1 S1 ++ wC E a2 h2 S2 ++ wG E a3 S3 ++ [(a4, aJ E 1 S4)] ++ wN E a5 S5) (wX x0 b0 c0 d0 ++ wC E a1 h1 S1 ++ wC E a2 h2 S2 ++ wG E a3 S3) (wX x0 b0 c0 d0 ++ wC E a1 h1 S1 ++ wC E a2 h2 V2 ++ wG E a3 S3) (wX x0 b0 c0 d0 ++ wC E a1 h1 S1 ++ wC E a2 h2 V2 ++ wG E a3 S3 ++ [(a4, aJ E 1 S4)] ++ wN E a5 S5) := by
  refine ⟨[(a4, aJ E 1 S4)] ++ wN E a5 S5, perm9 (fun a => ?_), perm9 (fun a => ?_), rfl⟩
  · simp only [cnt9_app, cnt9_cons, cnt9_nil] <;> omega
  · simp only [cnt9_app, cnt9_cons, cnt9_nil] <;> omega
