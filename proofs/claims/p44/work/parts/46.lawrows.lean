/-! ===== the law's small methods: words and rows ===== -/
/-- a number below n, out of v -/
def bl (v : Int32) (n : Nat) : Nat := v.toBitVec.toNat % 2 ^ 31 % n
theorem bl_val {v : Int32} {n : Nat} (h0 : 0 < n) (hn : n < 2 ^ 31) : (v &&& 2147483647) - (v &&& 2147483647) / nI n * nI n = nI (bl v n) := by
  rw [pk_and v (m := 2147483647) 31 rfl]
  exact pk_rem (Nat.mod_lt _ (by decide)) h0 hn
theorem bl_lt {v : Int32} {n : Nat} (h0 : 0 < n) : bl v n < n := Nat.mod_lt _ h0
theorem bl_ne {n : Nat} (h0 : 0 < n) (hn : n < 2 ^ 31) : ¬ nI n = 0 := fun e => by
  have := (nI_eq (a := n) (b := 0) hn (by decide)).mp e
  omega
def f_cell (L : Nat) (xs : Nat → Int32) (k : Nat) : Int32 := if nI L ≤ nI k then nI (790386105 * (k + 3)) else xs k
def f_ref (v_ns v_np v_nw v_ng : Nat) (v_st v_vo : Fn) (v_so v_sw v_ss : FnN) (x : Int32) (s w p : Nat) : Bool :=
  if bl x 18 = 0 then (if nI v_ns = 5 then true else false)
  else if bl x 18 = 1 then (if 0 < v_st s then true else if nI (v_np) = 16 then true else false)
  else if bl x 18 = 2 then (if 0 < v_st s then true else if nI (v_np) = 16 then true else false)
  else if bl x 18 = 3 then (if nI (v_nw) = 4 then true else false)
  else if bl x 18 = 4 then false
  else if bl x 18 = 5 then (if v_st s ≤ 0 then false else true)
  else if bl x 18 = 6 then (if v_st s ≤ 0 then false else true)
  else if bl x 18 = 7 then (if v_st s = 0 then true else false)
  else if bl x 18 = 8 then (if v_st s = 1 then (if l_sig (v_ss) (v_sw) w s (v_ng) = true then true else false) else true)
  else if bl x 18 = 9 then (if v_st s = 1 then (if l_sig (v_ss) (v_sw) w s (v_ng) = true then true else false) else true)
  else if bl x 18 = 10 then (if v_st s = 1 then (if l_sig (v_ss) (v_sw) w s (v_ng) = true then true else false) else true)
  else if bl x 18 = 11 then (if nI (v_np) ≤ 0 then false else if v_vo p = 0 then true else if v_st (v_so p) = 1 then false else true)
  else if bl x 18 = 12 then (if nI (v_np) ≤ 0 then false else if v_vo p = 0 then true else if v_st (v_so p) = 1 then false else true)
  else if bl x 18 = 13 then (if nI (v_np) ≤ 0 then false else if v_vo p = 0 then true else if v_st (v_so p) = 1 then false else true)
  else false
theorem np_pos {n : Nat} (h : ¬ nI n ≤ 0) : 0 < n := by
  rcases Nat.eq_zero_or_pos n with e | e
  · subst e; exact absurd (Int32.le_refl _) h
  · exact e
def l_nm (st : Fn) (so : FnN) : Nat → Int32 | 0 => 0 | i + 1 => if st (so i) = 2 then l_nm st so i + 1 else l_nm st so i + 0
def l_sm (tr : Fn) : Nat → Int32 | 0 => 0 | i + 1 => l_sm tr i + tr i
section LROWS
variable {p : Program} {l : Launch} {e : Env} {R : Room} {s : State} {m : MethodId} {args : Array Value} {below : List Frame} {meth : Method} {c : Code} {H : Heap} {locs : List Loc} {cells slots : Nat} {Q : State → Prop}
variable {cc : ByteArray} {pc : Nat} {ls : Array Slot} {rest : List Value}
theorem k_iremN (hx : p.tables.exec = Jvm.exec) (hb : c.code = cc) {a k : Nat} (ha : a < 2 ^ 31) (h0 : 0 < k) (hk : k < 2 ^ 31) (hdg : decode cc pc = .ok (.irem, 1)) (kk : W p l e R s m args below meth c H locs cells slots Q (F0 m (pc + 1) ls (.int (nI (a % k)) :: rest))) : W p l e R s m args below meth c H locs cells slots Q (F0 m pc ls (.int (nI k) :: .int (nI a) :: rest)) :=
  lv_irem hx hb hdg (bl_ne h0 hk) (by rw [pk_rem ha h0 hk]; exact kk)
theorem k_tabIn (hx : p.tables.exec = Jvm.exec) (hb : c.code = cc) {dflt hi : Int} {offs : Array Int} {len K j : Nat} {off : Int} {tgt : Nat} (hdg : decode cc pc = .ok (.tableswitch dflt 0 hi offs, len)) (hk : K = j) (hj : j < 2 ^ 31) (hh : (j : Int) ≤ hi) (ho : offs[j]? = some off) (ht : (pc : Int) + off = (tgt : Int))
    (kk : W p l e R s m args below meth c H locs cells slots Q (F0 m tgt ls rest)) : W p l e R s m args below meth c H locs cells slots Q (F0 m pc ls (.int (nI K) :: rest)) := by
  subst hk
  have e := nI_toInt hj
  exact lv_tableIn hx hb hdg (by rw [e]; omega) (by rw [e]; omega) (by rw [e, show ((K : Int) - 0).toNat = K by omega]; exact ho) ht kk
theorem k_tabOut (hx : p.tables.exec = Jvm.exec) (hb : c.code = cc) {dflt hi : Int} {offs : Array Int} {len K : Nat} {tgt : Nat} (hdg : decode cc pc = .ok (.tableswitch dflt 0 hi offs, len)) (hh : hi < (K : Int)) (hj : K < 2 ^ 31) (ht : (pc : Int) + dflt = (tgt : Int))
    (kk : W p l e R s m args below meth c H locs cells slots Q (F0 m tgt ls rest)) : W p l e R s m args below meth c H locs cells slots Q (F0 m pc ls (.int (nI K) :: rest)) := by
  have e := nI_toInt hj
  exact lv_tableOut hx hb hdg (Or.inr (by rw [e]; exact hh)) ht kk
theorem k_lcmpE (hx : p.tables.exec = Jvm.exec) (hb : c.code = cc) {x y : Int64} (hdg : decode cc pc = .ok (.lcmp, 1)) (h : x = y)
    (kk : W p l e R s m args below meth c H locs cells slots Q (F0 m (pc + 1) ls (.int 0 :: rest))) : W p l e R s m args below meth c H locs cells slots Q (F0 m pc ls (.long y :: .long x :: rest)) := by
  subst h
  refine W.lcmp hx hb hdg ?_
  rw [show lg_cmp x x = 0 by simp [lg_cmp]]
  exact kk
theorem k_dcmpE (hx : p.tables.exec = Jvm.exec) (hb : c.code = cc) {x y : UInt64} {op : CmpOp} (hdg : decode cc pc = .ok (.dcmp op, 1)) (h : x = y) (hn : FP.dcmp x x = some .eq)
    (kk : W p l e R s m args below meth c H locs cells slots Q (F0 m (pc + 1) ls (.int 0 :: rest))) : W p l e R s m args below meth c H locs cells slots Q (F0 m pc ls (.double y :: .double x :: rest)) := by
  subst h
  refine lv_dcmp hx hb hdg ?_
  rw [hn]
  exact kk
end LROWS
/-! contracts of methods that read the script, too -/
def PZ (E : Ev) (b L : Nat) (xs : Nat → Int32) (ws : va_W) (sz : Nat) (U : State) : Prop := PW E ws sz U ∧ va_X b L xs U U.heap ∧ b < sz ∧ ¬ va_A ws sz b
def MIZ (l : Launch) (E : Ev) (y : MethodName) (wy : List Cond) (rm : Room) (AV : List Value) (b L : Nat) (xs : Nat → Int32) (ws : va_W) (F : Int32) (w1 : va_W) : Prop :=
  ∀ sz, Met l y wy rm (va_Pc AV (PZ E b L xs ws sz)) (va_Qi (fun r (_ : Unit) => r = F) (fun _ t => BW E (va_A ws sz) w1 t) (va_A ws sz)) rm.cells rm.slots (va_A ws sz)
theorem PZ.blind {E : Ev} {b L : Nat} {xs : Nat → Int32} {AV : List Value} {ws : va_W} {sz : Nat} : FrameBlind (va_Pc AV (PZ E b L xs ws sz)) := fun a U g mk q => by
  obtain ⟨q0, q1, q2, q3⟩ := q
  exact ⟨q0, (PW.blind a U g mk ⟨q0, q1⟩).2, va_X.moved (u := U) (U := U.calling g mk a) (Vm.Alike.refl U.vm) q2, q3⟩
theorem rpZ {E : Ev} {A : Nat → Prop} {s : State} {ws wc w1 ws' : va_W} {H : Heap} {locs : List Loc} {AV : List Value} {b L : Nat} {xs : Nat → Int32} (hw : Wd E A s.heap ws H locs) (hK : va_K E.1 vwCl (tysE E) s) (hG : Gx s) (hX : va_X b L xs s s.heap) (hbl : b < s.heap.size) (hbA : ¬ A b) (h : Rp ws wc w1 ws') : PreS s H (va_Pc AV (PZ E b L xs wc H.size)) AV := by
  have h1 := rpS (AV := AV) hw hK hG h
  refine ⟨PZ.blind, fun U hU hW => ⟨rfl, (h1.2 U hU hW).2, ?_, Nat.lt_of_lt_of_le hbl hw.2.2.1, ?_⟩⟩
  · rw [hU]
    exact va_X.moved hW.alike (hX.kept (hw.2.2.2.1 b hbl hbA))
  · rintro (⟨k, e, hk⟩ | hk)
    · obtain ⟨k2, hk2⟩ := List.getElem?_of_mem (h.mem (List.mem_of_getElem? hk))
      exact hbA (hw.2.1.2 k2 _ hk2)
    · exact absurd (Nat.lt_of_lt_of_le hbl hw.2.2.1) (by omega)
theorem k_bIZ {l : Launch} {E : Ev} {y : MethodName} {wy wy' : List Cond} {rm : Room} {AV : List Value} {b L : Nat} {xs : Nat → Int32} {ws w1 : va_W} {cc : ByteArray} {maxL : Nat} {ret : Option FieldType} {F : Int32} (hy : plainName y.cls = true) (hwy : wy = Cond.code y cc maxL ret :: wy') (hsz : (lg_sl AV).length ≤ maxL)
    (body : ∀ (p : Program) (e : Env) (s : State) (m : MethodId) (args : Array Value) (below : List Frame) (meth : Method) (c : Code) (A : Nat → Prop) (ls : Array Slot), Cx E y.cls cc maxL ret wy p s m args meth c A → va_X b L xs s s.heap → b < s.heap.size → ¬ A b → lv_has ls maxL (lv_args 0 AV) → Wd E A s.heap ws s.heap [] → W p l e rm s m args below meth c s.heap [] 0 0 (EndI E A F w1 below args s rm.cells rm.slots) (F0 m 0 ls [])) : MIZ l E y wy rm AV b L xs ws F w1 := by
  intro sz
  refine Met.ofW (cc := cc) (maxL := maxL) (ret := ret) hy hwy ?_
  intro p e s m args below meth c s₁ B hml hv
  obtain ⟨hv1, hv2, hX, hbl, hbA⟩ := hv
  have hz := hv2.1
  subst hz
  exact k_entry hwy hsz B hml ⟨hv1, hv2⟩ (fun ls _ hl hC hw => body p e s m args below meth c _ ls hC hX hbl hbA hl hw)
section SCR
variable {p : Program} {l : Launch} {e : Env} {R : Room} {s : State} {m : MethodId} {args : Array Value} {below : List Frame} {meth : Method} {c : Code} {H : Heap} {locs : List Loc} {cells slots : Nat} {Q : State → Prop}
variable {cc : ByteArray} {E : Ev} {A : Nat → Prop} {ws : va_W} {pc : Nat} {ls : Array Slot} {rest : List Value}
theorem k_sldZ (hx : p.tables.exec = Jvm.exec) (hb : c.code = cc) {b L : Nat} {xs : Nat → Int32} (hX : va_X b L xs s s.heap) (hbl : b < s.heap.size) (hbA : ¬ A b) (hw : Wd E A s.heap ws H locs) {i : Nat} (hi : i < L) (hL : L < 2 ^ 31) (hdg : decode cc pc = .ok (.iaload, 1))
    (kk : W p l e R s m args below meth c H locs cells slots Q (F0 m (pc + 1) ls (.int (xs i) :: rest))) : W p l e R s m args below meth c H locs cells slots Q (F0 m pc ls (.int (nI i) :: .ref b :: rest)) := by
  refine va_sld (A := A) hx hb hX hbl hbA hw.2.2 (vp_in_nI hi hL) hdg ?_
  rw [nI_clamp (by omega)]
  exact kk
theorem k_slenZ (hx : p.tables.exec = Jvm.exec) (hb : c.code = cc) {b L : Nat} {xs : Nat → Int32} (hX : va_X b L xs s s.heap) (hbl : b < s.heap.size) (hbA : ¬ A b) (hw : Wd E A s.heap ws H locs) (hdg : decode cc pc = .ok (.arraylength, 1))
    (kk : W p l e R s m args below meth c H locs cells slots Q (F0 m (pc + 1) ls (.int (nI L) :: rest))) : W p l e R s m args below meth c H locs cells slots Q (F0 m pc ls (.ref b :: rest)) :=
  va_slen (A := A) hx hb hX hbl hbA hw.2.2 hdg kk
end SCR
theorem rp_75 {E : Ev} {a0 : Nat} {b0 : AP} {S0 : SM} : Rp (wS E a0 b0 S0) (([] : va_W)) (([] : va_W)) (wS E a0 b0 S0) := by
  refine ⟨wS E a0 b0 S0, perm9 (fun a => ?_), perm9 (fun a => ?_), rfl⟩
  · simp only [cnt9_app, cnt9_cons, cnt9_nil] <;> omega
  · simp only [cnt9_app, cnt9_cons, cnt9_nil] <;> omega
theorem rp_76 {E : Ev} {x0 : Nat} {b0 c0 d0 : Nat → Nat} {a1 : Nat → Nat} {h1 : Nat} {S1 : CS} {a2 : Nat → Nat} {h2 : Nat} {S2 : CS} {a3 : Nat → Nat} {S3 : HS} {a4 : Nat} {b4 : AP} {S4 : SM} : Rp (wX x0 b0 c0 d0 ++ wC E a1 h1 S1 ++ wC E a2 h2 S2 ++ wG E a3 S3 ++ wS E a4 b4 S4) (wX x0 b0 c0 d0 ++ wC E a1 h1 S1 ++ wC E a2 h2 S2 ++ wG E a3 S3) (wX x0 b0 c0 d0 ++ wC E a1 h1 S1 ++ wC E a2 h2 S2 ++ wG E a3 S3) (wX x0 b0 c0 d0 ++ wC E a1 h1 S1 ++ wC E a2 h2 S2 ++ wG E a3 S3 ++ wS E a4 b4 S4) := by
  refine ⟨wS E a4 b4 S4, perm9 (fun a => ?_), perm9 (fun a => ?_), rfl⟩
  · simp only [cnt9_app, cnt9_cons, cnt9_nil] <;> omega
  · simp only [cnt9_app, cnt9_cons, cnt9_nil] <;> omega
theorem rp_77 {E : Ev} {x0 : Nat} {b0 c0 d0 : Nat → Nat} {a1 : Nat → Nat} {h1 : Nat} {S1 : CS} {a2 : Nat → Nat} {h2 : Nat} {S2 : CS} {a3 : Nat → Nat} {S3 : HS} {a4 : Nat} {b4 : AP} {S4 : SM} : Rp (wX x0 b0 c0 d0 ++ wC E a1 h1 S1 ++ wC E a2 h2 S2 ++ wG E a3 S3 ++ wS E a4 b4 S4) (wS E a4 b4 S4) (wS E a4 b4 S4) (wX x0 b0 c0 d0 ++ wC E a1 h1 S1 ++ wC E a2 h2 S2 ++ wG E a3 S3 ++ wS E a4 b4 S4) := by
  refine ⟨wX x0 b0 c0 d0 ++ wC E a1 h1 S1 ++ wC E a2 h2 S2 ++ wG E a3 S3, perm9 (fun a => ?_), perm9 (fun a => ?_), rfl⟩
  · simp only [cnt9_app, cnt9_cons, cnt9_nil] <;> omega
  · simp only [cnt9_app, cnt9_cons, cnt9_nil] <;> omega
