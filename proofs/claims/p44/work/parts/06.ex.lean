/-! contracts whose end leaves a state open (the trial) -/
def MIE (l : Launch) (E : Ev) (y : MethodName) (wy : List Cond) (rm : Room) (AV : List Value) (ws : va_W) (F : Int32) (wU : CS → va_W) : Prop :=
  ∀ sz, Met l y wy rm (va_Pc AV (PW E ws sz)) (va_Qi (fun r (_ : CS) => r = F) (fun U t => BW E (va_A ws sz) (wU U) t) (va_A ws sz)) rm.cells rm.slots (va_A ws sz)
def XIE (l : Launch) (E : Ev) (y : MethodName) (wy : List Cond) (rm : Room) (AV : List Value) (ws : va_W) (T : Nat) (F : Int32) (wU : CS → va_W) : Prop :=
  ∀ sz, vx_Met l y wy rm (va_Pc AV (PX E ws sz)) (va_Qi (fun r (_ : CS) => T = 0 ∧ r = F) (fun U t => BW E (va_A ws sz) (wU U) t) (va_A ws sz)) (vx_X (fun (_ : Unit) => T ≠ 0) (fun n _ t => n = exN T ∧ BW E (va_A ws sz) ws t) (va_A ws sz)) rm.cells rm.slots (va_A ws sz)
abbrev EndIE (E : Ev) (A : Nat → Prop) (F : Int32) (wU : CS → va_W) (below : List Frame) (args : Array Value) (s : State) (mc ms : Nat) : State → Prop := MQ below (va_Qi (fun r (_ : CS) => r = F) (fun U t => BW E A (wU U) t) A) args s mc ms A
abbrev XndIE (E : Ev) (A : Nat → Prop) (T : Nat) (F : Int32) (ws : va_W) (wU : CS → va_W) (below : List Frame) (args : Array Value) (s : State) (mc ms : Nat) : State → Prop := vx_MQ below (va_Qi (fun r (_ : CS) => T = 0 ∧ r = F) (fun U t => BW E A (wU U) t) A) (vx_X (fun (_ : Unit) => T ≠ 0) (fun n _ t => n = exN T ∧ BW E A ws t) A) args s mc ms A
section EXE
variable {p : Program} {l : Launch} {e : Env} {R : Room} {s : State} {m : MethodId} {args : Array Value} {below : List Frame} {meth : Method} {c : Code} {H : Heap} {locs : List Loc} {cells slots : Nat} {Q : State → Prop}
variable {cc : ByteArray} {E : Ev} {A : Nat → Prop} {H0 : Heap} {ws wc w0 : va_W} {wU w1 ws' : CS → va_W} {mc ms : Nat} {pc : Nat} {ls : Array Slot} {st0 rest : List Value} {a : Array Value}
theorem kc_ie {F : Int32} (hr : va_Run p l e R s m args below meth c H locs cells slots mc ms (F0 m pc ls st0) rest (va_Qi (fun r (_ : CS) => r = F) (fun U t => BW E (va_A wc H.size) (w1 U) t) (va_A wc H.size) a) (va_A wc H.size)) (hw : Wd E A H0 ws H locs) (hA : ∀ q, H0.size ≤ q → A q) (isC : List Nat) (hC : isC.map (fun i => ws[i]?) = wc.map some) (hn : va_nd isC = true) (had : ∀ U, (w1 U).map Prod.fst = wc.map Prod.fst) (hws : ∀ U, rpW ws isC (w1 U) = ws' U)
    (kk : ∀ (U : CS) (H1 : Heap) (locs1 : List Loc), Wd E A H0 (ws' U) H1 locs1 → W p l e R s m args below meth c H1 locs1 (cells + mc) (slots + ms) Q (F0 m (pc + 3) ls (.int F :: rest))) : W p l e R s m args below meth c H locs cells slots Q (F0 m pc ls st0) := by
  have hF := va_free hw.2.1 hw.2.2 hA isC hC
  refine va_calli hr hw.2.2 (fun q _ h => hF q h) hF (fun r u t H1 locs1 ht hvm hp hB hz hk hS => ?_)
  subst hp
  exact kk u H1 locs1 (hw.behind hA isC hC hn (had u) (hws u) ht hB hk hS)
theorem kx_ie {T : Nat} {F : Int32} (hr : vx_Run p l e R s m args below meth c H locs cells slots mc ms (F0 m pc ls st0) rest (va_Qi (fun r (_ : CS) => T = 0 ∧ r = F) (fun U t => BW E (va_A wc H.size) (w1 U) t) (va_A wc H.size) a) (vx_X (fun (_ : Unit) => T ≠ 0) (fun n _ t => n = exN T ∧ BW E (va_A wc H.size) wc t) (va_A wc H.size)) (va_A wc H.size)) (hw : Wd E A H0 ws H locs) (hA : ∀ q, H0.size ≤ q → A q) (isC : List Nat) (hC : isC.map (fun i => ws[i]?) = wc.map some) (hn : va_nd isC = true) (had : ∀ U, (w1 U).map Prod.fst = wc.map Prod.fst) (hws : ∀ U, rpW ws isC (w1 U) = ws' U) (hws0 : rpW ws isC wc = ws)
    (kx : ∀ (H1 : Heap) (locs1 : List Loc) (ce : Cell) (q9 : Addr), T ≠ 0 → Wd E A H0 ws H1 locs1 → H1[q9]? = some ce → ce.vm = .none → s.vm.findClass (exN T) = some ce.cls → vx_W p l e R s m args below meth c H1 locs1 (cells + mc) (slots + ms) Q (F0 m pc ls rest) q9)
    (kk : ∀ (U : CS) (H1 : Heap) (locs1 : List Loc), T = 0 → Wd E A H0 (ws' U) H1 locs1 → W p l e R s m args below meth c H1 locs1 (cells + mc) (slots + ms) Q (F0 m (pc + 3) ls (.int F :: rest))) : W p l e R s m args below meth c H locs cells slots Q (F0 m pc ls st0) := by
  have hF := va_free hw.2.1 hw.2.2 hA isC hC
  refine vx_calli hr hw.2.2 (fun q _ h => hF q h) hF (fun q _ h => hF q h) (fun n ce q9 u t H1 locs1 ht hvm hp hB hz hk hS h1 h2 h3 => ?_) (fun r u t H1 locs1 ht hvm hp hB hz hk hS => ?_)
  · rw [hB.1] at h3
    exact kx H1 locs1 ce q9 hp (hw.behind hA isC hC hn rfl hws0 ht hB.2 hk hS) h1 h2 h3
  · obtain ⟨hp, rfl⟩ := hp
    exact kk u H1 locs1 hp (hw.behind hA isC hC hn (had u) (hws u) ht hB hk hS)
theorem k_ieret {F v : Int32} {ty : FieldType} (U : CS) (hx : p.tables.exec = Jvm.exec) (hb : c.code = cc) (hr : meth.sig.returnType = some ty) (hlocks : meth.locks = false) (hK : va_K E.1 vwCl (tysE E) s) (hw : Wd E A s.heap ws H locs) (hn : narrow ty (.int v) = .int v) (hdg : decode cc pc = .ok (.ireturn, 1)) (hv : v = F) (hww : ws = wU U) : W p l e R s m args below meth c H locs cells slots (EndIE E A F wU below args s cells slots) (F0 m pc ls [.int v]) := by
  subst hv; subst hww
  exact W.zret hx hb hr hn (fun t ht hW => ⟨⟨v, U, rfl, rfl, by rw [ht]; exact hw.1, va_K.moved hW.alike hK, hw.2.1⟩, hw.2.2.F ht⟩) hw.2.2.2.2 hdg
theorem k_xieret {T : Nat} {F v : Int32} {ty : FieldType} (U : CS) (hx : p.tables.exec = Jvm.exec) (hb : c.code = cc) (hr : meth.sig.returnType = some ty) (hlocks : meth.locks = false) (hK : va_K E.1 vwCl (tysE E) s) (hw : Wd E A s.heap ws H locs) (hn : narrow ty (.int v) = .int v) (hdg : decode cc pc = .ok (.ireturn, 1)) (hT : T = 0) (hv : v = F) (hww : ws = wU U) : W p l e R s m args below meth c H locs cells slots (XndIE E A T F w0 wU below args s cells slots) (F0 m pc ls [.int v]) := by
  subst hv; subst hww
  exact vx_ret (W.zret hx hb hr hn (fun t ht hW => ⟨⟨v, U, rfl, ⟨hT, rfl⟩, by rw [ht]; exact hw.1, va_K.moved hW.alike hK, hw.2.1⟩, hw.2.2.F ht⟩) hw.2.2.2.2 hdg)
end EXE
section BODIES2
variable {l : Launch} {E : Ev} {y : MethodName} {wy wy' : List Cond} {rm : Room} {AV : List Value} {ws : va_W} {wU : CS → va_W} {cc : ByteArray} {maxL : Nat} {ret : Option FieldType}
theorem k_bIE {F : Int32} (hy : plainName y.cls = true) (hwy : wy = Cond.code y cc maxL ret :: wy') (hsz : (lg_sl AV).length ≤ maxL)
    (body : ∀ (p : Program) (e : Env) (s : State) (m : MethodId) (args : Array Value) (below : List Frame) (meth : Method) (c : Code) (A : Nat → Prop) (ls : Array Slot), Cx E y.cls cc maxL ret wy p s m args meth c A → lv_has ls maxL (lv_args 0 AV) → Wd E A s.heap ws s.heap [] → W p l e rm s m args below meth c s.heap [] 0 0 (EndIE E A F wU below args s rm.cells rm.slots) (F0 m 0 ls [])) : MIE l E y wy rm AV ws F wU := by
  intro sz
  refine Met.ofW (cc := cc) (maxL := maxL) (ret := ret) hy hwy ?_
  intro p e s m args below meth c s₁ B hml hv
  have hz := hv.2.1
  subst hz
  exact k_entry hwy hsz B hml hv (fun ls _ hl hC hw => body p e s m args below meth c _ ls hC hl hw)
theorem k_bXIE {T : Nat} {F : Int32} (hy : plainName y.cls = true) (hwy : wy = Cond.code y cc maxL ret :: wy') (hsz : (lg_sl AV).length ≤ maxL)
    (body : ∀ (p : Program) (e : Env) (s : State) (m : MethodId) (args : Array Value) (below : List Frame) (meth : Method) (c : Code) (A : Nat → Prop) (ls : Array Slot), Cx E y.cls cc maxL ret wy p s m args meth c A → (∀ x ∈ c.exceptionTable.toList, False) → Zx A s s.heap → lv_has ls maxL (lv_args 0 AV) → Wd E A s.heap ws s.heap [] → W p l e rm s m args below meth c s.heap [] 0 0 (XndIE E A T F ws wU below args s rm.cells rm.slots) (F0 m 0 ls [])) : XIE l E y wy rm AV ws T F wU := by
  intro sz
  refine vx_ofW (cc := cc) (maxL := maxL) (ret := ret) hy hwy ?_
  intro p e s m args below meth c s₁ B hml ht hv
  obtain ⟨hv1, hv2, hZ⟩ := hv
  have hz := hv2.1
  subst hz
  exact k_entry hwy hsz B hml ⟨hv1, hv2⟩ (fun ls _ hl hC hw => body p e s m args below meth c _ ls hC ht hZ hl hw)
end BODIES2
/-- rows that agree below their lengths are one row -/
theorem va_at_I {E : Ev} {a n : Nat} {f g : Fn} {H : Heap} (h : ∀ j, j < n → f j = g j) (q : va_at E.1 vwCl (a, aI E n f) H) : va_at E.1 vwCl (a, aI E n g) H := by
  have e : vp_cell E.2.1 (n, .inl f) = vp_cell E.2.1 (n, .inl g) := by
    have e2 : (fun j : Fin n => Value.int (f j.val)) = fun j : Fin n => Value.int (g j.val) := funext fun j => by rw [h j.val j.isLt]
    rw [vp_cell_i, vp_cell_i]
    simp only [arrV, e2]
  have q' : H[a]? = some (vp_cell E.2.1 (n, .inl f)) := q
  rw [e] at q'
  exact q'
theorem va_at_Z {E : Ev} {a n : Nat} {f g : FnB} {H : Heap} (h : ∀ j, j < n → f j = g j) (q : va_at E.1 vwCl (a, aZ E n f) H) : va_at E.1 vwCl (a, aZ E n g) H := by
  have e : vp_cell E.2.2.1 (n, .inl (fun j => bI (f j))) = vp_cell E.2.2.1 (n, .inl (fun j => bI (g j))) := by
    have e2 : (fun j : Fin n => Value.int (bI (f j.val))) = fun j : Fin n => Value.int (bI (g j.val)) := funext fun j => by rw [h j.val j.isLt]
    rw [vp_cell_i, vp_cell_i]
    simp only [arrV, e2]
  have q' : H[a]? = some (vp_cell E.2.2.1 (n, .inl (fun j => bI (f j)))) := q
  rw [e] at q'
  exact q'
theorem l_cpy_in (f t : Fn) : ∀ n j, j < n → l_cpy f t n j = f j
  | 0, j, h => absurd h (by omega)
  | n + 1, j, h => by
    rw [l_cpy]
    by_cases e : j = n
    · subst e; simp [upd]
    · simp only [upd, if_neg e]; exact l_cpy_in f t n j (by omega)
theorem l_cpyB_in (f t : FnB) : ∀ n j, j < n → l_cpyB f t n j = f j
  | 0, j, h => absurd h (by omega)
  | n + 1, j, h => by
    rw [l_cpyB]
    by_cases e : j = n
    · subst e; simp [updB]
    · simp only [updB, if_neg e]; exact l_cpyB_in f t n j (by omega)
theorem wC_copy {E : Ev} {T : Nat → Nat} {hb : Nat} {U S : CS} {H : Heap} {w : va_W} (h : va_P E.1 vwCl (wC E T hb (f_copy U S) ++ w) H) : va_P E.1 vwCl (wC E T hb S ++ w) H := by
  intro k q hk
  match k, hk with
  | 0, hk => exact h 0 q hk
  | 1, hk => cases hk; exact va_at_I (fun j hj => l_cpy_in (c_st S) (c_st U) 5 j hj) (h 1 _ rfl)
  | 2, hk => cases hk; exact va_at_I (fun j hj => l_cpy_in (c_ou S) (c_ou U) 5 j hj) (h 2 _ rfl)
  | 3, hk => cases hk; exact va_at_Z (fun j hj => l_cpyB_in (c_ru S) (c_ru U) 5 j hj) (h 3 _ rfl)
  | 4, hk => cases hk; exact va_at_I (fun j hj => l_cpy_in (c_ca S) (c_ca U) 16 j hj) (h 4 _ rfl)
  | 5, hk => cases hk; exact va_at_I (fun j hj => l_cpy_in (c_tr S) (c_tr U) 4 j hj) (h 5 _ rfl)
  | 6, hk => cases hk; exact va_at_I (fun j hj => l_cpy_in (c_ag S) (c_ag U) 20 j hj) (h 6 _ rfl)
  | k + 7, hk => exact h (k + 7) q hk
theorem va_D_same {A : Nat → Prop} {w w' : va_W} (h : va_D A w) (e : w.map Prod.fst = w'.map Prod.fst) : va_D A w' := by
  have key : ∀ (k : Nat) (q : Nat × va_E), w'[k]? = some q → ∃ q0, w[k]? = some q0 ∧ q0.1 = q.1 := by
    intro k q hk
    have h1 : (w'.map Prod.fst)[k]? = some q.1 := by rw [List.getElem?_map, hk]; rfl
    rw [← e, List.getElem?_map] at h1
    cases hq : w[k]? with
    | none => rw [hq] at h1; cases h1
    | some q0 => rw [hq] at h1; exact ⟨q0, rfl, Option.some.inj h1⟩
  refine ⟨fun i j x y hi hj hxy => ?_, fun k q hk => ?_⟩
  · obtain ⟨x0, a1, a2⟩ := key i x hi
    obtain ⟨y0, b1, b2⟩ := key j y hj
    exact h.1 i j x0 y0 a1 b1 (a2.trans (hxy.trans b2.symm))
  · obtain ⟨q0, a1, a2⟩ := key k q hk
    rw [← a2]; exact h.2 k q0 a1
/-- behind copyFrom the trial is as now -/
theorem Wd_copy {E : Ev} {A : Nat → Prop} {H0 H : Heap} {locs : List Loc} {T : Nat → Nat} {hb : Nat} {U S : CS} {w : va_W} (h : Wd E A H0 (wC E T hb (f_copy U S) ++ w) H locs) : Wd E A H0 (wC E T hb S ++ w) H locs :=
  ⟨wC_copy h.1, va_D_same h.2.1 rfl, h.2.2⟩
theorem nights_of {n x : Int32} {k : Nat} (hx : x = nI k) (hk : k < 1000) (h : t_nights n x = 0) : ∃ j : Nat, 1 ≤ j ∧ j ≤ k ∧ n = nI j := by
  unfold t_nights at h
  by_cases h1 : n < 1
  · rw [if_pos h1] at h; exact absurd h (by decide)
  · rw [if_neg h1] at h
    by_cases h2 : n ≤ x
    · have h0 : ¬ n < 0 := fun q => h1 (Int32.lt_trans q (by decide))
      obtain ⟨j, hj, rfl⟩ := nI_of h0
      subst hx
      have h3 := (nI_leI hj (by omega)).mp h2
      refine ⟨j, ?_, h3, rfl⟩
      rcases Nat.eq_zero_or_pos j with e | e
      · subst e; exact absurd (by decide) h1
      · exact e
    · rw [if_neg h2] at h; exact absurd h (by decide)
theorem isDk_t {G : HS} {S : CS} {j : Nat} (h : ¬ l_dark G (l_passS G S j) 16 ≤ 0) : f_isDk G S j = true := decide_eq_true (Int32.not_le.mp h)
theorem isDk_f {G : HS} {S : CS} {j : Nat} (h : l_dark G (l_passS G S j) 16 ≤ 0) : f_isDk G S j = false := decide_eq_false (Int32.not_lt.mpr h)
theorem isDk_nt {G : HS} {S : CS} {j : Nat} (h : l_dark G (l_passS G S j) 16 ≤ 0) : (!f_isDk G S j) = true := by rw [isDk_f h]; rfl
theorem isDk_nf {G : HS} {S : CS} {j : Nat} (h : ¬ l_dark G (l_passS G S j) 16 ≤ 0) : (!f_isDk G S j) = false := by rw [isDk_t h]; rfl
theorem pw_pos : ∀ i, i < 9 → 0 < 256 / 2 ^ i := by decide
theorem pw_le (i : Nat) : 256 / 2 ^ i ≤ 256 := Nat.div_le_self _ _
theorem pw_nextI : ∀ i, i < 9 → nI (256 / 2 ^ (i + 1)) = nI (256 / 2 ^ i) / 2 := by decide +kernel
theorem isDk_nt1 {G : HS} {S : CS} {j : Nat} (h : l_dark G (f_night G (l_passS G S j)) 16 ≤ 0) : (!f_isDk G S (j + 1)) = true := isDk_nt (j := j + 1) (by rw [l_passS]; exact h)
theorem isDk_nf1 {G : HS} {S : CS} {j : Nat} (h : ¬ l_dark G (f_night G (l_passS G S j)) 16 ≤ 0) : (!f_isDk G S (j + 1)) = false := isDk_nf (j := j + 1) (by rw [l_passS]; exact h)
theorem stayLit_no {G : HS} {S : CS} {b : Int32} {n i : Nat} (hi : i < n) (hno : l_lit G (p_wa S (c_wa S + b)) i = true) (h : ¬ l_dark G (f_night G (l_passS G (p_wa S (c_wa S + b)) i)) 16 ≤ 0) : (0 : Int32) = bI (f_stayLit G S b n) := by
  have h1 : l_lit G (p_wa S (c_wa S + b)) (i + 1) = false := by rw [l_lit, if_pos hno]; exact isDk_nf1 h
  rw [f_stayLit, l_lit_no G _ h1 n (by omega)]
  rfl
theorem stayLit_on {G : HS} {S : CS} {b : Int32} {i : Nat} (hno : l_lit G (p_wa S (c_wa S + b)) i = true) (h : l_dark G (f_night G (l_passS G (p_wa S (c_wa S + b)) i)) 16 ≤ 0) : l_lit G (p_wa S (c_wa S + b)) (i + 1) = true := by
  rw [l_lit, if_pos hno]; exact isDk_nt1 h
theorem stayLit_yes {G : HS} {S : CS} {b : Int32} {n : Nat} (hno : l_lit G (p_wa S (c_wa S + b)) n = true) : (1 : Int32) = bI (f_stayLit G S b n) := by
  rw [f_stayLit, hno]; rfl
set_option maxRecDepth 20000 in
theorem xb_64 : ∀ w ∈ (vx_atS RX2 64 "java/lang/IndexOutOfBoundsException" ["java/lang/RuntimeException", "java/lang/Exception"]).filter (fun w => !goodWord w), w ∈ ([.castable "java/lang/IndexOutOfBoundsException" "java/lang/IndexOutOfBoundsException", .declares (Bundle.initS "java/lang/RuntimeException"), .declares (Bundle.initS "java/lang/Exception"), .declares (Bundle.initS "java/lang/Throwable")] : List Cond) := by decide +kernel
set_option maxRecDepth 20000 in
theorem xg_60_64 : ∀ w ∈ Cond.classLink RX2 60 "java/lang/IndexOutOfBoundsException" :: Cond.initialized "java/lang/IndexOutOfBoundsException" :: vx_atS RX2 64 "java/lang/IndexOutOfBoundsException" ["java/lang/RuntimeException", "java/lang/Exception"], vx_ot w = true := by decide +kernel
set_option maxRecDepth 20000 in
theorem xb_43 : ∀ w ∈ (vx_atS RX2 43 "java/lang/IllegalStateException" ["java/lang/RuntimeException", "java/lang/Exception"]).filter (fun w => !goodWord w), w ∈ ([.castable "java/lang/IllegalStateException" "java/lang/IllegalStateException", .declares (Bundle.initS "java/lang/RuntimeException"), .declares (Bundle.initS "java/lang/Exception"), .declares (Bundle.initS "java/lang/Throwable")] : List Cond) := by decide +kernel
set_option maxRecDepth 20000 in
theorem xg_39_43 : ∀ w ∈ Cond.classLink RX2 39 "java/lang/IllegalStateException" :: Cond.initialized "java/lang/IllegalStateException" :: vx_atS RX2 43 "java/lang/IllegalStateException" ["java/lang/RuntimeException", "java/lang/Exception"], vx_ot w = true := by decide +kernel
set_option maxRecDepth 20000 in
theorem xb_32 : ∀ w ∈ (vx_atS RX2 32 "java/lang/IllegalArgumentException" ["java/lang/RuntimeException", "java/lang/Exception"]).filter (fun w => !goodWord w), w ∈ ([.castable "java/lang/IllegalArgumentException" "java/lang/IllegalArgumentException", .declares (Bundle.initS "java/lang/RuntimeException"), .declares (Bundle.initS "java/lang/Exception"), .declares (Bundle.initS "java/lang/Throwable")] : List Cond) := by decide +kernel
set_option maxRecDepth 20000 in
theorem xg_28_32 : ∀ w ∈ Cond.classLink RX2 28 "java/lang/IllegalArgumentException" :: Cond.initialized "java/lang/IllegalArgumentException" :: vx_atS RX2 32 "java/lang/IllegalArgumentException" ["java/lang/RuntimeException", "java/lang/Exception"], vx_ot w = true := by decide +kernel
theorem inx_X2_needShip_64 : ∀ w ∈ (vx_atS RX2 64 "java/lang/IndexOutOfBoundsException" ["java/lang/RuntimeException", "java/lang/Exception"]).filter goodWord, w ∈ wsX2_needShip := fun w h => List.mem_cons_of_mem _ (List.mem_append_right _ h)
theorem inx_X2_needSailor_64 : ∀ w ∈ (vx_atS RX2 64 "java/lang/IndexOutOfBoundsException" ["java/lang/RuntimeException", "java/lang/Exception"]).filter goodWord, w ∈ wsX2_needSailor := fun w h => List.mem_cons_of_mem _ (List.mem_append_right _ h)
theorem inx_X2_needWatcher_64 : ∀ w ∈ (vx_atS RX2 64 "java/lang/IndexOutOfBoundsException" ["java/lang/RuntimeException", "java/lang/Exception"]).filter goodWord, w ∈ wsX2_needWatcher := fun w h => List.mem_cons_of_mem _ (List.mem_append_right _ h)
theorem inx_X2_needNewSighting_43 : ∀ w ∈ (vx_atS RX2 43 "java/lang/IllegalStateException" ["java/lang/RuntimeException", "java/lang/Exception"]).filter goodWord, w ∈ wsX2_needNewSighting := fun w h => List.mem_cons_of_mem _ (List.mem_append_left _ (List.mem_append_right _ h))
theorem inx_X2_needNights_32 : ∀ w ∈ (vx_atS RX2 32 "java/lang/IllegalArgumentException" ["java/lang/RuntimeException", "java/lang/Exception"]).filter goodWord, w ∈ wsX2_needNights := fun w h => List.mem_cons_of_mem _ (List.mem_append_right _ h)
theorem inx_X2_addShip_32 : ∀ w ∈ (vx_atS RX2 32 "java/lang/IllegalArgumentException" ["java/lang/RuntimeException", "java/lang/Exception"]).filter goodWord, w ∈ wsX2_addShip := fun w h => List.mem_cons_of_mem _ (List.mem_append_left _ (List.mem_append_right _ h))
theorem inx_X2_addShip_43 : ∀ w ∈ (vx_atS RX2 43 "java/lang/IllegalStateException" ["java/lang/RuntimeException", "java/lang/Exception"]).filter goodWord, w ∈ wsX2_addShip := fun w h => List.mem_cons_of_mem _ (List.mem_append_right _ h)
theorem inx_X2_addSailor_43 : ∀ w ∈ (vx_atS RX2 43 "java/lang/IllegalStateException" ["java/lang/RuntimeException", "java/lang/Exception"]).filter goodWord, w ∈ wsX2_addSailor := fun w h => List.mem_cons_of_mem _ (List.mem_append_right _ h)
theorem inx_X2_addSailor_64 : ∀ w ∈ (vx_atS RX2 64 "java/lang/IndexOutOfBoundsException" ["java/lang/RuntimeException", "java/lang/Exception"]).filter goodWord, w ∈ wsX2_addSailor := fun w h => List.mem_cons_of_mem _ (List.mem_append_left _ (List.mem_append_right _ h))
theorem inx_X2_addWatcher_43 : ∀ w ∈ (vx_atS RX2 43 "java/lang/IllegalStateException" ["java/lang/RuntimeException", "java/lang/Exception"]).filter goodWord, w ∈ wsX2_addWatcher := fun w h => List.mem_cons_of_mem _ (List.mem_append_right _ h)
theorem inx_X2_buyWax_32 : ∀ w ∈ (vx_atS RX2 32 "java/lang/IllegalArgumentException" ["java/lang/RuntimeException", "java/lang/Exception"]).filter goodWord, w ∈ wsX2_buyWax := fun w h => List.mem_cons_of_mem _ (List.mem_append_right _ h)
theorem inx_X2_sail_43 : ∀ w ∈ (vx_atS RX2 43 "java/lang/IllegalStateException" ["java/lang/RuntimeException", "java/lang/Exception"]).filter goodWord, w ∈ wsX2_sail := fun w h => List.mem_cons_of_mem _ (List.mem_append_left _ (List.mem_append_right _ h))
theorem inx_X2_comeHome_43 : ∀ w ∈ (vx_atS RX2 43 "java/lang/IllegalStateException" ["java/lang/RuntimeException", "java/lang/Exception"]).filter goodWord, w ∈ wsX2_comeHome := fun w h => List.mem_cons_of_mem _ (List.mem_append_left _ (List.mem_append_right _ h))
theorem inx_X2_vote_43 : ∀ w ∈ (vx_atS RX2 43 "java/lang/IllegalStateException" ["java/lang/RuntimeException", "java/lang/Exception"]).filter goodWord, w ∈ wsX2_vote := fun w h => List.mem_cons_of_mem _ (List.mem_append_left _ (List.mem_append_right _ h))
