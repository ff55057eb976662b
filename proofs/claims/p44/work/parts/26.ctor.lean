/-! ===== constructors: cells that are made, and the worlds that come of them ===== -/
def l_fil (v : Int32) (f : Fn) : Nat → Fn | 0 => f | i + 1 => upd (l_fil v f i) i v
theorem l_fil_in (v : Int32) (f : Fn) : ∀ n j, j < n → l_fil v f n j = v
  | 0, j, h => absurd h (by omega)
  | n + 1, j, h => by
    rw [l_fil]
    by_cases e : j = n
    · subst e; exact pk_us
    · rw [pk_un e]; exact l_fil_in v f n j (by omega)
/-- places 54 and on become v -/
def l_fil5 (v : Int32) (f : Fn) : Nat → Fn | 0 => f | i + 1 => upd (l_fil5 v f i) (54 + i) v
theorem l_fil5_in (v : Int32) (f : Fn) : ∀ n j, j < 54 + n → l_fil5 v f n j = if j < 54 then f j else v
  | 0, j, h => by rw [l_fil5, if_pos (by omega)]
  | n + 1, j, h => by
    rw [l_fil5]
    by_cases e : j = 54 + n
    · subst e; rw [pk_us, if_neg (by omega)]
    · rw [pk_un e]; exact l_fil5_in v f n j (by omega)
def S0 : CS := ((fun _ => 0), (fun _ => 0), (fun _ => false), (fun _ => 0), (fun _ => 0), (fun _ => -1), 0, 0, 0)
def G0 : HS := (0, 0, 0, (fun _ => 0), (fun _ => -1), (fun _ => 0), (fun _ => false), (fun _ => false))
def ad6 (a b c d e f : Nat) : Nat → Nat | 0 => a | 1 => b | 2 => c | 3 => d | 4 => e | _ => f
def ad7 (a b c d e f g : Nat) : Nat → Nat | 0 => a | 1 => b | 2 => c | 3 => d | 4 => e | 5 => f | _ => g
def MC {α : Type} (l : Launch) (E : Ev) (y : MethodName) (wy : List Cond) (rm : Room) (AV : List Value) (ws : va_W) (ok : α → Prop) (W1 : α → va_W) : Prop :=
  ∀ sz, Met l y wy rm (va_Pc AV (PW E ws sz)) (va_Qv (fun (u : α) => ok u) (fun u t => BW E (va_A ws sz) (W1 u) t) (va_A ws sz)) rm.cells rm.slots (va_A ws sz)
abbrev EndC {α : Type} (E : Ev) (A : Nat → Prop) (ok : α → Prop) (W1 : α → va_W) (below : List Frame) (args : Array Value) (s : State) (mc ms : Nat) : State → Prop := MQ below (va_Qv (fun (u : α) => ok u) (fun u t => BW E A (W1 u) t) A) args s mc ms A
/-- a callee's world, and what it hadn't, behind a call that makes cells -/
def Rn (ws wc wr : va_W) : Prop := ws.Perm (wc ++ wr)
theorem Rn.rp {ws wc wr : va_W} (h : Rn ws wc wr) : Rp ws wc wc ws := ⟨wr, h, h, rfl⟩
theorem Rn.behind {ws wc wr w1 : va_W} (h : Rn ws wc wr) {E : Ev} {A : Nat → Prop} {H0 H H1 : Heap} {locs locs1 : List Loc} {t : State} (hw : Wd E A H0 ws H locs) (hA : ∀ q, H0.size ≤ q → A q)
    (ht : t.heap = H1) (hB : BW E (va_A wc H.size) w1 t) (hk : ∀ q : Nat, q < H.size → ¬ va_A wc H.size q → H1[q]? = H[q]?) (hS : va_S A H0 H1 locs1) : Wd E A H0 (w1 ++ wr) H1 locs1 := by
  have hP1 := hB.1
  rw [ht] at hP1
  have nd := vD_nodup hw.2.1
  have nd2 := (h.map Prod.fst).nodup_iff.mp nd
  rw [List.map_append] at nd2
  have hF := h.rp.free hw hA
  have out : ∀ q ∈ wr, ¬ va_A wc H.size q.1 := by
    intro q a z
    have hws : q ∈ ws := h.mem_iff.mpr (List.mem_append_right _ a)
    have hat := vP_mem hw.1 hws
    rcases z with ⟨k, e, z⟩ | z
    · have m1 : q.1 ∈ wc.map Prod.fst := List.mem_map.mpr ⟨(q.1, e), List.mem_of_getElem? z, rfl⟩
      have m2 : q.1 ∈ wr.map Prod.fst := List.mem_map.mpr ⟨q, a, rfl⟩
      exact (List.nodup_append.mp nd2).2.2 _ m1 _ m2 rfl
    · exact absurd hat.lt (by omega)
  refine ⟨vP_of (fun q hq => ?_), vD_of ?_ (fun q hq => ?_), hS⟩
  · rcases List.mem_append.mp hq with a | a
    · exact vP_mem hP1 a
    · have hws : q ∈ ws := h.mem_iff.mpr (List.mem_append_right _ a)
      have hat := vP_mem hw.1 hws
      exact hat.kept (hk q.1 hat.lt (out q a))
  · rw [List.map_append]
    refine List.nodup_append.mpr ⟨vD_nodup hB.2.2, (List.nodup_append.mp nd2).2.1, fun x hx y hy e => ?_⟩
    obtain ⟨q, hq, rfl⟩ := List.mem_map.mp hx
    obtain ⟨r, hr, rfl⟩ := List.mem_map.mp hy
    obtain ⟨k, hk2⟩ := List.getElem?_of_mem hq
    have := hB.2.2.2 k q hk2
    rw [e] at this
    exact out r hr this
  · rcases List.mem_append.mp hq with a | a
    · obtain ⟨k, hk2⟩ := List.getElem?_of_mem a
      exact hF _ (hB.2.2.2 k q hk2)
    · have hws : q ∈ ws := h.mem_iff.mpr (List.mem_append_right _ a)
      obtain ⟨k, hk2⟩ := List.getElem?_of_mem hws
      exact hw.2.1.2 k q hk2
theorem Wd.perm {E : Ev} {A : Nat → Prop} {H0 H : Heap} {ws ws' : va_W} {locs : List Loc} (hw : Wd E A H0 ws H locs) (h : ws.Perm ws') : Wd E A H0 ws' H locs := by
  refine ⟨vP_of (fun q hq => vP_mem hw.1 (h.mem_iff.mpr hq)), vD_of ((h.map Prod.fst).nodup_iff.mp (vD_nodup hw.2.1)) (fun q hq => ?_), hw.2.2⟩
  obtain ⟨k, hk⟩ := List.getElem?_of_mem (h.mem_iff.mpr hq)
  exact hw.2.1.2 k q hk
/-- a row whose cells are said otherwise -/
theorem Wd.setI {E : Ev} {A : Nat → Prop} {H0 H : Heap} {w1 w2 : va_W} {locs : List Loc} {q n : Nat} {f g : Fn} (hw : Wd E A H0 (w1 ++ (q, aI E n f) :: w2) H locs) (h : ∀ j, j < n → f j = g j) : Wd E A H0 (w1 ++ (q, aI E n g) :: w2) H locs := by
  refine ⟨vP_of (fun x hx => ?_), va_D_same hw.2.1 (by simp), hw.2.2⟩
  rcases List.mem_append.mp hx with a | a
  · exact vP_mem hw.1 (List.mem_append_left _ a)
  · rcases List.mem_cons.mp a with a | a
    · subst a
      exact va_at_I h (vP_mem hw.1 (List.mem_append_right _ List.mem_cons_self))
    · exact vP_mem hw.1 (List.mem_append_right _ (List.mem_cons_of_mem _ a))
section CTOR
variable {p : Program} {l : Launch} {e : Env} {R : Room} {s : State} {m : MethodId} {args : Array Value} {below : List Frame} {meth : Method} {c : Code} {H : Heap} {locs : List Loc} {cells slots : Nat} {Q : State → Prop}
variable {cc : ByteArray} {E : Ev} {A : Nat → Prop} {H0 : Heap} {ws wc wr ws' : va_W} {pc mc ms : Nat} {ls : Array Slot} {st0 rest : List Value} {α : Type} {ok : α → Prop} {W1 : α → va_W}
theorem kr_new {a : Array Value} (hr : va_Run p l e R s m args below meth c H locs cells slots mc ms (F0 m pc ls st0) rest (va_Qv (fun (u : α) => ok u) (fun u t => BW E (va_A wc H.size) (W1 u) t) (va_A wc H.size) a) (va_A wc H.size)) (hw : Wd E A H0 ws H locs) (hA : ∀ q, H0.size ≤ q → A q) (h : Rn ws wc wr)
    (kk : ∀ (u : α) (H1 : Heap) (locs1 : List Loc), ok u → Wd E A H0 (W1 u ++ wr) H1 locs1 → W p l e R s m args below meth c H1 locs1 (cells + mc) (slots + ms) Q (F0 m (pc + 3) ls rest)) : W p l e R s m args below meth c H locs cells slots Q (F0 m pc ls st0) := by
  have hF := h.rp.free hw hA
  refine va_callv hr hw.2.2 (fun q _ h => hF q h) hF (fun u t H1 locs1 ht hvm hp hB hz hk hS => ?_)
  exact kk u H1 locs1 hp (h.behind hw hA ht hB hk hS)
theorem k_putF (hx : p.tables.exec = Jvm.exec) (hb : c.code = cc) {own C : String} (hown : s.vm.findClass own = some m.cls) (hK : va_K E.1 vwCl (tysE E) s) (hw : Wd E A H0 ws H locs) {T : u_T} {N ci index : Nat} {Ts : List Cond} (hts : ∀ w ∈ Ts, w.before args s = true) (hin : ∀ w ∈ u_ws C T N, w ∈ Ts) (ty0 : Nat → FieldType) (hty : ∀ k, k < N → parseFieldDescriptor (T k).2.2.1 = some (ty0 k)) (hnm : ∀ a, a < N → ∀ b, b < N → a ≠ b → (T a).2.1 ≠ (T b).2.1) (q0 : Nat) {h0 : Nat} {fs : List Value} (he : ws[q0]? = some (h0, .inr (ci, fs))) (hc : vwCl[ci]? = some (C, T, N)) (k : Nat) (hk : k < N) (hlink : (Cond.fieldLink own index (T k).1 (T k).2.1 (T k).2.2.1).before args s = true) (hfin : (T k).2.2.2 = true) (hin2 : meth.name = "<init>") (hdecl : (T k).1 = own) {v : Value} (hn : narrow (ty0 k) v = v) (hfit : fits (ty0 k) v = true) (hl : k < fs.length) (hdg : decode cc pc = .ok (.putfield index, 3)) (hws : ws.set q0 (h0, .inr (ci, fs.set k v)) = ws')
    (kk : ∀ (H1 : Heap) (locs1 : List Loc), Wd E A H0 ws' H1 locs1 → W p l e R s m args below meth c H1 locs1 cells slots Q (F0 m (pc + 3) ls rest)) : W p l e R s m args below meth c H locs cells slots Q (F0 m pc ls (v :: .ref h0 :: rest)) := by
  subst hws
  exact va_putF (ty := ty0 k) hx hb hts hin ty0 hty hnm hown hK hw.1 hw.2.1 hw.2.2 q0 he hc k hk hlink (fun _ h => h) hfin hin2 hdecl (hty k hk) hn hfit hl hdg (fun H1 locs1 h1 h2 h3 => kk H1 locs1 ⟨h1, h2, h3⟩)
theorem k_new (hx : p.tables.exec = Jvm.exec) (hb : c.code = cc) {own C : String} (hown : s.vm.findClass own = some m.cls) (hK : va_K E.1 vwCl (tysE E) s) (hw : Wd E A H0 ws H locs) (hA : ∀ q, H0.size ≤ q → A q) {T : u_T} {N ci index : Nat} {Ts : List Cond} (hts : ∀ w ∈ Ts, w.before args s = true) (hin : ∀ w ∈ u_ws C T N, w ∈ Ts) (ty0 : Nat → FieldType) (hty : ∀ k, k < N → parseFieldDescriptor (T k).2.2.1 = some (ty0 k)) (hcl : (Cond.classLink own index C).before args s = true) (hinst : (Cond.instantiable C N).before args s = true) (hini : (Cond.initialized C).before args s = true) (hc : vwCl[ci]? = some (C, T, N)) {fs : List Value} (hfs : ∀ j, j < N → defaultValue (ty0 j) = vp_V fs j) (hcells : cells + 1 ≤ R.cells) (hslots : slots + N ≤ R.slots) (hdg : decode cc pc = .ok (.new index, 3))
    (kk : ∀ (q : Nat) (H1 : Heap), Wd E A H0 (ws ++ [(q, .inr (ci, fs))]) H1 locs → W p l e R s m args below meth c H1 locs (cells + 1) (slots + N) Q (F0 m (pc + 3) ls (.ref q :: rest))) : W p l e R s m args below meth c H locs cells slots Q (F0 m pc ls rest) :=
  va_new hx hb hts hin ty0 hty hown hcl hinst hini hK hw.1 hw.2.1 hw.2.2 hA hc hfs hcells hslots hdg (fun q H1 h1 h2 h3 => kk q H1 ⟨h1, h2, h3⟩)
theorem k_cret (u : α) (hx : p.tables.exec = Jvm.exec) (hb : c.code = cc) (hr : meth.sig.returnType = none) (hlocks : meth.locks = false) (hK : va_K E.1 vwCl (tysE E) s) (hw : Wd E A s.heap ws H locs) (hdg : decode cc pc = .ok (.return_, 1)) (hok : ok u) (hww : ws = W1 u) : W p l e R s m args below meth c H locs cells slots (EndC E A ok W1 below args s cells slots) (F0 m pc ls []) := by
  subst hww
  exact W.vret hx hb hr (fun t ht hW => ⟨⟨u, rfl, hok, by rw [ht]; exact hw.1, va_K.moved hW.alike hK, hw.2.1⟩, hw.2.2.F ht⟩) hw.2.2.2.2 hdg
end CTOR
section CTOR2
variable {l : Launch} {E : Ev} {y : MethodName} {wy wy' : List Cond} {rm : Room} {AV : List Value} {ws : va_W} {cc : ByteArray} {maxL : Nat} {ret : Option FieldType} {α : Type} {ok : α → Prop} {W1 : α → va_W}
theorem k_bC (hy : plainName y.cls = true) (hwy : wy = Cond.code y cc maxL ret :: wy') (hsz : (lg_sl AV).length ≤ maxL)
    (body : ∀ (p : Program) (e : Env) (s : State) (m : MethodId) (args : Array Value) (below : List Frame) (meth : Method) (c : Code) (A : Nat → Prop) (ls : Array Slot), Cx E y.cls cc maxL ret wy p s m args meth c A → meth.name = y.name → lv_has ls maxL (lv_args 0 AV) → Wd E A s.heap ws s.heap [] → W p l e rm s m args below meth c s.heap [] 0 0 (EndC E A ok W1 below args s rm.cells rm.slots) (F0 m 0 ls [])) : MC l E y wy rm AV ws ok W1 := by
  intro sz
  refine Met.ofW (cc := cc) (maxL := maxL) (ret := ret) hy hwy ?_
  intro p e s m args below meth c s₁ B hml hv
  have hz := hv.2.1
  subst hz
  exact k_entry hwy hsz B hml hv (fun ls _ hl hC hw => body p e s m args below meth c _ ls hC (name_of_methodNamed B.named B.method).1 hl hw)
end CTOR2
theorem vp_cell_0 (cA : ClassId) (N : Nat) : vp_cell cA (N, .inl (fun _ => 0)) = arrV cA N (fun _ => defaultValue .int) := by
  rw [vp_cell_i]; rfl
theorem vp_cell_z (cA : ClassId) (N : Nat) : vp_cell cA (N, .inl (fun _ => bI false)) = arrV cA N (fun _ => defaultValue .boolean) := by
  rw [vp_cell_i]; rfl
section NEWS
variable {p : Program} {l : Launch} {e : Env} {R : Room} {s : State} {m : MethodId} {args : Array Value} {below : List Frame} {meth : Method} {c : Code} {H : Heap} {locs : List Loc} {cells slots : Nat} {Q : State → Prop}
variable {cc : ByteArray} {E : Ev} {A : Nat → Prop} {H0 : Heap} {ws ws' : va_W} {pc : Nat} {ls : Array Slot} {rest : List Value}
theorem k_newI (hx : p.tables.exec = Jvm.exec) (hb : c.code = cc) (harr : (Cond.arrayClass .int).before args s = true) (hK : va_K E.1 vwCl (tysE E) s) (hw : Wd E A H0 ws H locs) (hA : ∀ q, H0.size ≤ q → A q) {N : Nat} (hN : N < 1000) (hcells : cells + 1 ≤ R.cells) (hslots : slots + N ≤ R.slots) (hdg : decode cc pc = .ok (.newarray .int, 2))
    (kk : ∀ (q : Nat) (H1 : Heap), Wd E A H0 (ws ++ [(q, aI E N (fun _ => 0))]) H1 locs → W p l e R s m args below meth c H1 locs (cells + 1) (slots + N) Q (F0 m (pc + 2) ls (.ref q :: rest))) : W p l e R s m args below meth c H locs cells slots Q (F0 m pc ls (.int (nI N) :: rest)) := by
  refine va_newa (atype := .int) (N' := N) hx hb harr rfl hK hw.1 hw.2.1 hw.2.2 hA (fun cA => vp_cell_0 cA N) (nI_pos (by omega)) (nI_clamp (by omega)) (Nat.le_trans (Nat.mul_le_mul_right _ (Nat.le_of_lt hN)) (Nat.le_of_ble_eq_true rfl)) hcells hslots hdg (fun q cA H1 hK1 hP hD hS => ?_)
  have e1 : cA = E.2.1 := Option.some.inj ((va_nm_int (hK1.2 4 _ rfl).2).symm.trans (va_nm_int (hK.2 0 _ rfl).2))
  subst e1
  exact kk q H1 ⟨hP, hD, hS⟩
theorem k_newZ (hx : p.tables.exec = Jvm.exec) (hb : c.code = cc) (harr : (Cond.arrayClass .boolean).before args s = true) (hK : va_K E.1 vwCl (tysE E) s) (hw : Wd E A H0 ws H locs) (hA : ∀ q, H0.size ≤ q → A q) {N : Nat} (hN : N < 1000) (hcells : cells + 1 ≤ R.cells) (hslots : slots + N ≤ R.slots) (hdg : decode cc pc = .ok (.newarray .boolean, 2))
    (kk : ∀ (q : Nat) (H1 : Heap), Wd E A H0 (ws ++ [(q, aZ E N (fun _ => false))]) H1 locs → W p l e R s m args below meth c H1 locs (cells + 1) (slots + N) Q (F0 m (pc + 2) ls (.ref q :: rest))) : W p l e R s m args below meth c H locs cells slots Q (F0 m pc ls (.int (nI N) :: rest)) := by
  refine va_newa (atype := .boolean) (N' := N) hx hb harr rfl hK hw.1 hw.2.1 hw.2.2 hA (fun cA => vp_cell_z cA N) (nI_pos (by omega)) (nI_clamp (by omega)) (Nat.le_trans (Nat.mul_le_mul_right _ (Nat.le_of_lt hN)) (Nat.le_of_ble_eq_true rfl)) hcells hslots hdg (fun q cA H1 hK1 hP hD hS => ?_)
  have e1 : cA = E.2.2.1 := Option.some.inj ((va_nm_boolean (hK1.2 4 _ rfl).2).symm.trans (va_nm_boolean (hK.2 1 _ rfl).2))
  subst e1
  exact kk q H1 ⟨hP, hD, hS⟩
theorem Wd.drop {x : Nat × va_E} (h : Wd E A H0 (ws ++ [x]) H locs) : Wd E A H0 ws H locs := by
  have key : ∀ (k : Nat) (q : Nat × va_E), ws[k]? = some q → (ws ++ [x])[k]? = some q := fun k q hk => by
    rw [List.getElem?_append_left (List.getElem?_eq_some_iff.mp hk).1]; exact hk
  exact ⟨fun k q hk => h.1 k q (key k q hk), ⟨fun i j y z hy hz => h.2.1.1 i j y z (key i y hy) (key j z hz), fun k q hk => h.2.1.2 k q (key k q hk)⟩, h.2.2⟩
end NEWS
