/-! ===== build: the harbour that the script makes ===== -/
theorem RF_0 : RF 0 G0 S0 0 0 0 0 0 0 0 (fun _ => 0) (fun _ => 0) (fun _ => 0) (fun _ => 0) (fun _ => 0) (fun _ => 0) (fun _ => 0) (fun _ => 0) (fun _ => 0) (fun _ => 0) (fun _ => 0) (fun _ => 0) (fun _ => 0) :=
  ⟨⟨⟨⟨rfl, rfl, rfl, by omega, by omega, by omega⟩, fun s hs => absurd hs (by omega), fun p hp => absurd hp (by omega), fun p _ _ => ⟨rfl, rfl, rfl⟩⟩, ⟨fun s hs => absurd hs (by omega), fun s _ _ => rfl⟩, ⟨fun s hs => absurd hs (by omega), fun s _ _ => rfl⟩, ⟨fun s hs => absurd hs (by omega), fun s _ _ => rfl⟩, ⟨fun p hp => absurd hp (by omega), fun p _ _ => rfl, fun p _ => ⟨0, by omega, nI_0.symm⟩⟩, ⟨fun w hw => absurd hw (by omega), fun w _ => ⟨0, by omega, nI_0.symm⟩⟩, fun i _ => .inl rfl, fun i _ => rfl, rfl, ⟨rfl, 0, by omega, nI_0.symm⟩, ⟨rfl, 0, by omega, nI_0.symm⟩, fun s _ hr => absurd (show false = true from hr) (by decide), fun w s _ _ hn => absurd rfl hn, fun p _ _ => rfl⟩, fun s _ hr => absurd (show false = true from hr) (by decide)⟩
theorem RF_tr {Bd : Nat} {G : HS} {S : CS} {v_ni v_wa v_un : Int32} {v_ns v_np v_nw v_ng : Nat} {v_ma v_st v_ou v_ru : Fn} {v_so : FnN} {v_mt v_vo v_gi v_ca v_tr : Fn} {v_sw v_ss : FnN} {v_sg tr' : Fn} (h : (RF Bd G S v_ni v_wa v_un v_ns v_np v_nw v_ng v_ma v_st v_ou v_ru v_so v_mt v_vo v_gi v_ca v_tr v_sw v_ss v_sg)) (e : ∀ w, w < v_nw → tr' w = v_tr w) : (RF Bd G S v_ni v_wa v_un v_ns v_np v_nw v_ng v_ma v_st v_ou v_ru v_so v_mt v_vo v_gi v_ca tr' v_sw v_ss v_sg) := by
  obtain ⟨⟨hH, hst, hou, hru, hca, htr, hag, hsg, hni, hwa, hun, l1, l2, l3⟩, lb⟩ := h
  exact ⟨⟨hH, hst, hou, hru, hca, ⟨fun w hw => (htr.1 w hw).trans (e w hw).symm, htr.2⟩, hag, hsg, hni, hwa, hun, l1, l2, l3⟩, lb⟩
def PXZ (E : Ev) (b L : Nat) (xs : Nat → Int32) (ws : va_W) (sz : Nat) (U : State) : Prop := PX E ws sz U ∧ va_X b L xs U U.heap ∧ b < sz ∧ ¬ va_A ws sz b
theorem PXZ.blind {E : Ev} {b L : Nat} {xs : Nat → Int32} {AV : List Value} {ws : va_W} {sz : Nat} : FrameBlind (va_Pc AV (PXZ E b L xs ws sz)) := fun a U g mk q => by
  obtain ⟨q0, q1, q2, q3⟩ := q
  exact ⟨q0, (PX.blind a U g mk ⟨q0, q1⟩).2, va_X.moved (u := U) (U := U.calling g mk a) (Vm.Alike.refl U.vm) q2, q3⟩
theorem rpXZ {E : Ev} {A : Nat → Prop} {s : State} {ws wc w1 ws' : va_W} {H : Heap} {locs : List Loc} {AV : List Value} {b L : Nat} {xs : Nat → Int32} (hw : Wd E A s.heap ws H locs) (hK : va_K E.1 vwCl (tysE E) s) (hG : Gx s) (hZ : Zx A s s.heap) (hA : ∀ q, s.heap.size ≤ q → A q) (hX : va_X b L xs s s.heap) (hbl : b < s.heap.size) (hbA : ¬ A b) (h : Rp ws wc w1 ws') : PreS s H (va_Pc AV (PXZ E b L xs wc H.size)) AV := by
  have h1 := rpX (AV := AV) hw hK hG hZ hA h
  have h2 := rpZ (AV := AV) hw hK hG hX hbl hbA h
  exact ⟨PXZ.blind, fun U hU hW => ⟨rfl, (h1.2 U hU hW).2, (h2.2 U hU hW).2.2⟩⟩
/-- contracts of methods that read the script and answer a new object -/
def MBZ {α : Type} (l : Launch) (E : Ev) (y : MethodName) (wy : List Cond) (rm : Room) (AV : List Value) (b L : Nat) (xs : Nat → Int32) (ws : va_W) (post : α → Prop) (W2 : α → Nat → va_W) : Prop :=
  ∀ sz, Met l y wy rm (va_Pc AV (PXZ E b L xs ws sz)) (va_Qr (fun (u : α) => post u) (fun u a t => BW E (va_A ws sz) (W2 u a) t) (va_A ws sz)) rm.cells rm.slots (va_A ws sz)
abbrev EndBZ {α : Type} (E : Ev) (A : Nat → Prop) (post : α → Prop) (W2 : α → Nat → va_W) (below : List Frame) (args : Array Value) (s : State) (mc ms : Nat) : State → Prop := MQ below (va_Qr (fun (u : α) => post u) (fun u a t => BW E A (W2 u a) t) A) args s mc ms A
theorem k_bBZ {α : Type} {post : α → Prop} {W2 : α → Nat → va_W} {l : Launch} {E : Ev} {y : MethodName} {wy wy' : List Cond} {rm : Room} {AV : List Value} {b L : Nat} {xs : Nat → Int32} {ws : va_W} {cc : ByteArray} {maxL : Nat} {ret : Option FieldType} (hy : plainName y.cls = true) (hwy : wy = Cond.code y cc maxL ret :: wy') (hsz : (lg_sl AV).length ≤ maxL)
    (body : ∀ (p : Program) (e : Env) (s : State) (m : MethodId) (args : Array Value) (below : List Frame) (meth : Method) (c : Code) (A : Nat → Prop) (ls : Array Slot), Cx E y.cls cc maxL ret wy p s m args meth c A → Zx A s s.heap → va_X b L xs s s.heap → b < s.heap.size → ¬ A b → lv_has ls maxL (lv_args 0 AV) → Wd E A s.heap ws s.heap [] → W p l e rm s m args below meth c s.heap [] 0 0 (EndBZ E A post W2 below args s rm.cells rm.slots) (F0 m 0 ls [])) : MBZ l E y wy rm AV b L xs ws post W2 := by
  intro sz
  refine Met.ofW (cc := cc) (maxL := maxL) (ret := ret) hy hwy ?_
  intro p e s m args below meth c s₁ B hml hv
  obtain ⟨hv1, ⟨hv2, hZ⟩, hX, hbl, hbA⟩ := hv
  have hz := hv2.1
  subst hz
  exact k_entry hwy hsz B hml ⟨hv1, hv2⟩ (fun ls _ hl hC hw => body p e s m args below meth c _ ls hC hZ hX hbl hbA hl hw)
theorem k_retBZ {p : Program} {l : Launch} {e : Env} {R : Room} {s : State} {m : MethodId} {args : Array Value} {below : List Frame} {meth : Method} {c : Code} {H : Heap} {locs : List Loc} {cells slots : Nat} {cc : ByteArray} {E : Ev} {A : Nat → Prop} {pc : Nat} {ls : Array Slot} {α : Type} {W2 : α → Nat → va_W} {post : α → Prop} {b : Nat} {rt : FieldType} (u : α) (hx : p.tables.exec = Jvm.exec) (hb : c.code = cc) (hr : meth.sig.returnType = some rt) (hrt : (∃ n, rt = .object n) ∨ ∃ t, rt = .array t) (hlocks : meth.locks = false) (hK : va_K E.1 vwCl (tysE E) s) (hw : Wd E A s.heap (W2 u b) H locs) (hdg : decode cc pc = .ok (.areturn, 1)) (hu : post u) : W p l e R s m args below meth c H locs cells slots (EndBZ E A post W2 below args s cells slots) (F0 m pc ls [.ref b]) :=
  W.aret hx hb hr hrt (Or.inr ⟨b, rfl⟩) (fun t ht hW => ⟨⟨u, b, rfl, hu, by rw [ht]; exact hw.1, va_K.moved hW.alike hK, hw.2.1⟩, hw.2.2.F ht⟩) hw.2.2.2.2 hdg
theorem kr_B {p : Program} {l : Launch} {e : Env} {R : Room} {s : State} {m : MethodId} {args : Array Value} {below : List Frame} {meth : Method} {c : Code} {H : Heap} {locs : List Loc} {cells slots : Nat} {Q : State → Prop} {E : Ev} {A : Nat → Prop} {H0 : Heap} {ws wc wr : va_W} {pc mc ms : Nat} {ls : Array Slot} {st0 rest : List Value} {α : Type} {W2 : α → Nat → va_W} {post : α → Prop} {a : Array Value} (hr : va_Run p l e R s m args below meth c H locs cells slots mc ms (F0 m pc ls st0) rest (va_Qr (fun (u : α) => post u) (fun u b t => BW E (va_A wc H.size) (W2 u b) t) (va_A wc H.size) a) (va_A wc H.size)) (hw : Wd E A H0 ws H locs) (hA : ∀ q, H0.size ≤ q → A q) (h : Rn ws wc wr)
    (kk : ∀ (u : α) (b : Nat) (H1 : Heap) (locs1 : List Loc), post u → Wd E A H0 (W2 u b ++ wr) H1 locs1 → W p l e R s m args below meth c H1 locs1 (cells + mc) (slots + ms) Q (F0 m (pc + 3) ls (.ref b :: rest))) : W p l e R s m args below meth c H locs cells slots Q (F0 m pc ls st0) := by
  have hF := h.rp.free hw hA
  refine va_callr hr hw.2.2 (fun q _ h => hF q h) hF (fun u b t H1 locs1 ht hvm hp hB hz hk hS => ?_)
  exact kk u b H1 locs1 hp (h.behind hw hA ht hB hk hS)
set_option maxHeartbeats 4000000 in
set_option maxRecDepth 100000 in
theorem b_300 (l : Launch) (hflags : l.stackTraces = false) (E : Ev) {p9 : Program} {e : Env} {s9 : State} {m : MethodId} {args : Array Value} {below : List Frame} {meth : Method} {c : Code} {A9 : Nat → Prop} {Q : State → Prop} {b L : Nat} {xs : Nat → Int32} (hC : Cx E yL_build.cls cL_build 10 (some (.object "SailorCandlesLaw$Sim")) wsL_build p9 s9 m args meth c A9) (hZ : Zx A9 s9 s9.heap) (hX : va_X b L xs s9 s9.heap) (hbl : b < s9.heap.size) (hbA : ¬ A9 b) (hL : L ≤ 260) (x : Nat) (A T B : Nat → Nat) (U : CS) (q n0 Bd : Nat) (hBd : Bd ≤ 500) (fin : ∀ (u : AO) (H : Heap) (locs : List Loc) (ls : Array Slot), okA 1000 u → Wd E A9 s9.heap (wAct E x q A T B U u) H locs → W p9 l e rm_L_build s9 m args below meth c H locs 2000 20000 Q (F0 m 339 ls [.ref q])) (S : CS) (G : HS) (P : AP) (v_ni v_wa v_un : Int32) (v_ns v_np v_nw v_ng : Nat) (v_ma v_st v_ou v_ru : Fn) (v_so : FnN) (v_mt v_vo v_gi v_ca v_tr : Fn) (v_sw v_ss : FnN) (v_sg : Fn) (h : (RF Bd G S v_ni v_wa v_un v_ns v_np v_nw v_ng v_ma v_st v_ou v_ru v_so v_mt v_vo v_gi v_ca v_tr v_sw v_ss v_sg)) (hwa0 : v_wa = 0) (h0s : 0 < v_ns) (cells slots : Nat) (hc : cells + 10 ≤ 2000) (hs : slots + 60 ≤ 20000) {H : Heap} {locs : List Loc} {ls : Array Slot} (hw : Wd E A9 s9.heap (wX x A T B ++ wC E A (B 0) S ++ wC E T (B 0) U ++ wG E B G ++ wS E q P (mkS v_ni v_wa v_un v_ns v_np v_nw v_ng v_ma v_st v_ou v_ru v_so v_mt v_vo v_gi v_ca v_tr v_sw v_ss v_sg)) H locs) (hl : lv_has ls 10 [(0, .ref x), (1, .ref b), (2, .ref q), (3, .int (nI n0))]) : W p9 l e rm_L_build s9 m args below meth c H locs cells slots Q (F0 m 300 ls []) := by
  obtain ⟨hns, hnp, hnw, hng, hso, hsw⟩ : v_ns ≤ 5 ∧ v_np ≤ 16 ∧ v_nw ≤ 4 ∧ v_ng ≤ 20 ∧ (∀ p, p < v_np → v_so p < v_ns) ∧ ∀ j, j < v_ng → v_sw j < v_nw := RR_MOK (RF_to h).1
  obtain ⟨a0, a1, a2⟩ := a_wax h (k := (1 + bl (f_cell L xs 5 >>> ((2 : Int32) &&& 31)) 300)) (by omega) (by have : bl (f_cell L xs 5 >>> ((2 : Int32) &&& 31)) 300 < 300 := bl_lt (by omega); omega)
  rw [hwa0, Int32.zero_add] at a1 a2
  exact bb_300 l hflags E hC hZ hX hbl hbA hL x A T B S U G q P  v_ni v_wa v_un v_ns v_np v_nw v_ng v_ma v_st v_ou v_ru v_so v_mt v_vo v_gi v_ca v_tr v_sw v_ss v_sg n0 0 0 hns hnp hnw hng hso hsw a0 a1 cells slots hc hs (fun H locs ls hw hl => W.widen (k := 2000) (n := 20000) (show cells + 10 ≤ 2000 by omega) (show slots + 60 ≤ 20000 by omega) (fin (P, p_wa S (c_wa S + nI (1 + bl (f_cell L xs 5 >>> ((2 : Int32) &&& 31)) 300)), G, (mkS v_ni (nI (1 + bl (f_cell L xs 5 >>> ((2 : Int32) &&& 31)) 300)) v_un v_ns v_np v_nw v_ng v_ma v_st v_ou v_ru v_so v_mt v_vo v_gi v_ca v_tr v_sw v_ss v_sg)) H locs ls ⟨RR_le (RF_to a2) (by omega), h0s⟩ hw)) hw hl
set_option maxHeartbeats 4000000 in
set_option maxRecDepth 100000 in
theorem b_265 (l : Launch) (hflags : l.stackTraces = false) (E : Ev) {p9 : Program} {e : Env} {s9 : State} {m : MethodId} {args : Array Value} {below : List Frame} {meth : Method} {c : Code} {A9 : Nat → Prop} {Q : State → Prop} {b L : Nat} {xs : Nat → Int32} (hC : Cx E yL_build.cls cL_build 10 (some (.object "SailorCandlesLaw$Sim")) wsL_build p9 s9 m args meth c A9) (hZ : Zx A9 s9 s9.heap) (hX : va_X b L xs s9 s9.heap) (hbl : b < s9.heap.size) (hbA : ¬ A9 b) (hL : L ≤ 260) (x : Nat) (A T B : Nat → Nat) (U : CS) (q n0 Bd : Nat) (hBd : Bd ≤ 500) (fin : ∀ (u : AO) (H : Heap) (locs : List Loc) (ls : Array Slot), okA 1000 u → Wd E A9 s9.heap (wAct E x q A T B U u) H locs → W p9 l e rm_L_build s9 m args below meth c H locs 2000 20000 Q (F0 m 339 ls [.ref q])) : ∀ (n k : Nat) (S : CS) (G : HS) (P : AP) (v_ni v_wa v_un : Int32) (v_ns v_np v_nw v_ng : Nat) (v_ma v_st v_ou v_ru : Fn) (v_so : FnN) (v_mt v_vo v_gi v_ca v_tr : Fn) (v_sw v_ss : FnN) (v_sg : Fn), (RF Bd G S v_ni v_wa v_un v_ns v_np k v_ng v_ma v_st v_ou v_ru v_so v_mt v_vo v_gi v_ca v_tr v_sw v_ss v_sg) → k + n = v_nw → v_nw ≤ 4 → v_wa = 0 → v_ng = 0 → 0 < v_ns → ∀ (cells slots : Nat), cells + 10 * n + 10 ≤ 2000 → slots + 60 * n + 60 ≤ 20000 → ∀ (H : Heap) (locs : List Loc) (ls : Array Slot), Wd E A9 s9.heap (wX x A T B ++ wC E A (B 0) S ++ wC E T (B 0) U ++ wG E B G ++ wS E q P (mkS v_ni v_wa v_un v_ns v_np v_nw v_ng v_ma v_st v_ou v_ru v_so v_mt v_vo v_gi v_ca v_tr v_sw v_ss v_sg)) H locs → lv_has ls 10 [(0, .ref x), (1, .ref b), (2, .ref q), (3, .int (nI n0)), (5, .int (nI k))] → W p9 l e rm_L_build s9 m args below meth c H locs cells slots Q (F0 m 265 ls []) := by
  obtain ⟨hx, hb, hml, hr, hown, hts, hlocks, hK, hG, hA⟩ := id hC
  have hf21 := hts (.fieldLink RL 21 "SailorCandlesLaw$Sim" "trust" "[I") (List.mem_of_getElem? (i := 7) rfl)
  have hinX3 : ∀ w ∈ wsX30, w ∈ wsL_build := fun w h => List.mem_cons_of_mem _ (List.mem_append_left _ (List.mem_append_left _ (List.mem_append_left _ (List.mem_append_left _ (List.mem_append_left _ (List.mem_append_left _ (List.mem_append_right _ h)))))))
  intro n
  induction n with
  | zero =>
    intro k S G P v_ni v_wa v_un v_ns v_np v_nw v_ng v_ma v_st v_ou v_ru v_so v_mt v_vo v_gi v_ca v_tr v_sw v_ss v_sg h hk h4 hwa0 hng0 h0s cells slots hc hs H locs ls hw hl
    have hkn : k = v_nw := by omega
    rw [hkn] at h hl
    refine lv_iload hx hb dL_build_265 (lv_at hl 4 rfl) ?_
    refine lv_aload_n hx hb dL_build_267 rfl (lv_at hl 2 rfl) ?_
    refine k_get (ci := 3) (v := .ref (P.1 3)) (C := RX3) (T := TX3) (N := 7) hx hb hown hK hw hts hinX3 21 rfl rfl 5 (by decide) hf21 rfl dL_build_268 ?_
    refine k_lenI (n := v_nw) hx hb hK hw 24 rfl dL_build_271 ?_
    refine lv_icmp_ge (tgt := 300) hx hb dL_build_272 (by decide) (fun _ => ?_) (fun q8 => absurd (Int32.le_refl _) q8)
    exact b_300 l hflags E hC hZ hX hbl hbA hL x A T B U q n0 Bd hBd fin S G P v_ni v_wa v_un v_ns v_np v_nw v_ng v_ma v_st v_ou v_ru v_so v_mt v_vo v_gi v_ca v_tr v_sw v_ss v_sg h hwa0 h0s cells slots (by omega) (by omega) hw (lv_sub hl [0, 1, 2, 3] rfl)
  | succ n ih =>
    intro k S G P v_ni v_wa v_un v_ns v_np v_nw v_ng v_ma v_st v_ou v_ru v_so v_mt v_vo v_gi v_ca v_tr v_sw v_ss v_sg h hk h4 hwa0 hng0 h0s cells slots hc hs H locs ls hw hl
    refine lv_iload hx hb dL_build_265 (lv_at hl 4 rfl) ?_
    refine lv_aload_n hx hb dL_build_267 rfl (lv_at hl 2 rfl) ?_
    refine k_get (ci := 3) (v := .ref (P.1 3)) (C := RX3) (T := TX3) (N := 7) hx hb hown hK hw hts hinX3 21 rfl rfl 5 (by decide) hf21 rfl dL_build_268 ?_
    refine k_lenI (n := v_nw) hx hb hK hw 24 rfl dL_build_271 ?_
    refine lv_icmp_ge (tgt := 300) hx hb dL_build_272 (by decide) (fun q8 => absurd q8 (nI_ge (a := k) (b := v_nw) (by omega) (by omega))) (fun _ => ?_)
    obtain ⟨hns, hnp, -, -, hso, -⟩ : v_ns ≤ 5 ∧ v_np ≤ 16 ∧ k ≤ 4 ∧ v_ng ≤ 20 ∧ (∀ p, p < v_np → v_so p < v_ns) ∧ ∀ j, j < v_ng → v_sw j < k := RR_MOK (RF_to h).1
    obtain ⟨a0, -, a2⟩ := a_wat h (fun q => by have := nI_inj5 (a := k) (b := 4) (by omega) (by omega) q; omega)
    have g3 : g_wc G = k := h.1.1.1.2.2.1
    refine bb_275 l hflags E hC hZ hX hbl hbA hL x A T B S U G q P  v_ni v_wa v_un v_ns v_np v_nw v_ng v_ma v_st v_ou v_ru v_so v_mt v_vo v_gi v_ca v_tr v_sw v_ss v_sg n0 0 k hns hnp h4 (by omega) hso (fun j hj => absurd hj (by omega)) (by omega) a0 (by rw [g3]) cells slots (by omega) (by omega) (fun H locs ls hw hl => ?_) hw hl
    refine lv_iinc (v := nI (k + 1)) (lv' := [(5, .int (nI (k + 1))), (0, .ref x), (1, .ref b), (2, .ref q), (3, .int (nI n0))]) hx hb dL_build_294 hl (k := 4) rfl (nI_add k 1) (by decide) rfl (fun ls hl => ?_)
    refine lv_goto (tgt := 265) hx hb dL_build_297 (by decide) ?_
    refine ih (k + 1) (f_addWatcher G S) (f_ewat G) P v_ni v_wa v_un v_ns v_np v_nw v_ng v_ma v_st v_ou v_ru v_so v_mt v_vo v_gi v_ca (upd v_tr k 5) v_sw v_ss v_sg (RF_tr a2 (fun w hw => ?_)) (by omega) h4 hwa0 hng0 h0s (cells + 10) (slots + 60) (by omega) (by omega) _ _ _ hw (lv_sub hl [1, 2, 3, 4, 0] rfl)
    by_cases e : w = k
    · subst e; rw [pk_us, pk_us]
    · rw [pk_un e, pk_un e, cpy_at _ _ _ (by omega)]
set_option maxHeartbeats 4000000 in
set_option maxRecDepth 100000 in
theorem b_244 (l : Launch) (hflags : l.stackTraces = false) (E : Ev) {p9 : Program} {e : Env} {s9 : State} {m : MethodId} {args : Array Value} {below : List Frame} {meth : Method} {c : Code} {A9 : Nat → Prop} {Q : State → Prop} {b L : Nat} {xs : Nat → Int32} (hC : Cx E yL_build.cls cL_build 10 (some (.object "SailorCandlesLaw$Sim")) wsL_build p9 s9 m args meth c A9) (hZ : Zx A9 s9 s9.heap) (hX : va_X b L xs s9 s9.heap) (hbl : b < s9.heap.size) (hbA : ¬ A9 b) (hL : L ≤ 260) (x : Nat) (A T B : Nat → Nat) (U : CS) (q n0 Bd : Nat) (hBd : Bd ≤ 500) (fin : ∀ (u : AO) (H : Heap) (locs : List Loc) (ls : Array Slot), okA 1000 u → Wd E A9 s9.heap (wAct E x q A T B U u) H locs → W p9 l e rm_L_build s9 m args below meth c H locs 2000 20000 Q (F0 m 339 ls [.ref q])) (S : CS) (G : HS) (P : AP) (v_ni v_wa v_un : Int32) (v_ns v_np v_nw v_ng : Nat) (v_ma v_st v_ou v_ru : Fn) (v_so : FnN) (v_mt v_vo v_gi v_ca v_tr : Fn) (v_sw v_ss : FnN) (v_sg : Fn) (h : (RF Bd G S v_ni v_wa v_un v_ns v_np v_nw v_ng v_ma v_st v_ou v_ru v_so v_mt v_vo v_gi v_ca v_tr v_sw v_ss v_sg)) (hnw0 : v_nw = 0) (hwa0 : v_wa = 0) (hng0 : v_ng = 0) (h0s : 0 < v_ns) (cells slots : Nat) (hc : cells + 60 ≤ 2000) (hs : slots + 360 ≤ 20000) {H : Heap} {locs : List Loc} {ls : Array Slot} (hw : Wd E A9 s9.heap (wX x A T B ++ wC E A (B 0) S ++ wC E T (B 0) U ++ wG E B G ++ wS E q P (mkS v_ni v_wa v_un v_ns v_np v_nw v_ng v_ma v_st v_ou v_ru v_so v_mt v_vo v_gi v_ca v_tr v_sw v_ss v_sg)) H locs) (hl : lv_has ls 10 [(0, .ref x), (1, .ref b), (2, .ref q), (3, .int (nI n0))]) : W p9 l e rm_L_build s9 m args below meth c H locs cells slots Q (F0 m 244 ls []) := by
  obtain ⟨hx, hb, hml, hr, hown, hts, hlocks, hK, hG, hA⟩ := id hC
  obtain ⟨hns, hnp, hnw, hng, hso, hsw⟩ : v_ns ≤ 5 ∧ v_np ≤ 16 ∧ v_nw ≤ 4 ∧ v_ng ≤ 20 ∧ (∀ p, p < v_np → v_so p < v_ns) ∧ ∀ j, j < v_ng → v_sw j < v_nw := RR_MOK (RF_to h).1
  have b5 : (bl (f_cell L xs 0 >>> ((7 : Int32) &&& 31)) 5) < 5 := bl_lt (by omega)
  refine bb_244 l hflags E hC hZ hX hbl hbA hL x A T B S U G q P  v_ni v_wa v_un v_ns v_np v_nw v_ng v_ma v_st v_ou v_ru v_so v_mt v_vo v_gi v_ca v_tr v_sw v_ss v_sg n0 0 0 hns hnp hnw hng hso hsw b5 cells slots (by omega) (by omega) (fun P9 H locs ls hw hl => ?_) hw hl
  refine lv_iconst (v := 0) hx hb dL_build_262 (by decide) ?_
  refine lv_istore (lv' := [(5, .int 0), (0, .ref x), (1, .ref b), (2, .ref q), (3, .int (nI n0))]) hx hb dL_build_263 hl (by decide) rfl (fun ls hl => ?_)
  refine b_265 l hflags E hC hZ hX hbl hbA hL x A T B U q n0 Bd hBd fin (bl (f_cell L xs 0 >>> ((7 : Int32) &&& 31)) 5) 0 S G P9 v_ni v_wa v_un v_ns v_np (bl (f_cell L xs 0 >>> ((7 : Int32) &&& 31)) 5) v_ng v_ma v_st v_ou v_ru v_so v_mt v_vo v_gi v_ca (fun _ => 0) v_sw v_ss v_sg (RF_tr (by rw [hnw0] at h; exact h) (fun w hw => absurd hw (by omega))) (by omega) (by omega) hwa0 hng0 h0s (cells + 10) (slots + 60) (by omega) (by omega) _ _ _ hw ?_
  rw [nI_0]
  exact lv_sub hl [1, 2, 3, 4, 0] rfl
set_option maxHeartbeats 4000000 in
set_option maxRecDepth 100000 in
theorem b_112 (l : Launch) (hflags : l.stackTraces = false) (E : Ev) {p9 : Program} {e : Env} {s9 : State} {m : MethodId} {args : Array Value} {below : List Frame} {meth : Method} {c : Code} {A9 : Nat → Prop} {Q : State → Prop} {b L : Nat} {xs : Nat → Int32} (hC : Cx E yL_build.cls cL_build 10 (some (.object "SailorCandlesLaw$Sim")) wsL_build p9 s9 m args meth c A9) (hZ : Zx A9 s9 s9.heap) (hX : va_X b L xs s9 s9.heap) (hbl : b < s9.heap.size) (hbA : ¬ A9 b) (hL : L ≤ 260) (x : Nat) (A T B : Nat → Nat) (U : CS) (q n0 Bd : Nat) (hBd : Bd ≤ 500) (fin : ∀ (u : AO) (H : Heap) (locs : List Loc) (ls : Array Slot), okA 1000 u → Wd E A9 s9.heap (wAct E x q A T B U u) H locs → W p9 l e rm_L_build s9 m args below meth c H locs 2000 20000 Q (F0 m 339 ls [.ref q])) (n1 : Nat) : ∀ (n k : Nat) (S : CS) (G : HS) (P : AP) (v_ni v_wa v_un : Int32) (v_ns v_np v_nw v_ng : Nat) (v_ma v_st v_ou v_ru : Fn) (v_so : FnN) (v_mt v_vo v_gi v_ca v_tr : Fn) (v_sw v_ss : FnN) (v_sg : Fn), (RF Bd G S v_ni v_wa v_un v_ns v_np v_nw v_ng v_ma v_st v_ou v_ru v_so v_mt v_vo v_gi v_ca v_tr v_sw v_ss v_sg) → v_np = k → k + n = n1 → n1 ≤ 12 → (∀ j, v_st j = 0) → v_ns = n0 → v_nw = 0 → v_wa = 0 → v_ng = 0 → 0 < v_ns → ∀ (cells slots : Nat), cells + 10 * n + 60 ≤ 2000 → slots + 60 * n + 360 ≤ 20000 → ∀ (H : Heap) (locs : List Loc) (ls : Array Slot), Wd E A9 s9.heap (wX x A T B ++ wC E A (B 0) S ++ wC E T (B 0) U ++ wG E B G ++ wS E q P (mkS v_ni v_wa v_un v_ns v_np v_nw v_ng v_ma v_st v_ou v_ru v_so v_mt v_vo v_gi v_ca v_tr v_sw v_ss v_sg)) H locs → lv_has ls 10 [(0, .ref x), (1, .ref b), (2, .ref q), (3, .int (nI n0)), (4, .int (nI n1)), (5, .int (nI k))] → W p9 l e rm_L_build s9 m args below meth c H locs cells slots Q (F0 m 112 ls []) := by
  obtain ⟨hx, hb, hml, hr, hown, hts, hlocks, hK, hG, hA⟩ := id hC
  intro n
  induction n with
  | zero =>
    intro k S G P v_ni v_wa v_un v_ns v_np v_nw v_ng v_ma v_st v_ou v_ru v_so v_mt v_vo v_gi v_ca v_tr v_sw v_ss v_sg h hkp hk h12 hst0 hns0 hnw0 hwa0 hng0 h0s cells slots hc hs H locs ls hw hl
    have hkn : k = n1 := by omega
    refine lv_iload hx hb dL_build_112 (lv_at hl 5 rfl) ?_
    refine lv_iload hx hb dL_build_114 (lv_at hl 4 rfl) ?_
    refine lv_icmp_ge (tgt := 244) hx hb dL_build_116 (by decide) (fun _ => ?_) (fun q8 => absurd (by rw [hkn]; exact Int32.le_refl _) q8)
    exact b_244 l hflags E hC hZ hX hbl hbA hL x A T B U q n0 Bd hBd fin S G P v_ni v_wa v_un v_ns v_np v_nw v_ng v_ma v_st v_ou v_ru v_so v_mt v_vo v_gi v_ca v_tr v_sw v_ss v_sg h hnw0 hwa0 hng0 h0s cells slots (by omega) (by omega) hw (lv_sub hl [0, 1, 2, 3] rfl)
  | succ n ih =>
    intro k S G P v_ni v_wa v_un v_ns v_np v_nw v_ng v_ma v_st v_ou v_ru v_so v_mt v_vo v_gi v_ca v_tr v_sw v_ss v_sg h hkp hk h12 hst0 hns0 hnw0 hwa0 hng0 h0s cells slots hc hs H locs ls hw hl
    refine lv_iload hx hb dL_build_112 (lv_at hl 5 rfl) ?_
    refine lv_iload hx hb dL_build_114 (lv_at hl 4 rfl) ?_
    refine lv_icmp_ge (tgt := 244) hx hb dL_build_116 (by decide) (fun q8 => absurd q8 (nI_ge (a := k) (b := n1) (by omega) (by omega))) (fun _ => ?_)
    obtain ⟨hns, hnp, hnw, hng, hso, hsw⟩ : v_ns ≤ 5 ∧ v_np ≤ 16 ∧ v_nw ≤ 4 ∧ v_ng ≤ 20 ∧ (∀ p, p < v_np → v_so p < v_ns) ∧ ∀ j, j < v_ng → v_sw j < v_nw := RR_MOK (RF_to h).1
    have hs9 : (bl (f_cell L xs (k % 16) >>> ((3 : Int32) &&& 31)) n0) < v_ns := by rw [hns0]; exact bl_lt (by omega)
    have g2 : g_pc G = k := h.1.1.1.2.1.trans hkp
    have hf : (if 0 < v_st (bl (f_cell L xs (k % 16) >>> ((3 : Int32) &&& 31)) n0) then true else if nI v_np = 16 then true else false) = false := by
      rw [hst0, if_neg (by decide), if_neg (fun q => by have := nI_inj5 (a := v_np) (b := 16) (by omega) (by omega) q; omega)]
    by_cases hbb : nI (bl ((f_cell L xs (k % 16) >>> ((3 : Int32) &&& 31)) >>> ((5 : Int32) &&& 31)) 3) ≤ 0
    · obtain ⟨a0, -, a2⟩ := a_sailor h hs9 hf ((f_cell L xs (k % 16) >>> ((3 : Int32) &&& 31)) >>> ((3 : Int32) &&& 31)) (v := false) (u := 0) rfl
      refine bb_119f l hflags E hC hZ hX hbl hbA hL x A T B S U G q P  v_ni v_wa v_un v_ns v_np v_nw v_ng v_ma v_st v_ou v_ru v_so v_mt v_vo v_gi v_ca v_tr v_sw v_ss v_sg n0 n1 k hns hnp hnw hng hso hsw (by omega) (by omega) (by omega) hs9 (a_mast h hs9 ((f_cell L xs (k % 16) >>> ((3 : Int32) &&& 31)) >>> ((3 : Int32) &&& 31))).1 hbb a0 (by rw [g2]) cells slots (by omega) (by omega) (fun P9 H locs ls hw hl => ?_) hw hl
      refine lv_iinc (v := nI (k + 1)) (lv' := [(5, .int (nI (k + 1))), (0, .ref x), (1, .ref b), (2, .ref q), (3, .int (nI n0)), (4, .int (nI n1))]) hx hb dL_build_238 hl (k := 5) rfl (nI_add k 1) (by decide) rfl (fun ls hl => ?_)
      refine lv_goto (tgt := 112) hx hb dL_build_241 (by decide) ?_
      exact ih (k + 1) S (f_esail G (nI (bl (f_cell L xs (k % 16) >>> ((3 : Int32) &&& 31)) n0)) ((((f_cell L xs (k % 16) >>> ((3 : Int32) &&& 31)) >>> ((3 : Int32) &&& 31)) &&& 2147483647) - (((f_cell L xs (k % 16) >>> ((3 : Int32) &&& 31)) >>> ((3 : Int32) &&& 31)) &&& 2147483647) / v_ma (bl (f_cell L xs (k % 16) >>> ((3 : Int32) &&& 31)) n0) * v_ma (bl (f_cell L xs (k % 16) >>> ((3 : Int32) &&& 31)) n0)) false) P9 v_ni v_wa v_un v_ns (v_np + 1) v_nw v_ng v_ma v_st v_ou v_ru (updN v_so v_np (bl (f_cell L xs (k % 16) >>> ((3 : Int32) &&& 31)) n0)) (upd v_mt v_np ((((f_cell L xs (k % 16) >>> ((3 : Int32) &&& 31)) >>> ((3 : Int32) &&& 31)) &&& 2147483647) - (((f_cell L xs (k % 16) >>> ((3 : Int32) &&& 31)) >>> ((3 : Int32) &&& 31)) &&& 2147483647) / v_ma (bl (f_cell L xs (k % 16) >>> ((3 : Int32) &&& 31)) n0) * v_ma (bl (f_cell L xs (k % 16) >>> ((3 : Int32) &&& 31)) n0))) (upd v_vo v_np 0) (upd v_gi v_np 0) (upd v_ca v_np 0) v_tr v_sw v_ss v_sg a2 (by omega) (by omega) h12 hst0 hns0 hnw0 hwa0 hng0 h0s (cells + 10) (slots + 60) (by omega) (by omega) _ _ _ hw (lv_sub hl [1, 2, 3, 4, 5, 0] rfl)
    · obtain ⟨a0, -, a2⟩ := a_sailor h hs9 hf ((f_cell L xs (k % 16) >>> ((3 : Int32) &&& 31)) >>> ((3 : Int32) &&& 31)) (v := true) (u := 1) rfl
      refine bb_119t l hflags E hC hZ hX hbl hbA hL x A T B S U G q P  v_ni v_wa v_un v_ns v_np v_nw v_ng v_ma v_st v_ou v_ru v_so v_mt v_vo v_gi v_ca v_tr v_sw v_ss v_sg n0 n1 k hns hnp hnw hng hso hsw (by omega) (by omega) (by omega) hs9 (a_mast h hs9 ((f_cell L xs (k % 16) >>> ((3 : Int32) &&& 31)) >>> ((3 : Int32) &&& 31))).1 hbb a0 (by rw [g2]) cells slots (by omega) (by omega) (fun P9 H locs ls hw hl => ?_) hw hl
      refine lv_iinc (v := nI (k + 1)) (lv' := [(5, .int (nI (k + 1))), (0, .ref x), (1, .ref b), (2, .ref q), (3, .int (nI n0)), (4, .int (nI n1))]) hx hb dL_build_238 hl (k := 5) rfl (nI_add k 1) (by decide) rfl (fun ls hl => ?_)
      refine lv_goto (tgt := 112) hx hb dL_build_241 (by decide) ?_
      exact ih (k + 1) S (f_esail G (nI (bl (f_cell L xs (k % 16) >>> ((3 : Int32) &&& 31)) n0)) ((((f_cell L xs (k % 16) >>> ((3 : Int32) &&& 31)) >>> ((3 : Int32) &&& 31)) &&& 2147483647) - (((f_cell L xs (k % 16) >>> ((3 : Int32) &&& 31)) >>> ((3 : Int32) &&& 31)) &&& 2147483647) / v_ma (bl (f_cell L xs (k % 16) >>> ((3 : Int32) &&& 31)) n0) * v_ma (bl (f_cell L xs (k % 16) >>> ((3 : Int32) &&& 31)) n0)) true) P9 v_ni v_wa v_un v_ns (v_np + 1) v_nw v_ng v_ma v_st v_ou v_ru (updN v_so v_np (bl (f_cell L xs (k % 16) >>> ((3 : Int32) &&& 31)) n0)) (upd v_mt v_np ((((f_cell L xs (k % 16) >>> ((3 : Int32) &&& 31)) >>> ((3 : Int32) &&& 31)) &&& 2147483647) - (((f_cell L xs (k % 16) >>> ((3 : Int32) &&& 31)) >>> ((3 : Int32) &&& 31)) &&& 2147483647) / v_ma (bl (f_cell L xs (k % 16) >>> ((3 : Int32) &&& 31)) n0) * v_ma (bl (f_cell L xs (k % 16) >>> ((3 : Int32) &&& 31)) n0))) (upd v_vo v_np 1) (upd v_gi v_np 0) (upd v_ca v_np 0) v_tr v_sw v_ss v_sg a2 (by omega) (by omega) h12 hst0 hns0 hnw0 hwa0 hng0 h0s (cells + 10) (slots + 60) (by omega) (by omega) _ _ _ hw (lv_sub hl [1, 2, 3, 4, 5, 0] rfl)

set_option maxHeartbeats 4000000 in
set_option maxRecDepth 100000 in
theorem b_23 (l : Launch) (hflags : l.stackTraces = false) (E : Ev) {p9 : Program} {e : Env} {s9 : State} {m : MethodId} {args : Array Value} {below : List Frame} {meth : Method} {c : Code} {A9 : Nat → Prop} {Q : State → Prop} {b L : Nat} {xs : Nat → Int32} (hC : Cx E yL_build.cls cL_build 10 (some (.object "SailorCandlesLaw$Sim")) wsL_build p9 s9 m args meth c A9) (hZ : Zx A9 s9 s9.heap) (hX : va_X b L xs s9 s9.heap) (hbl : b < s9.heap.size) (hbA : ¬ A9 b) (hL : L ≤ 260) (x : Nat) (A T B : Nat → Nat) (U : CS) (q n0 Bd : Nat) (hBd : Bd ≤ 500) (fin : ∀ (u : AO) (H : Heap) (locs : List Loc) (ls : Array Slot), okA 1000 u → Wd E A9 s9.heap (wAct E x q A T B U u) H locs → W p9 l e rm_L_build s9 m args below meth c H locs 2000 20000 Q (F0 m 339 ls [.ref q])) : ∀ (n k : Nat) (S : CS) (G : HS) (P : AP) (v_ni v_wa v_un : Int32) (v_ns v_np v_nw v_ng : Nat) (v_ma v_st v_ou v_ru : Fn) (v_so : FnN) (v_mt v_vo v_gi v_ca v_tr : Fn) (v_sw v_ss : FnN) (v_sg : Fn), (RF Bd G S v_ni v_wa v_un v_ns v_np v_nw v_ng v_ma v_st v_ou v_ru v_so v_mt v_vo v_gi v_ca v_tr v_sw v_ss v_sg) → v_ns = k → k + n = n0 → 0 < n0 → n0 ≤ 4 → (∀ j, v_st j = 0) → v_np = 0 → v_nw = 0 → v_wa = 0 → v_ng = 0 → ∀ (cells slots : Nat), cells + 10 * n + 200 ≤ 2000 → slots + 60 * n + 1200 ≤ 20000 → ∀ (H : Heap) (locs : List Loc) (ls : Array Slot), Wd E A9 s9.heap (wX x A T B ++ wC E A (B 0) S ++ wC E T (B 0) U ++ wG E B G ++ wS E q P (mkS v_ni v_wa v_un v_ns v_np v_nw v_ng v_ma v_st v_ou v_ru v_so v_mt v_vo v_gi v_ca v_tr v_sw v_ss v_sg)) H locs → lv_has ls 10 [(0, .ref x), (1, .ref b), (2, .ref q), (3, .int (nI n0)), (4, .int (nI k))] → W p9 l e rm_L_build s9 m args below meth c H locs cells slots Q (F0 m 23 ls []) := by
  obtain ⟨hx, hb, hml, hr, hown, hts, hlocks, hK, hG, hA⟩ := id hC
  intro n
  induction n with
  | zero =>
    intro k S G P v_ni v_wa v_un v_ns v_np v_nw v_ng v_ma v_st v_ou v_ru v_so v_mt v_vo v_gi v_ca v_tr v_sw v_ss v_sg h hkp hk h0n h4 hst0 hnp0 hnw0 hwa0 hng0 cells slots hc hs H locs ls hw hl
    have hkn : k = n0 := by omega
    refine lv_iload hx hb dL_build_23 (lv_at hl 4 rfl) ?_
    refine lv_iload_n hx hb dL_build_25 rfl (lv_at hl 3 rfl) ?_
    refine lv_icmp_ge (tgt := 95) hx hb dL_build_26 (by decide) (fun _ => ?_) (fun q8 => absurd (by rw [hkn]; exact Int32.le_refl _) q8)
    refine lv_aload_n hx hb dL_build_95 rfl (lv_at hl 1 rfl) ?_
    refine lv_iconst (v := 0) hx hb dL_build_96 (by decide) ?_
    refine kr_i (ws' := wX x A T B ++ wC E A (B 0) S ++ wC E T (B 0) U ++ wG E B G ++ wS E q P (mkS v_ni v_wa v_un v_ns v_np v_nw v_ng v_ma v_st v_ou v_ru v_so v_mt v_vo v_gi v_ca v_tr v_sw v_ss v_sg)) (va_runS (As := [.ref b, .int (nI 0)]) (rest := []) ⟨hx, hb, hml, hown, hts⟩ (c_L_cell l E b L xs 0 (show 0 < 1000 by omega) hL _) (va_cwS 2 hts gL_build_L_cell rfl rfl rfl hd_L_cell ⟨Nat.le_of_ble_eq_true rfl, Nat.le_of_ble_eq_true rfl⟩) (rpZ (AV := [.ref b, .int (nI 0)]) hw hK hG hX hbl hbA rp_nil) rfl rfl hl.1 rfl (lv_room (Nat.le_of_ble_eq_true rfl)) dL_build_97 ⟨(show cells + 0 ≤ 2000 by omega), (show slots + 0 ≤ 20000 by omega)⟩) hw hA rp_nil (fun H locs hw => ?_)
    refine W.widen (k := cells) (n := slots) (show cells + 0 ≤ cells by omega) (show slots + 0 ≤ slots by omega) ?_
    refine lv_iconst (v := 4) hx hb dL_build_100 (by decide) ?_
    refine lv_ishr hx hb dL_build_101 ?_
    refine lv_bipush (v := 13) hx hb dL_build_102 (by decide) ?_
    refine kr_i (ws' := wX x A T B ++ wC E A (B 0) S ++ wC E T (B 0) U ++ wG E B G ++ wS E q P (mkS v_ni v_wa v_un v_ns v_np v_nw v_ng v_ma v_st v_ou v_ru v_so v_mt v_vo v_gi v_ca v_tr v_sw v_ss v_sg)) (va_runS (As := [.int (f_cell L xs 0 >>> ((4 : Int32) &&& 31)), .int 13]) (rest := []) ⟨hx, hb, hml, hown, hts⟩ (c_L_below l E (f_cell L xs 0 >>> ((4 : Int32) &&& 31)) 13 (by omega) (by omega) _) (va_cwS 2 hts gL_build_L_below rfl rfl rfl hd_L_below ⟨Nat.le_of_ble_eq_true rfl, Nat.le_of_ble_eq_true rfl⟩) (rpS (AV := [.int (f_cell L xs 0 >>> ((4 : Int32) &&& 31)), .int 13]) hw hK hG rp_78) rfl rfl hl.1 rfl (lv_room (Nat.le_of_ble_eq_true rfl)) dL_build_104 ⟨(show cells + 0 ≤ 2000 by omega), (show slots + 0 ≤ 20000 by omega)⟩) hw hA rp_78 (fun H locs hw => ?_)
    refine W.widen (k := cells) (n := slots) (show cells + 0 ≤ cells by omega) (show slots + 0 ≤ slots by omega) ?_
    refine lv_istore (lv' := [(4, .int (nI (bl (f_cell L xs 0 >>> ((4 : Int32) &&& 31)) 13))), (0, .ref x), (1, .ref b), (2, .ref q), (3, .int (nI n0))]) hx hb dL_build_107 hl (by decide) rfl (fun ls hl => ?_)
    refine lv_iconst (v := 0) hx hb dL_build_109 (by decide) ?_
    refine lv_istore (lv' := [(5, .int 0), (4, .int (nI (bl (f_cell L xs 0 >>> ((4 : Int32) &&& 31)) 13))), (0, .ref x), (1, .ref b), (2, .ref q), (3, .int (nI n0))]) hx hb dL_build_110 hl (by decide) rfl (fun ls hl => ?_)
    refine b_112 l hflags E hC hZ hX hbl hbA hL x A T B U q n0 Bd hBd fin (bl (f_cell L xs 0 >>> ((4 : Int32) &&& 31)) 13) (bl (f_cell L xs 0 >>> ((4 : Int32) &&& 31)) 13) 0 S G P v_ni v_wa v_un v_ns v_np v_nw v_ng v_ma v_st v_ou v_ru v_so v_mt v_vo v_gi v_ca v_tr v_sw v_ss v_sg h hnp0 (by omega) (by have : (bl (f_cell L xs 0 >>> ((4 : Int32) &&& 31)) 13) < 13 := bl_lt (by omega); omega) hst0 (by omega) hnw0 hwa0 hng0 (by omega) cells slots (by have : (bl (f_cell L xs 0 >>> ((4 : Int32) &&& 31)) 13) < 13 := bl_lt (by omega); omega) (by have : (bl (f_cell L xs 0 >>> ((4 : Int32) &&& 31)) 13) < 13 := bl_lt (by omega); omega) _ _ _ hw ?_
    rw [nI_0]
    exact lv_sub hl [2, 3, 4, 5, 1, 0] rfl
  | succ n ih =>
    intro k S G P v_ni v_wa v_un v_ns v_np v_nw v_ng v_ma v_st v_ou v_ru v_so v_mt v_vo v_gi v_ca v_tr v_sw v_ss v_sg h hkp hk h0n h4 hst0 hnp0 hnw0 hwa0 hng0 cells slots hc hs H locs ls hw hl
    refine lv_iload hx hb dL_build_23 (lv_at hl 4 rfl) ?_
    refine lv_iload_n hx hb dL_build_25 rfl (lv_at hl 3 rfl) ?_
    refine lv_icmp_ge (tgt := 95) hx hb dL_build_26 (by decide) (fun q8 => absurd q8 (nI_ge (a := k) (b := n0) (by omega) (by omega))) (fun _ => ?_)
    obtain ⟨hns, hnp, hnw, hng, hso, hsw⟩ : v_ns ≤ 5 ∧ v_np ≤ 16 ∧ v_nw ≤ 4 ∧ v_ng ≤ 20 ∧ (∀ p, p < v_np → v_so p < v_ns) ∧ ∀ j, j < v_ng → v_sw j < v_nw := RR_MOK (RF_to h).1
    have g1 : g_sc G = k := h.1.1.1.1.trans hkp
    have b3 : bl (f_cell L xs (1 + k)) 3 < 3 := bl_lt (by omega)
    obtain ⟨a0, -, a2⟩ := a_ship h (fun q => by have := nI_inj5 (a := v_ns) (b := 5) (by omega) (by omega) q; omega) (k := (1 + bl (f_cell L xs (1 + k)) 3)) (by omega) (by omega)
    refine bb_29 l hflags E hC hZ hX hbl hbA hL x A T B S U G q P  v_ni v_wa v_un v_ns v_np v_nw v_ng v_ma v_st v_ou v_ru v_so v_mt v_vo v_gi v_ca v_tr v_sw v_ss v_sg n0 0 k hns hnp hnw hng hso hsw (by omega) a0 (by rw [g1]) cells slots (by omega) (by omega) (fun P9 H locs ls hw hl => ?_) hw hl
    refine lv_iinc (v := nI (k + 1)) (lv' := [(4, .int (nI (k + 1))), (0, .ref x), (1, .ref b), (2, .ref q), (3, .int (nI n0))]) hx hb dL_build_89 hl (k := 4) rfl (nI_add k 1) (by decide) rfl (fun ls hl => ?_)
    refine lv_goto (tgt := 23) hx hb dL_build_92 (by decide) ?_
    refine ih (k + 1) S (f_eship G (nI (1 + bl (f_cell L xs (1 + k)) 3))) P9 v_ni v_wa v_un (v_ns + 1) v_np v_nw v_ng (upd v_ma v_ns (nI (1 + bl (f_cell L xs (1 + k)) 3))) (upd v_st v_ns 0) (upd v_ou v_ns 0) (upd v_ru v_ns 0) v_so v_mt v_vo v_gi v_ca v_tr v_sw v_ss v_sg a2 (by omega) (by omega) h0n h4 (fun j => ?_) hnp0 hnw0 hwa0 hng0 (cells + 10) (slots + 60) (by omega) (by omega) _ _ _ hw (lv_sub hl [1, 2, 3, 4, 0] rfl)
    by_cases e : j = v_ns
    · subst e; rw [pk_us]
    · rw [pk_un e]; exact hst0 j
set_option maxHeartbeats 4000000 in
set_option maxRecDepth 100000 in
theorem c_L_build (l : Launch) (hflags : l.stackTraces = false) (E : Ev) (b L : Nat) (xs : Nat → Int32) (hL : L ≤ 260) (x : Nat) (A T B : Nat → Nat) (U : CS) : MBZ l E yL_build wsL_build rm_L_build [.ref x, .ref b] b L xs (wX x A T B ++ wC E A (B 0) S0 ++ wC E T (B 0) U ++ wG E B G0) (okA 1000) (fun u q => wAct E x q A T B U u) := by
  refine k_bBZ (cc := cL_build) (maxL := 10) (ret := some (.object "SailorCandlesLaw$Sim")) (by decide) rfl (Nat.le_of_ble_eq_true rfl) ?_
  intro p9 e s9 m args below meth c A9 ls hC hZ hX hbl hbA hl hw
  obtain ⟨hx, hb, hml, hr, hown, hts, hlocks, hK, hG, hA⟩ := id hC
  have hl : lv_has ls 10 [(0, .ref x), (1, .ref b)] := hl
  have hinX3 : ∀ w ∈ wsX30, w ∈ wsL_build := fun w h => List.mem_cons_of_mem _ (List.mem_append_left _ (List.mem_append_left _ (List.mem_append_left _ (List.mem_append_left _ (List.mem_append_left _ (List.mem_append_left _ (List.mem_append_right _ h)))))))
  have hini := hts (.initialized RX3) (List.mem_of_getElem? (i := 3) rfl)
  refine k_new (ci := 3) (fs := [.int 0, .int 0, .int 0, .null, .null, .null, .null]) (C := RX3) (T := TX3) (N := 7) hx hb hown hK hw hA hts hinX3 tyX3 tyX3_ok (hts (.classLink RL 10 RX3) (List.mem_of_getElem? (i := 1) rfl)) (hts (.instantiable RX3 7) (List.mem_of_getElem? (i := 2) rfl)) hini rfl (fun j hj => by rcases (show j = 0 ∨ j = 1 ∨ j = 2 ∨ j = 3 ∨ j = 4 ∨ j = 5 ∨ j = 6 by omega) with rfl | rfl | rfl | rfl | rfl | rfl | rfl <;> rfl) (Nat.le_of_ble_eq_true rfl) (Nat.le_of_ble_eq_true rfl) dL_build_0 (fun q H hw => ?_)
  have hw : Wd E A9 s9.heap (wX x A T B ++ wC E A (B 0) S0 ++ wC E T (B 0) U ++ wG E B G0 ++ [(q, .inr (3, [.int 0, .int 0, .int 0, .null, .null, .null, .null]))]) H _ := hw
  refine lv_dup hx hb dL_build_3 rfl ?_
  have hn4 : Rn (wX x A T B ++ wC E A (B 0) S0 ++ wC E T (B 0) U ++ wG E B G0 ++ [(q, .inr (3, [.int 0, .int 0, .int 0, .null, .null, .null, .null]))]) ([(q, .inr (3, [.int 0, .int 0, .int 0, .null, .null, .null, .null]))]) (wX x A T B ++ wC E A (B 0) S0 ++ wC E T (B 0) U ++ wG E B G0) := perm9 (fun a => by simp only [cnt9_app, cnt9_cons, cnt9_nil] <;> omega)
  refine kr_new (va_runIN (As := []) (rest := [.ref q]) ⟨hx, hb, hml, hown, hts⟩ (c_X3_init l E q _) ⟨va_cnB 0 hts ggL_build_X3_init rfl rfl rfl (hG.nw 23 (w := .methodLinkNest RL 99 yX3_init "SailorCandlesLaw") rfl) hini hd_X3_init ⟨Nat.le_of_ble_eq_true rfl, Nat.le_of_ble_eq_true rfl⟩, rfl, hts (.instanceMethod yX3_init) (List.mem_of_getElem? (i := 9) rfl)⟩ (rpS (AV := [.ref q]) hw hK hG hn4.rp) rfl rfl hl.1 rfl (lv_room (Nat.le_of_ble_eq_true rfl)) dL_build_4 ⟨Nat.le_of_ble_eq_true rfl, Nat.le_of_ble_eq_true rfl⟩) hw hA hn4 (fun P H locs _ hw4 => ?_)
  have hw : Wd E A9 s9.heap (wX x A T B ++ wC E A (B 0) S0 ++ wC E T (B 0) U ++ wG E B G0 ++ wS E q P M0S) H _ := Wd.perm hw4 (perm9 (fun a => by simp only [cnt9_app, cnt9_cons, cnt9_nil] <;> omega))
  refine lv_astore_n (lv' := [(2, .ref q), (0, .ref x), (1, .ref b)]) hx hb dL_build_7 rfl hl (by decide) rfl (fun ls hl => ?_)
  refine lv_iconst (v := 1) hx hb dL_build_8 (by decide) ?_
  refine lv_aload_n hx hb dL_build_9 rfl (lv_at hl 2 rfl) ?_
  refine lv_iconst (v := 0) hx hb dL_build_10 (by decide) ?_
  refine kr_i (ws' := wX x A T B ++ wC E A (B 0) S0 ++ wC E T (B 0) U ++ wG E B G0 ++ wS E q P M0S) (va_runS (As := [.ref b, .int (nI 0)]) (rest := [.int 1]) ⟨hx, hb, hml, hown, hts⟩ (c_L_cell l E b L xs 0 (show 0 < 1000 by omega) hL _) (va_cwS 2 hts gL_build_L_cell rfl rfl rfl hd_L_cell ⟨Nat.le_of_ble_eq_true rfl, Nat.le_of_ble_eq_true rfl⟩) (rpZ (AV := [.ref b, .int (nI 0)]) hw hK hG hX hbl hbA rp_nil) rfl rfl hl.1 rfl (lv_room (Nat.le_of_ble_eq_true rfl)) dL_build_11 ⟨(show 5 ≤ 2000 by omega), (show 7 ≤ 20000 by omega)⟩) hw hA rp_nil (fun H locs hw => ?_)
  refine lv_iconst (v := 4) hx hb dL_build_14 (by decide) ?_
  refine kr_i (ws' := wX x A T B ++ wC E A (B 0) S0 ++ wC E T (B 0) U ++ wG E B G0 ++ wS E q P M0S) (va_runS (As := [.int (f_cell L xs 0), .int 4]) (rest := [.int 1]) ⟨hx, hb, hml, hown, hts⟩ (c_L_below l E (f_cell L xs 0) 4 (by omega) (by omega) _) (va_cwS 2 hts gL_build_L_below rfl rfl rfl hd_L_below ⟨Nat.le_of_ble_eq_true rfl, Nat.le_of_ble_eq_true rfl⟩) (rpS (AV := [.int (f_cell L xs 0), .int 4]) hw hK hG rp_78) rfl rfl hl.1 rfl (lv_room (Nat.le_of_ble_eq_true rfl)) dL_build_15 ⟨(show 5 ≤ 2000 by omega), (show 7 ≤ 20000 by omega)⟩) hw hA rp_78 (fun H locs hw => ?_)
  refine k_iaddN (a := 1) (b := bl (f_cell L xs 0) 4) hx hb dL_build_18 ?_
  refine lv_istore_n (lv' := [(3, .int (nI (1 + bl (f_cell L xs 0) 4))), (2, .ref q), (0, .ref x), (1, .ref b)]) hx hb dL_build_19 rfl hl (by decide) rfl (fun ls hl => ?_)
  refine lv_iconst (v := 0) hx hb dL_build_20 (by decide) ?_
  refine lv_istore (lv' := [(4, .int 0), (3, .int (nI (1 + bl (f_cell L xs 0) 4))), (2, .ref q), (0, .ref x), (1, .ref b)]) hx hb dL_build_21 hl (by decide) rfl (fun ls hl => ?_)
  have b4 : bl (f_cell L xs 0) 4 < 4 := bl_lt (by omega)
  refine W.widen (k := 100) (n := 100) (Nat.le_of_ble_eq_true rfl) (Nat.le_of_ble_eq_true rfl) ?_
  have fin : ∀ (u : AO) (H : Heap) (locs : List Loc) (ls : Array Slot), okA 1000 u → Wd E A9 s9.heap (wAct E x q A T B U u) H locs → W p9 l e rm_L_build s9 m args below meth c H locs 2000 20000 (EndBZ E A9 (okA 1000) (fun u q => wAct E x q A T B U u) below args s9 2000 20000) (F0 m 339 ls [.ref q]) := fun u H locs ls hu hw => k_retBZ (W2 := fun u q => wAct E x q A T B U u) u hx hb hr (Or.inl ⟨_, rfl⟩) hlocks hK hw dL_build_339 hu
  refine b_23 l hflags E hC hZ hX hbl hbA hL x A T B U q (1 + bl (f_cell L xs 0) 4) 0 (by omega) fin (1 + bl (f_cell L xs 0) 4) 0 S0 G0 P 0 0 0 0 0 0 0 (fun _ => 0) (fun _ => 0) (fun _ => 0) (fun _ => 0) (fun _ => 0) (fun _ => 0) (fun _ => 0) (fun _ => 0) (fun _ => 0) (fun _ => 0) (fun _ => 0) (fun _ => 0) (fun _ => 0) RF_0 rfl (by omega) (by omega) (by omega) (fun _ => rfl) rfl rfl rfl rfl 100 100 (by omega) (by omega) _ _ _ hw ?_
  rw [nI_0]
  exact lv_sub hl [3, 4, 2, 1, 0] rfl
