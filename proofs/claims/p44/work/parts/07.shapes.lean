/-! ===== calls that keep the cells' addresses: what of the world a callee has, and the world behind it ===== -/
theorem vD_nodup {A : Nat → Prop} {ws : va_W} (h : va_D A ws) : (ws.map Prod.fst).Nodup := by
  refine List.pairwise_iff_getElem.mpr (fun i j hi hj hij => ?_)
  intro e
  have hi' : i < ws.length := by simpa using hi
  have hj' : j < ws.length := by simpa using hj
  have := h.1 i j ws[i] ws[j] (List.getElem?_eq_getElem hi') (List.getElem?_eq_getElem hj') (by simpa using e)
  omega
theorem vD_of {A : Nat → Prop} {ws : va_W} (h : (ws.map Prod.fst).Nodup) (hA : ∀ q ∈ ws, A q.1) : va_D A ws := by
  refine ⟨fun i j p q hi hj e => ?_, fun k q hk => hA q (List.mem_of_getElem? hk)⟩
  obtain ⟨hi', rfl⟩ := List.getElem?_eq_some_iff.mp hi
  obtain ⟨hj', rfl⟩ := List.getElem?_eq_some_iff.mp hj
  have h2 := List.pairwise_iff_getElem.mp h
  rcases Nat.lt_trichotomy i j with a | a | a
  · exact absurd (by rw [List.getElem_map, List.getElem_map]; exact e) (h2 i j (by simpa using hi') (by simpa using hj') a)
  · exact a
  · exact absurd (by rw [List.getElem_map, List.getElem_map]; exact e.symm) (h2 j i (by simpa using hj') (by simpa using hi') a)
theorem vP_mem {D : va_G} {cl : List vw_C} {ws : va_W} {H : Heap} (h : va_P D cl ws H) {q : Nat × va_E} (hq : q ∈ ws) : va_at D cl q H := by
  obtain ⟨k, hk⟩ := List.getElem?_of_mem hq
  exact h k q hk
theorem vP_of {D : va_G} {cl : List vw_C} {ws : va_W} {H : Heap} (h : ∀ q ∈ ws, va_at D cl q H) : va_P D cl ws H := fun k q hk => h q (List.mem_of_getElem? hk)
def Rp (ws wc w1 ws' : va_W) : Prop := ∃ wr : va_W, ws.Perm (wc ++ wr) ∧ ws'.Perm (w1 ++ wr) ∧ w1.map Prod.fst = wc.map Prod.fst
theorem Rp.mem {ws wc w1 ws' : va_W} (h : Rp ws wc w1 ws') {q : Nat × va_E} (hq : q ∈ wc) : q ∈ ws := by
  obtain ⟨wr, h1, -, -⟩ := h
  exact h1.mem_iff.mpr (List.mem_append_left _ hq)
theorem Rp.dd {ws wc w1 ws' : va_W} (h : Rp ws wc w1 ws') {A : Nat → Prop} (hD : va_D A ws) : va_D A wc := by
  obtain ⟨wr, h1, -, -⟩ := id h
  have h2 := (h1.map Prod.fst).nodup_iff.mp (vD_nodup hD)
  rw [List.map_append] at h2
  refine vD_of (List.nodup_append.mp h2).1 (fun q hq => ?_)
  obtain ⟨k, hk⟩ := List.getElem?_of_mem (h.mem hq)
  exact hD.2 k q hk
theorem Rp.free {ws wc w1 ws' : va_W} (h : Rp ws wc w1 ws') {E : Ev} {A : Nat → Prop} {H0 H : Heap} {locs : List Loc} (hw : Wd E A H0 ws H locs) (hA : ∀ q, H0.size ≤ q → A q) : ∀ q, va_A wc H.size q → A q := by
  intro q hq
  rcases hq with ⟨k, e, hk⟩ | hq
  · obtain ⟨k2, hk2⟩ := List.getElem?_of_mem (h.mem (List.mem_of_getElem? hk))
    exact hw.2.1.2 k2 _ hk2
  · exact hA q (Nat.le_trans hw.2.2.1 hq)
theorem Rp.behind {ws wc w1 ws' : va_W} (h : Rp ws wc w1 ws') {E : Ev} {A : Nat → Prop} {H0 H H1 : Heap} {locs locs1 : List Loc} {t : State} (hw : Wd E A H0 ws H locs)
    (ht : t.heap = H1) (hB : BW E (va_A wc H.size) w1 t) (hk : ∀ q : Nat, q < H.size → ¬ va_A wc H.size q → H1[q]? = H[q]?) (hS : va_S A H0 H1 locs1) : Wd E A H0 ws' H1 locs1 := by
  obtain ⟨wr, h1, h2, h3⟩ := id h
  have hP1 := hB.1
  rw [ht] at hP1
  have nd := vD_nodup hw.2.1
  have nd2 := (h1.map Prod.fst).nodup_iff.mp nd
  rw [List.map_append] at nd2
  refine ⟨vP_of (fun q hq => ?_), vD_of ?_ (fun q hq => ?_), hS⟩
  · rcases List.mem_append.mp (h2.mem_iff.mp hq) with a | a
    · exact vP_mem hP1 a
    · have hws : q ∈ ws := h1.mem_iff.mpr (List.mem_append_right _ a)
      have hat := vP_mem hw.1 hws
      refine hat.kept (hk q.1 hat.lt (fun z => ?_))
      rcases z with ⟨k, e, z⟩ | z
      · have m1 : q.1 ∈ wc.map Prod.fst := List.mem_map.mpr ⟨(q.1, e), List.mem_of_getElem? z, rfl⟩
        have m2 : q.1 ∈ wr.map Prod.fst := List.mem_map.mpr ⟨q, a, rfl⟩
        exact (List.nodup_append.mp nd2).2.2 _ m1 _ m2 rfl
      · exact absurd hat.lt (by omega)
  · refine (h2.map Prod.fst).nodup_iff.mpr ?_
    rw [List.map_append, h3]
    exact nd2
  · have m0 : q.1 ∈ ws'.map Prod.fst := List.mem_map.mpr ⟨q, hq, rfl⟩
    have m1 : q.1 ∈ (w1 ++ wr).map Prod.fst := (h2.map Prod.fst).mem_iff.mp m0
    rw [List.map_append, h3, ← List.map_append] at m1
    have m2 : q.1 ∈ ws.map Prod.fst := (h1.map Prod.fst).mem_iff.mpr m1
    obtain ⟨q0, hq0, e0⟩ := List.mem_map.mp m2
    obtain ⟨k, hk2⟩ := List.getElem?_of_mem hq0
    rw [← e0]
    exact hw.2.1.2 k q0 hk2
noncomputable def dq9 : DecidableEq (Nat × va_E) := fun a b => Classical.propDecidable (a = b)
noncomputable def cnt9 (a : Nat × va_E) (l : va_W) : Nat := @List.count _ (@instBEqOfDecidableEq _ dq9) a l
noncomputable def d9 (a b : Nat × va_E) : Nat := @ite Nat (b = a) (dq9 b a) 1 0
theorem cnt9_app (a : Nat × va_E) (l m : va_W) : cnt9 a (l ++ m) = cnt9 a l + cnt9 a m := by
  letI : DecidableEq (Nat × va_E) := dq9
  exact List.count_append
theorem cnt9_cons (a b : Nat × va_E) (l : va_W) : cnt9 a (b :: l) = cnt9 a l + d9 a b := by
  letI : DecidableEq (Nat × va_E) := dq9
  have h1 : List.count a (b :: l) = List.count a l + if b == a then 1 else 0 := List.count_cons
  have h2 : (if b == a then 1 else 0) = d9 a b := by
    unfold d9
    by_cases h : b = a
    · rw [if_pos (beq_iff_eq.mpr h), if_pos h]
    · rw [if_neg (fun q => h (beq_iff_eq.mp q)), if_neg h]
  rw [h2] at h1
  exact h1
theorem cnt9_nil (a : Nat × va_E) : cnt9 a [] = 0 := rfl
theorem perm9 {l m : va_W} (h : ∀ a, cnt9 a l = cnt9 a m) : l.Perm m := by
  letI : DecidableEq (Nat × va_E) := dq9
  exact List.perm_iff_count.mpr (fun a => h a)
theorem Rp.same {ws wc wr : va_W} (h : ws.Perm (wc ++ wr)) : Rp ws wc wc ws := ⟨wr, h, h, rfl⟩
section RPS
variable {E : Ev} {A : Nat → Prop} {s : State} {ws wc w1 ws' : va_W} {H : Heap} {locs : List Loc} {AV : List Value}
theorem rpS (hw : Wd E A s.heap ws H locs) (hK : va_K E.1 vwCl (tysE E) s) (hG : Gx s) (h : Rp ws wc w1 ws') : PreS s H (va_Pc AV (PW E wc H.size)) AV := by
  refine ⟨PW.blind, fun U hU hW => ⟨rfl, by rw [hU], ?_, va_K.moved hW.alike hK, (h.dd hw.2.1).weaken (fun _ _ _ _ => trivial), Gx.warm hW hG⟩⟩
  rw [hU]
  exact vP_of (fun q hq => vP_mem hw.1 (h.mem hq))
theorem rpX (hw : Wd E A s.heap ws H locs) (hK : va_K E.1 vwCl (tysE E) s) (hG : Gx s) (hZ : Zx A s s.heap) (hA : ∀ q, s.heap.size ≤ q → A q) (h : Rp ws wc w1 ws') : PreS s H (va_Pc AV (PX E wc H.size)) AV := by
  have h1 := rpS (AV := AV) hw hK hG h
  have hF := h.free hw hA
  refine ⟨PX.blind, fun U hU hW => ⟨rfl, (h1.2 U hU hW).2, ?_, ?_⟩⟩
  · rw [hU]
    exact vx_Zq.moved hW.alike ((hZ.1.kept hw.2.2.2.1).narrow hF)
  · rw [hU]
    exact vx_Zq.moved hW.alike ((hZ.2.kept hw.2.2.2.1).narrow hF)
end RPS
section KR
variable {p : Program} {l : Launch} {e : Env} {R : Room} {s : State} {m : MethodId} {args : Array Value} {below : List Frame} {meth : Method} {c : Code} {H : Heap} {locs : List Loc} {cells slots : Nat} {Q : State → Prop}
variable {E : Ev} {A : Nat → Prop} {H0 : Heap} {ws wc w1 ws' : va_W} {wU wU' : CS → va_W} {mc ms : Nat} {pc : Nat} {ls : Array Slot} {st0 rest : List Value} {a : Array Value}
theorem kr_i {F : Int32} (hr : va_Run p l e R s m args below meth c H locs cells slots mc ms (F0 m pc ls st0) rest (va_Qi (fun r (_ : Unit) => r = F) (fun _ t => BW E (va_A wc H.size) w1 t) (va_A wc H.size) a) (va_A wc H.size)) (hw : Wd E A H0 ws H locs) (hA : ∀ q, H0.size ≤ q → A q) (h : Rp ws wc w1 ws')
    (kk : ∀ (H1 : Heap) (locs1 : List Loc), Wd E A H0 ws' H1 locs1 → W p l e R s m args below meth c H1 locs1 (cells + mc) (slots + ms) Q (F0 m (pc + 3) ls (.int F :: rest))) : W p l e R s m args below meth c H locs cells slots Q (F0 m pc ls st0) := by
  have hF := h.free hw hA
  refine va_calli hr hw.2.2 (fun q _ h => hF q h) hF (fun r u t H1 locs1 ht hvm hp hB hz hk hS => ?_)
  subst hp
  exact kk H1 locs1 (h.behind hw ht hB hk hS)
theorem kr_l {F : Int64} (hr : va_Run p l e R s m args below meth c H locs cells slots mc ms (F0 m pc ls st0) rest (va_Ql (fun r (_ : Unit) => r = F) (fun _ t => BW E (va_A wc H.size) w1 t) (va_A wc H.size) a) (va_A wc H.size)) (hw : Wd E A H0 ws H locs) (hA : ∀ q, H0.size ≤ q → A q) (h : Rp ws wc w1 ws')
    (kk : ∀ (H1 : Heap) (locs1 : List Loc), Wd E A H0 ws' H1 locs1 → W p l e R s m args below meth c H1 locs1 (cells + mc) (slots + ms) Q (F0 m (pc + 3) ls (.long F :: rest))) : W p l e R s m args below meth c H locs cells slots Q (F0 m pc ls st0) := by
  have hF := h.free hw hA
  refine va_calll hr hw.2.2 (fun q _ h => hF q h) hF (fun r u t H1 locs1 ht hvm hp hB hz hk hS => ?_)
  subst hp
  exact kk H1 locs1 (h.behind hw ht hB hk hS)
theorem kr_d {F : UInt64} (hr : va_Run p l e R s m args below meth c H locs cells slots mc ms (F0 m pc ls st0) rest (va_Qd (fun r (_ : Unit) => r = F) (fun _ t => BW E (va_A wc H.size) w1 t) (va_A wc H.size) a) (va_A wc H.size)) (hw : Wd E A H0 ws H locs) (hA : ∀ q, H0.size ≤ q → A q) (h : Rp ws wc w1 ws')
    (kk : ∀ (H1 : Heap) (locs1 : List Loc), Wd E A H0 ws' H1 locs1 → W p l e R s m args below meth c H1 locs1 (cells + mc) (slots + ms) Q (F0 m (pc + 3) ls (.double F :: rest))) : W p l e R s m args below meth c H locs cells slots Q (F0 m pc ls st0) := by
  have hF := h.free hw hA
  refine va_calld hr hw.2.2 (fun q _ h => hF q h) hF (fun r u t H1 locs1 ht hvm hp hB hz hk hS => ?_)
  subst hp
  exact kk H1 locs1 (h.behind hw ht hB hk hS)
theorem kr_v  (hr : va_Run p l e R s m args below meth c H locs cells slots mc ms (F0 m pc ls st0) rest (va_Qv (fun (_ : Unit) => True) (fun _ t => BW E (va_A wc H.size) w1 t) (va_A wc H.size) a) (va_A wc H.size)) (hw : Wd E A H0 ws H locs) (hA : ∀ q, H0.size ≤ q → A q) (h : Rp ws wc w1 ws')
    (kk : ∀ (H1 : Heap) (locs1 : List Loc), Wd E A H0 ws' H1 locs1 → W p l e R s m args below meth c H1 locs1 (cells + mc) (slots + ms) Q (F0 m (pc + 3) ls (rest))) : W p l e R s m args below meth c H locs cells slots Q (F0 m pc ls st0) := by
  have hF := h.free hw hA
  refine va_callv hr hw.2.2 (fun q _ h => hF q h) hF (fun u t H1 locs1 ht hvm hp hB hz hk hS => ?_)
  exact kk H1 locs1 (h.behind hw ht hB hk hS)
theorem kr_ie {F : Int32} (hr : va_Run p l e R s m args below meth c H locs cells slots mc ms (F0 m pc ls st0) rest (va_Qi (fun r (_ : CS) => r = F) (fun U t => BW E (va_A wc H.size) (wU U) t) (va_A wc H.size) a) (va_A wc H.size)) (hw : Wd E A H0 ws H locs) (hA : ∀ q, H0.size ≤ q → A q) (h : ∀ U, Rp ws wc (wU U) (wU' U))
    (kk : ∀ (U : CS) (H1 : Heap) (locs1 : List Loc), Wd E A H0 (wU' U) H1 locs1 → W p l e R s m args below meth c H1 locs1 (cells + mc) (slots + ms) Q (F0 m (pc + 3) ls (.int F :: rest))) : W p l e R s m args below meth c H locs cells slots Q (F0 m pc ls st0) := by
  refine va_calli hr hw.2.2 (fun q _ k => (h ((fun _ => 0), (fun _ => 0), (fun _ => false), (fun _ => 0), (fun _ => 0), (fun _ => 0), 0, 0, 0)).free hw hA q k) ((h ((fun _ => 0), (fun _ => 0), (fun _ => false), (fun _ => 0), (fun _ => 0), (fun _ => 0), 0, 0, 0)).free hw hA) (fun r u t H1 locs1 ht hvm hp hB hz hk hS => ?_)
  subst hp
  exact kk u H1 locs1 ((h u).behind hw ht hB hk hS)
theorem krx_i {T : Nat} {F : Int32} (hr : vx_Run p l e R s m args below meth c H locs cells slots mc ms (F0 m pc ls st0) rest (va_Qi (fun r (_ : Unit) => T = 0 ∧ r = F) (fun _ t => BW E (va_A wc H.size) w1 t) (va_A wc H.size) a) (vx_X (fun (_ : Unit) => T ≠ 0) (fun n _ t => n = exN T ∧ BW E (va_A wc H.size) wc t) (va_A wc H.size)) (va_A wc H.size)) (hw : Wd E A H0 ws H locs) (hA : ∀ q, H0.size ≤ q → A q) (h : Rp ws wc w1 ws') (h0 : Rp ws wc wc ws)
    (kx : ∀ (H1 : Heap) (locs1 : List Loc) (ce : Cell) (q9 : Addr), T ≠ 0 → Wd E A H0 ws H1 locs1 → H1[q9]? = some ce → ce.vm = .none → s.vm.findClass (exN T) = some ce.cls → vx_W p l e R s m args below meth c H1 locs1 (cells + mc) (slots + ms) Q (F0 m pc ls rest) q9)
    (kk : ∀ (H1 : Heap) (locs1 : List Loc), T = 0 → Wd E A H0 ws' H1 locs1 → W p l e R s m args below meth c H1 locs1 (cells + mc) (slots + ms) Q (F0 m (pc + 3) ls (.int F :: rest))) : W p l e R s m args below meth c H locs cells slots Q (F0 m pc ls st0) := by
  have hF := h.free hw hA
  refine vx_calli hr hw.2.2 (fun q _ h => hF q h) hF (fun q _ h => hF q h) (fun n ce q9 u t H1 locs1 ht hvm hp hB hz hk hS h1 h2 h3 => ?_) (fun r u t H1 locs1 ht hvm hp hB hz hk hS => ?_)
  · rw [hB.1] at h3
    exact kx H1 locs1 ce q9 hp (h0.behind hw ht hB.2 hk hS) h1 h2 h3
  · obtain ⟨hp, rfl⟩ := hp
    exact kk H1 locs1 hp (h.behind hw ht hB hk hS)
theorem krx_v {T : Nat}  (hr : vx_Run p l e R s m args below meth c H locs cells slots mc ms (F0 m pc ls st0) rest (va_Qv (fun (_ : Unit) => T = 0) (fun _ t => BW E (va_A wc H.size) w1 t) (va_A wc H.size) a) (vx_X (fun (_ : Unit) => T ≠ 0) (fun n _ t => n = exN T ∧ BW E (va_A wc H.size) wc t) (va_A wc H.size)) (va_A wc H.size)) (hw : Wd E A H0 ws H locs) (hA : ∀ q, H0.size ≤ q → A q) (h : Rp ws wc w1 ws') (h0 : Rp ws wc wc ws)
    (kx : ∀ (H1 : Heap) (locs1 : List Loc) (ce : Cell) (q9 : Addr), T ≠ 0 → Wd E A H0 ws H1 locs1 → H1[q9]? = some ce → ce.vm = .none → s.vm.findClass (exN T) = some ce.cls → vx_W p l e R s m args below meth c H1 locs1 (cells + mc) (slots + ms) Q (F0 m pc ls rest) q9)
    (kk : ∀ (H1 : Heap) (locs1 : List Loc), T = 0 → Wd E A H0 ws' H1 locs1 → W p l e R s m args below meth c H1 locs1 (cells + mc) (slots + ms) Q (F0 m (pc + 3) ls (rest))) : W p l e R s m args below meth c H locs cells slots Q (F0 m pc ls st0) := by
  have hF := h.free hw hA
  refine vx_callv hr hw.2.2 (fun q _ h => hF q h) hF (fun q _ h => hF q h) (fun n ce q9 u t H1 locs1 ht hvm hp hB hz hk hS h1 h2 h3 => ?_) (fun u t H1 locs1 ht hvm hp hB hz hk hS => ?_)
  · rw [hB.1] at h3
    exact kx H1 locs1 ce q9 hp (h0.behind hw ht hB.2 hk hS) h1 h2 h3
  · exact kk H1 locs1 hp (h.behind hw ht hB hk hS)
theorem krx_ie {T : Nat} {F : Int32} (hr : vx_Run p l e R s m args below meth c H locs cells slots mc ms (F0 m pc ls st0) rest (va_Qi (fun r (_ : CS) => T = 0 ∧ r = F) (fun U t => BW E (va_A wc H.size) (wU U) t) (va_A wc H.size) a) (vx_X (fun (_ : Unit) => T ≠ 0) (fun n _ t => n = exN T ∧ BW E (va_A wc H.size) wc t) (va_A wc H.size)) (va_A wc H.size)) (hw : Wd E A H0 ws H locs) (hA : ∀ q, H0.size ≤ q → A q) (h : ∀ U, Rp ws wc (wU U) (wU' U)) (h0 : Rp ws wc wc ws)
    (kx : ∀ (H1 : Heap) (locs1 : List Loc) (ce : Cell) (q9 : Addr), T ≠ 0 → Wd E A H0 ws H1 locs1 → H1[q9]? = some ce → ce.vm = .none → s.vm.findClass (exN T) = some ce.cls → vx_W p l e R s m args below meth c H1 locs1 (cells + mc) (slots + ms) Q (F0 m pc ls rest) q9)
    (kk : ∀ (U : CS) (H1 : Heap) (locs1 : List Loc), T = 0 → Wd E A H0 (wU' U) H1 locs1 → W p l e R s m args below meth c H1 locs1 (cells + mc) (slots + ms) Q (F0 m (pc + 3) ls (.int F :: rest))) : W p l e R s m args below meth c H locs cells slots Q (F0 m pc ls st0) := by
  have hF := h0.free hw hA
  refine vx_calli hr hw.2.2 (fun q _ h => hF q h) hF (fun q _ h => hF q h) (fun n ce q9 u t H1 locs1 ht hvm hp hB hz hk hS h1 h2 h3 => ?_) (fun r u t H1 locs1 ht hvm hp hB hz hk hS => ?_)
  · rw [hB.1] at h3
    exact kx H1 locs1 ce q9 hp (h0.behind hw ht hB.2 hk hS) h1 h2 h3
  · obtain ⟨hp, rfl⟩ := hp
    exact kk u H1 locs1 hp ((h u).behind hw ht hB hk hS)
end KR
theorem rp_0 {E : Ev} {a0 : Nat → Nat} {S0 : HS} {f0 : Fn} : Rp (wG E a0 S0) ([(a0 1, aI E 5 (g_ma S0))]) ([(a0 1, aI E 5 f0)]) (wG E a0 (h_ma S0 f0)) := by
  refine ⟨[(a0 0, .inr (1, [.int (nI (g_sc S0)), .int (nI (g_pc S0)), .int (nI (g_wc S0)), .ref (a0 1), .ref (a0 2), .ref (a0 3), .ref (a0 4), .ref (a0 5)])), (a0 2, aI E 16 (g_sh S0)), (a0 3, aI E 16 (g_mt S0)), (a0 4, aZ E 16 (g_vo S0)), (a0 5, aZ E 16 (g_gi S0))], perm9 (fun a => ?_), perm9 (fun a => ?_), rfl⟩
  · simp only [cnt9_app, cnt9_cons, cnt9_nil, wG] <;> omega
  · simp only [cnt9_app, cnt9_cons, cnt9_nil, wG, g_ma, g_sh, g_mt, g_vo, g_gi, h_ma, h_sh, h_mt, h_vo, h_gi, g_sc, g_pc, g_wc] <;> omega
theorem rp_1 {E : Ev} {a0 : Nat → Nat} {S0 : HS} : Rp (wG E a0 S0) ([(a0 1, aI E 5 (g_ma S0))]) ([(a0 1, aI E 5 (g_ma S0))]) (wG E a0 S0) := by
  refine ⟨[(a0 0, .inr (1, [.int (nI (g_sc S0)), .int (nI (g_pc S0)), .int (nI (g_wc S0)), .ref (a0 1), .ref (a0 2), .ref (a0 3), .ref (a0 4), .ref (a0 5)])), (a0 2, aI E 16 (g_sh S0)), (a0 3, aI E 16 (g_mt S0)), (a0 4, aZ E 16 (g_vo S0)), (a0 5, aZ E 16 (g_gi S0))], perm9 (fun a => ?_), perm9 (fun a => ?_), rfl⟩
  · simp only [cnt9_app, cnt9_cons, cnt9_nil, wG] <;> omega
  · simp only [cnt9_app, cnt9_cons, cnt9_nil, wG, g_ma, g_sh, g_mt, g_vo, g_gi, h_ma, h_sh, h_mt, h_vo, h_gi, g_sc, g_pc, g_wc] <;> omega
theorem rp_2 {E : Ev} {a0 : Nat → Nat} {S0 : HS} {f0 : Fn} : Rp (wG E a0 S0) ([(a0 2, aI E 16 (g_sh S0))]) ([(a0 2, aI E 16 f0)]) (wG E a0 (h_sh S0 f0)) := by
  refine ⟨[(a0 0, .inr (1, [.int (nI (g_sc S0)), .int (nI (g_pc S0)), .int (nI (g_wc S0)), .ref (a0 1), .ref (a0 2), .ref (a0 3), .ref (a0 4), .ref (a0 5)])), (a0 1, aI E 5 (g_ma S0)), (a0 3, aI E 16 (g_mt S0)), (a0 4, aZ E 16 (g_vo S0)), (a0 5, aZ E 16 (g_gi S0))], perm9 (fun a => ?_), perm9 (fun a => ?_), rfl⟩
  · simp only [cnt9_app, cnt9_cons, cnt9_nil, wG] <;> omega
  · simp only [cnt9_app, cnt9_cons, cnt9_nil, wG, g_ma, g_sh, g_mt, g_vo, g_gi, h_ma, h_sh, h_mt, h_vo, h_gi, g_sc, g_pc, g_wc] <;> omega
theorem rp_3 {E : Ev} {a0 : Nat → Nat} {S0 : HS} : Rp (wG E a0 S0) ([(a0 2, aI E 16 (g_sh S0))]) ([(a0 2, aI E 16 (g_sh S0))]) (wG E a0 S0) := by
  refine ⟨[(a0 0, .inr (1, [.int (nI (g_sc S0)), .int (nI (g_pc S0)), .int (nI (g_wc S0)), .ref (a0 1), .ref (a0 2), .ref (a0 3), .ref (a0 4), .ref (a0 5)])), (a0 1, aI E 5 (g_ma S0)), (a0 3, aI E 16 (g_mt S0)), (a0 4, aZ E 16 (g_vo S0)), (a0 5, aZ E 16 (g_gi S0))], perm9 (fun a => ?_), perm9 (fun a => ?_), rfl⟩
  · simp only [cnt9_app, cnt9_cons, cnt9_nil, wG] <;> omega
  · simp only [cnt9_app, cnt9_cons, cnt9_nil, wG, g_ma, g_sh, g_mt, g_vo, g_gi, h_ma, h_sh, h_mt, h_vo, h_gi, g_sc, g_pc, g_wc] <;> omega
theorem rp_4 {E : Ev} {a0 : Nat → Nat} {S0 : HS} {f0 : Fn} : Rp (wG E a0 S0) ([(a0 3, aI E 16 (g_mt S0))]) ([(a0 3, aI E 16 f0)]) (wG E a0 (h_mt S0 f0)) := by
  refine ⟨[(a0 0, .inr (1, [.int (nI (g_sc S0)), .int (nI (g_pc S0)), .int (nI (g_wc S0)), .ref (a0 1), .ref (a0 2), .ref (a0 3), .ref (a0 4), .ref (a0 5)])), (a0 1, aI E 5 (g_ma S0)), (a0 2, aI E 16 (g_sh S0)), (a0 4, aZ E 16 (g_vo S0)), (a0 5, aZ E 16 (g_gi S0))], perm9 (fun a => ?_), perm9 (fun a => ?_), rfl⟩
  · simp only [cnt9_app, cnt9_cons, cnt9_nil, wG] <;> omega
  · simp only [cnt9_app, cnt9_cons, cnt9_nil, wG, g_ma, g_sh, g_mt, g_vo, g_gi, h_ma, h_sh, h_mt, h_vo, h_gi, g_sc, g_pc, g_wc] <;> omega
theorem rp_5 {E : Ev} {a0 : Nat → Nat} {S0 : HS} : Rp (wG E a0 S0) ([(a0 3, aI E 16 (g_mt S0))]) ([(a0 3, aI E 16 (g_mt S0))]) (wG E a0 S0) := by
  refine ⟨[(a0 0, .inr (1, [.int (nI (g_sc S0)), .int (nI (g_pc S0)), .int (nI (g_wc S0)), .ref (a0 1), .ref (a0 2), .ref (a0 3), .ref (a0 4), .ref (a0 5)])), (a0 1, aI E 5 (g_ma S0)), (a0 2, aI E 16 (g_sh S0)), (a0 4, aZ E 16 (g_vo S0)), (a0 5, aZ E 16 (g_gi S0))], perm9 (fun a => ?_), perm9 (fun a => ?_), rfl⟩
  · simp only [cnt9_app, cnt9_cons, cnt9_nil, wG] <;> omega
  · simp only [cnt9_app, cnt9_cons, cnt9_nil, wG, g_ma, g_sh, g_mt, g_vo, g_gi, h_ma, h_sh, h_mt, h_vo, h_gi, g_sc, g_pc, g_wc] <;> omega
theorem rp_6 {E : Ev} {a0 : Nat → Nat} {S0 : HS} {f0 : FnB} : Rp (wG E a0 S0) ([(a0 4, aZ E 16 (g_vo S0))]) ([(a0 4, aZ E 16 f0)]) (wG E a0 (h_vo S0 f0)) := by
  refine ⟨[(a0 0, .inr (1, [.int (nI (g_sc S0)), .int (nI (g_pc S0)), .int (nI (g_wc S0)), .ref (a0 1), .ref (a0 2), .ref (a0 3), .ref (a0 4), .ref (a0 5)])), (a0 1, aI E 5 (g_ma S0)), (a0 2, aI E 16 (g_sh S0)), (a0 3, aI E 16 (g_mt S0)), (a0 5, aZ E 16 (g_gi S0))], perm9 (fun a => ?_), perm9 (fun a => ?_), rfl⟩
  · simp only [cnt9_app, cnt9_cons, cnt9_nil, wG] <;> omega
  · simp only [cnt9_app, cnt9_cons, cnt9_nil, wG, g_ma, g_sh, g_mt, g_vo, g_gi, h_ma, h_sh, h_mt, h_vo, h_gi, g_sc, g_pc, g_wc] <;> omega
theorem rp_7 {E : Ev} {a0 : Nat → Nat} {S0 : HS} : Rp (wG E a0 S0) ([(a0 4, aZ E 16 (g_vo S0))]) ([(a0 4, aZ E 16 (g_vo S0))]) (wG E a0 S0) := by
  refine ⟨[(a0 0, .inr (1, [.int (nI (g_sc S0)), .int (nI (g_pc S0)), .int (nI (g_wc S0)), .ref (a0 1), .ref (a0 2), .ref (a0 3), .ref (a0 4), .ref (a0 5)])), (a0 1, aI E 5 (g_ma S0)), (a0 2, aI E 16 (g_sh S0)), (a0 3, aI E 16 (g_mt S0)), (a0 5, aZ E 16 (g_gi S0))], perm9 (fun a => ?_), perm9 (fun a => ?_), rfl⟩
  · simp only [cnt9_app, cnt9_cons, cnt9_nil, wG] <;> omega
  · simp only [cnt9_app, cnt9_cons, cnt9_nil, wG, g_ma, g_sh, g_mt, g_vo, g_gi, h_ma, h_sh, h_mt, h_vo, h_gi, g_sc, g_pc, g_wc] <;> omega
theorem rp_8 {E : Ev} {a0 : Nat → Nat} {S0 : HS} : Rp (wG E a0 S0) (wG E a0 S0) (wG E a0 S0) (wG E a0 S0) := by
  refine ⟨([] : va_W), perm9 (fun a => ?_), perm9 (fun a => ?_), rfl⟩
  · simp only [cnt9_app, cnt9_cons, cnt9_nil] <;> omega
  · simp only [cnt9_app, cnt9_cons, cnt9_nil] <;> omega
theorem rp_9 {E : Ev} {a0 : Nat → Nat} {h0 : Nat} {S0 : CS} {a1 : Nat → Nat} {h1 : Nat} {S1 : CS} {f1 : Fn} : Rp (wC E a0 h0 S0 ++ wC E a1 h1 S1) ([(a1 1, aI E 5 (c_st S1))] ++ [(a0 1, aI E 5 (c_st S0))]) ([(a1 1, aI E 5 (c_st S1))] ++ [(a0 1, aI E 5 f1)]) (wC E a0 h0 (p_st S0 f1) ++ wC E a1 h1 S1) := by
  refine ⟨[(a0 0, .inr (0, [.ref h0, .ref (a0 1), .ref (a0 2), .ref (a0 3), .ref (a0 4), .ref (a0 5), .ref (a0 6), .int (c_ni S0), .int (c_wa S0), .int (c_un S0)])), (a0 2, aI E 5 (c_ou S0)), (a0 3, aZ E 5 (c_ru S0)), (a0 4, aI E 16 (c_ca S0)), (a0 5, aI E 4 (c_tr S0)), (a0 6, aI E 20 (c_ag S0))] ++ [(a1 0, .inr (0, [.ref h1, .ref (a1 1), .ref (a1 2), .ref (a1 3), .ref (a1 4), .ref (a1 5), .ref (a1 6), .int (c_ni S1), .int (c_wa S1), .int (c_un S1)])), (a1 2, aI E 5 (c_ou S1)), (a1 3, aZ E 5 (c_ru S1)), (a1 4, aI E 16 (c_ca S1)), (a1 5, aI E 4 (c_tr S1)), (a1 6, aI E 20 (c_ag S1))], perm9 (fun a => ?_), perm9 (fun a => ?_), rfl⟩
  · simp only [cnt9_app, cnt9_cons, cnt9_nil, wC] <;> omega
  · simp only [cnt9_app, cnt9_cons, cnt9_nil, wC, c_st, c_ou, c_ru, c_ca, c_tr, c_ag, p_st, p_ou, p_ru, p_ca, p_tr, p_ag, c_ni, c_wa, c_un] <;> omega
theorem rp_10 {E : Ev} {a0 : Nat → Nat} {h0 : Nat} {S0 : CS} {a1 : Nat → Nat} {h1 : Nat} {S1 : CS} : Rp (wC E a0 h0 S0 ++ wC E a1 h1 S1) ([(a1 1, aI E 5 (c_st S1))] ++ [(a0 1, aI E 5 (c_st S0))]) ([(a1 1, aI E 5 (c_st S1))] ++ [(a0 1, aI E 5 (c_st S0))]) (wC E a0 h0 S0 ++ wC E a1 h1 S1) := by
  refine ⟨[(a0 0, .inr (0, [.ref h0, .ref (a0 1), .ref (a0 2), .ref (a0 3), .ref (a0 4), .ref (a0 5), .ref (a0 6), .int (c_ni S0), .int (c_wa S0), .int (c_un S0)])), (a0 2, aI E 5 (c_ou S0)), (a0 3, aZ E 5 (c_ru S0)), (a0 4, aI E 16 (c_ca S0)), (a0 5, aI E 4 (c_tr S0)), (a0 6, aI E 20 (c_ag S0))] ++ [(a1 0, .inr (0, [.ref h1, .ref (a1 1), .ref (a1 2), .ref (a1 3), .ref (a1 4), .ref (a1 5), .ref (a1 6), .int (c_ni S1), .int (c_wa S1), .int (c_un S1)])), (a1 2, aI E 5 (c_ou S1)), (a1 3, aZ E 5 (c_ru S1)), (a1 4, aI E 16 (c_ca S1)), (a1 5, aI E 4 (c_tr S1)), (a1 6, aI E 20 (c_ag S1))], perm9 (fun a => ?_), perm9 (fun a => ?_), rfl⟩
  · simp only [cnt9_app, cnt9_cons, cnt9_nil, wC] <;> omega
  · simp only [cnt9_app, cnt9_cons, cnt9_nil, wC, c_st, c_ou, c_ru, c_ca, c_tr, c_ag, p_st, p_ou, p_ru, p_ca, p_tr, p_ag, c_ni, c_wa, c_un] <;> omega
theorem rp_11 {E : Ev} {a0 : Nat → Nat} {h0 : Nat} {S0 : CS} {a1 : Nat → Nat} {h1 : Nat} {S1 : CS} {f1 : Fn} : Rp (wC E a0 h0 S0 ++ wC E a1 h1 S1) ([(a1 2, aI E 5 (c_ou S1))] ++ [(a0 2, aI E 5 (c_ou S0))]) ([(a1 2, aI E 5 (c_ou S1))] ++ [(a0 2, aI E 5 f1)]) (wC E a0 h0 (p_ou S0 f1) ++ wC E a1 h1 S1) := by
  refine ⟨[(a0 0, .inr (0, [.ref h0, .ref (a0 1), .ref (a0 2), .ref (a0 3), .ref (a0 4), .ref (a0 5), .ref (a0 6), .int (c_ni S0), .int (c_wa S0), .int (c_un S0)])), (a0 1, aI E 5 (c_st S0)), (a0 3, aZ E 5 (c_ru S0)), (a0 4, aI E 16 (c_ca S0)), (a0 5, aI E 4 (c_tr S0)), (a0 6, aI E 20 (c_ag S0))] ++ [(a1 0, .inr (0, [.ref h1, .ref (a1 1), .ref (a1 2), .ref (a1 3), .ref (a1 4), .ref (a1 5), .ref (a1 6), .int (c_ni S1), .int (c_wa S1), .int (c_un S1)])), (a1 1, aI E 5 (c_st S1)), (a1 3, aZ E 5 (c_ru S1)), (a1 4, aI E 16 (c_ca S1)), (a1 5, aI E 4 (c_tr S1)), (a1 6, aI E 20 (c_ag S1))], perm9 (fun a => ?_), perm9 (fun a => ?_), rfl⟩
  · simp only [cnt9_app, cnt9_cons, cnt9_nil, wC] <;> omega
  · simp only [cnt9_app, cnt9_cons, cnt9_nil, wC, c_st, c_ou, c_ru, c_ca, c_tr, c_ag, p_st, p_ou, p_ru, p_ca, p_tr, p_ag, c_ni, c_wa, c_un] <;> omega
theorem rp_12 {E : Ev} {a0 : Nat → Nat} {h0 : Nat} {S0 : CS} {a1 : Nat → Nat} {h1 : Nat} {S1 : CS} : Rp (wC E a0 h0 S0 ++ wC E a1 h1 S1) ([(a1 2, aI E 5 (c_ou S1))] ++ [(a0 2, aI E 5 (c_ou S0))]) ([(a1 2, aI E 5 (c_ou S1))] ++ [(a0 2, aI E 5 (c_ou S0))]) (wC E a0 h0 S0 ++ wC E a1 h1 S1) := by
  refine ⟨[(a0 0, .inr (0, [.ref h0, .ref (a0 1), .ref (a0 2), .ref (a0 3), .ref (a0 4), .ref (a0 5), .ref (a0 6), .int (c_ni S0), .int (c_wa S0), .int (c_un S0)])), (a0 1, aI E 5 (c_st S0)), (a0 3, aZ E 5 (c_ru S0)), (a0 4, aI E 16 (c_ca S0)), (a0 5, aI E 4 (c_tr S0)), (a0 6, aI E 20 (c_ag S0))] ++ [(a1 0, .inr (0, [.ref h1, .ref (a1 1), .ref (a1 2), .ref (a1 3), .ref (a1 4), .ref (a1 5), .ref (a1 6), .int (c_ni S1), .int (c_wa S1), .int (c_un S1)])), (a1 1, aI E 5 (c_st S1)), (a1 3, aZ E 5 (c_ru S1)), (a1 4, aI E 16 (c_ca S1)), (a1 5, aI E 4 (c_tr S1)), (a1 6, aI E 20 (c_ag S1))], perm9 (fun a => ?_), perm9 (fun a => ?_), rfl⟩
  · simp only [cnt9_app, cnt9_cons, cnt9_nil, wC] <;> omega
  · simp only [cnt9_app, cnt9_cons, cnt9_nil, wC, c_st, c_ou, c_ru, c_ca, c_tr, c_ag, p_st, p_ou, p_ru, p_ca, p_tr, p_ag, c_ni, c_wa, c_un] <;> omega
theorem rp_13 {E : Ev} {a0 : Nat → Nat} {h0 : Nat} {S0 : CS} {a1 : Nat → Nat} {h1 : Nat} {S1 : CS} {f1 : FnB} : Rp (wC E a0 h0 S0 ++ wC E a1 h1 S1) ([(a1 3, aZ E 5 (c_ru S1))] ++ [(a0 3, aZ E 5 (c_ru S0))]) ([(a1 3, aZ E 5 (c_ru S1))] ++ [(a0 3, aZ E 5 f1)]) (wC E a0 h0 (p_ru S0 f1) ++ wC E a1 h1 S1) := by
  refine ⟨[(a0 0, .inr (0, [.ref h0, .ref (a0 1), .ref (a0 2), .ref (a0 3), .ref (a0 4), .ref (a0 5), .ref (a0 6), .int (c_ni S0), .int (c_wa S0), .int (c_un S0)])), (a0 1, aI E 5 (c_st S0)), (a0 2, aI E 5 (c_ou S0)), (a0 4, aI E 16 (c_ca S0)), (a0 5, aI E 4 (c_tr S0)), (a0 6, aI E 20 (c_ag S0))] ++ [(a1 0, .inr (0, [.ref h1, .ref (a1 1), .ref (a1 2), .ref (a1 3), .ref (a1 4), .ref (a1 5), .ref (a1 6), .int (c_ni S1), .int (c_wa S1), .int (c_un S1)])), (a1 1, aI E 5 (c_st S1)), (a1 2, aI E 5 (c_ou S1)), (a1 4, aI E 16 (c_ca S1)), (a1 5, aI E 4 (c_tr S1)), (a1 6, aI E 20 (c_ag S1))], perm9 (fun a => ?_), perm9 (fun a => ?_), rfl⟩
  · simp only [cnt9_app, cnt9_cons, cnt9_nil, wC] <;> omega
  · simp only [cnt9_app, cnt9_cons, cnt9_nil, wC, c_st, c_ou, c_ru, c_ca, c_tr, c_ag, p_st, p_ou, p_ru, p_ca, p_tr, p_ag, c_ni, c_wa, c_un] <;> omega
theorem rp_14 {E : Ev} {a0 : Nat → Nat} {h0 : Nat} {S0 : CS} {a1 : Nat → Nat} {h1 : Nat} {S1 : CS} : Rp (wC E a0 h0 S0 ++ wC E a1 h1 S1) ([(a1 3, aZ E 5 (c_ru S1))] ++ [(a0 3, aZ E 5 (c_ru S0))]) ([(a1 3, aZ E 5 (c_ru S1))] ++ [(a0 3, aZ E 5 (c_ru S0))]) (wC E a0 h0 S0 ++ wC E a1 h1 S1) := by
  refine ⟨[(a0 0, .inr (0, [.ref h0, .ref (a0 1), .ref (a0 2), .ref (a0 3), .ref (a0 4), .ref (a0 5), .ref (a0 6), .int (c_ni S0), .int (c_wa S0), .int (c_un S0)])), (a0 1, aI E 5 (c_st S0)), (a0 2, aI E 5 (c_ou S0)), (a0 4, aI E 16 (c_ca S0)), (a0 5, aI E 4 (c_tr S0)), (a0 6, aI E 20 (c_ag S0))] ++ [(a1 0, .inr (0, [.ref h1, .ref (a1 1), .ref (a1 2), .ref (a1 3), .ref (a1 4), .ref (a1 5), .ref (a1 6), .int (c_ni S1), .int (c_wa S1), .int (c_un S1)])), (a1 1, aI E 5 (c_st S1)), (a1 2, aI E 5 (c_ou S1)), (a1 4, aI E 16 (c_ca S1)), (a1 5, aI E 4 (c_tr S1)), (a1 6, aI E 20 (c_ag S1))], perm9 (fun a => ?_), perm9 (fun a => ?_), rfl⟩
  · simp only [cnt9_app, cnt9_cons, cnt9_nil, wC] <;> omega
  · simp only [cnt9_app, cnt9_cons, cnt9_nil, wC, c_st, c_ou, c_ru, c_ca, c_tr, c_ag, p_st, p_ou, p_ru, p_ca, p_tr, p_ag, c_ni, c_wa, c_un] <;> omega
theorem rp_15 {E : Ev} {a0 : Nat → Nat} {h0 : Nat} {S0 : CS} {a1 : Nat → Nat} {h1 : Nat} {S1 : CS} {f1 : Fn} : Rp (wC E a0 h0 S0 ++ wC E a1 h1 S1) ([(a1 4, aI E 16 (c_ca S1))] ++ [(a0 4, aI E 16 (c_ca S0))]) ([(a1 4, aI E 16 (c_ca S1))] ++ [(a0 4, aI E 16 f1)]) (wC E a0 h0 (p_ca S0 f1) ++ wC E a1 h1 S1) := by
  refine ⟨[(a0 0, .inr (0, [.ref h0, .ref (a0 1), .ref (a0 2), .ref (a0 3), .ref (a0 4), .ref (a0 5), .ref (a0 6), .int (c_ni S0), .int (c_wa S0), .int (c_un S0)])), (a0 1, aI E 5 (c_st S0)), (a0 2, aI E 5 (c_ou S0)), (a0 3, aZ E 5 (c_ru S0)), (a0 5, aI E 4 (c_tr S0)), (a0 6, aI E 20 (c_ag S0))] ++ [(a1 0, .inr (0, [.ref h1, .ref (a1 1), .ref (a1 2), .ref (a1 3), .ref (a1 4), .ref (a1 5), .ref (a1 6), .int (c_ni S1), .int (c_wa S1), .int (c_un S1)])), (a1 1, aI E 5 (c_st S1)), (a1 2, aI E 5 (c_ou S1)), (a1 3, aZ E 5 (c_ru S1)), (a1 5, aI E 4 (c_tr S1)), (a1 6, aI E 20 (c_ag S1))], perm9 (fun a => ?_), perm9 (fun a => ?_), rfl⟩
  · simp only [cnt9_app, cnt9_cons, cnt9_nil, wC] <;> omega
  · simp only [cnt9_app, cnt9_cons, cnt9_nil, wC, c_st, c_ou, c_ru, c_ca, c_tr, c_ag, p_st, p_ou, p_ru, p_ca, p_tr, p_ag, c_ni, c_wa, c_un] <;> omega
theorem rp_16 {E : Ev} {a0 : Nat → Nat} {h0 : Nat} {S0 : CS} {a1 : Nat → Nat} {h1 : Nat} {S1 : CS} : Rp (wC E a0 h0 S0 ++ wC E a1 h1 S1) ([(a1 4, aI E 16 (c_ca S1))] ++ [(a0 4, aI E 16 (c_ca S0))]) ([(a1 4, aI E 16 (c_ca S1))] ++ [(a0 4, aI E 16 (c_ca S0))]) (wC E a0 h0 S0 ++ wC E a1 h1 S1) := by
  refine ⟨[(a0 0, .inr (0, [.ref h0, .ref (a0 1), .ref (a0 2), .ref (a0 3), .ref (a0 4), .ref (a0 5), .ref (a0 6), .int (c_ni S0), .int (c_wa S0), .int (c_un S0)])), (a0 1, aI E 5 (c_st S0)), (a0 2, aI E 5 (c_ou S0)), (a0 3, aZ E 5 (c_ru S0)), (a0 5, aI E 4 (c_tr S0)), (a0 6, aI E 20 (c_ag S0))] ++ [(a1 0, .inr (0, [.ref h1, .ref (a1 1), .ref (a1 2), .ref (a1 3), .ref (a1 4), .ref (a1 5), .ref (a1 6), .int (c_ni S1), .int (c_wa S1), .int (c_un S1)])), (a1 1, aI E 5 (c_st S1)), (a1 2, aI E 5 (c_ou S1)), (a1 3, aZ E 5 (c_ru S1)), (a1 5, aI E 4 (c_tr S1)), (a1 6, aI E 20 (c_ag S1))], perm9 (fun a => ?_), perm9 (fun a => ?_), rfl⟩
  · simp only [cnt9_app, cnt9_cons, cnt9_nil, wC] <;> omega
  · simp only [cnt9_app, cnt9_cons, cnt9_nil, wC, c_st, c_ou, c_ru, c_ca, c_tr, c_ag, p_st, p_ou, p_ru, p_ca, p_tr, p_ag, c_ni, c_wa, c_un] <;> omega
theorem rp_17 {E : Ev} {a0 : Nat → Nat} {h0 : Nat} {S0 : CS} {a1 : Nat → Nat} {h1 : Nat} {S1 : CS} {f1 : Fn} : Rp (wC E a0 h0 S0 ++ wC E a1 h1 S1) ([(a1 5, aI E 4 (c_tr S1))] ++ [(a0 5, aI E 4 (c_tr S0))]) ([(a1 5, aI E 4 (c_tr S1))] ++ [(a0 5, aI E 4 f1)]) (wC E a0 h0 (p_tr S0 f1) ++ wC E a1 h1 S1) := by
  refine ⟨[(a0 0, .inr (0, [.ref h0, .ref (a0 1), .ref (a0 2), .ref (a0 3), .ref (a0 4), .ref (a0 5), .ref (a0 6), .int (c_ni S0), .int (c_wa S0), .int (c_un S0)])), (a0 1, aI E 5 (c_st S0)), (a0 2, aI E 5 (c_ou S0)), (a0 3, aZ E 5 (c_ru S0)), (a0 4, aI E 16 (c_ca S0)), (a0 6, aI E 20 (c_ag S0))] ++ [(a1 0, .inr (0, [.ref h1, .ref (a1 1), .ref (a1 2), .ref (a1 3), .ref (a1 4), .ref (a1 5), .ref (a1 6), .int (c_ni S1), .int (c_wa S1), .int (c_un S1)])), (a1 1, aI E 5 (c_st S1)), (a1 2, aI E 5 (c_ou S1)), (a1 3, aZ E 5 (c_ru S1)), (a1 4, aI E 16 (c_ca S1)), (a1 6, aI E 20 (c_ag S1))], perm9 (fun a => ?_), perm9 (fun a => ?_), rfl⟩
  · simp only [cnt9_app, cnt9_cons, cnt9_nil, wC] <;> omega
  · simp only [cnt9_app, cnt9_cons, cnt9_nil, wC, c_st, c_ou, c_ru, c_ca, c_tr, c_ag, p_st, p_ou, p_ru, p_ca, p_tr, p_ag, c_ni, c_wa, c_un] <;> omega
theorem rp_18 {E : Ev} {a0 : Nat → Nat} {h0 : Nat} {S0 : CS} {a1 : Nat → Nat} {h1 : Nat} {S1 : CS} : Rp (wC E a0 h0 S0 ++ wC E a1 h1 S1) ([(a1 5, aI E 4 (c_tr S1))] ++ [(a0 5, aI E 4 (c_tr S0))]) ([(a1 5, aI E 4 (c_tr S1))] ++ [(a0 5, aI E 4 (c_tr S0))]) (wC E a0 h0 S0 ++ wC E a1 h1 S1) := by
  refine ⟨[(a0 0, .inr (0, [.ref h0, .ref (a0 1), .ref (a0 2), .ref (a0 3), .ref (a0 4), .ref (a0 5), .ref (a0 6), .int (c_ni S0), .int (c_wa S0), .int (c_un S0)])), (a0 1, aI E 5 (c_st S0)), (a0 2, aI E 5 (c_ou S0)), (a0 3, aZ E 5 (c_ru S0)), (a0 4, aI E 16 (c_ca S0)), (a0 6, aI E 20 (c_ag S0))] ++ [(a1 0, .inr (0, [.ref h1, .ref (a1 1), .ref (a1 2), .ref (a1 3), .ref (a1 4), .ref (a1 5), .ref (a1 6), .int (c_ni S1), .int (c_wa S1), .int (c_un S1)])), (a1 1, aI E 5 (c_st S1)), (a1 2, aI E 5 (c_ou S1)), (a1 3, aZ E 5 (c_ru S1)), (a1 4, aI E 16 (c_ca S1)), (a1 6, aI E 20 (c_ag S1))], perm9 (fun a => ?_), perm9 (fun a => ?_), rfl⟩
  · simp only [cnt9_app, cnt9_cons, cnt9_nil, wC] <;> omega
  · simp only [cnt9_app, cnt9_cons, cnt9_nil, wC, c_st, c_ou, c_ru, c_ca, c_tr, c_ag, p_st, p_ou, p_ru, p_ca, p_tr, p_ag, c_ni, c_wa, c_un] <;> omega
theorem rp_19 {E : Ev} {a0 : Nat → Nat} {h0 : Nat} {S0 : CS} {a1 : Nat → Nat} {h1 : Nat} {S1 : CS} {f1 : Fn} : Rp (wC E a0 h0 S0 ++ wC E a1 h1 S1) ([(a1 6, aI E 20 (c_ag S1))] ++ [(a0 6, aI E 20 (c_ag S0))]) ([(a1 6, aI E 20 (c_ag S1))] ++ [(a0 6, aI E 20 f1)]) (wC E a0 h0 (p_ag S0 f1) ++ wC E a1 h1 S1) := by
  refine ⟨[(a0 0, .inr (0, [.ref h0, .ref (a0 1), .ref (a0 2), .ref (a0 3), .ref (a0 4), .ref (a0 5), .ref (a0 6), .int (c_ni S0), .int (c_wa S0), .int (c_un S0)])), (a0 1, aI E 5 (c_st S0)), (a0 2, aI E 5 (c_ou S0)), (a0 3, aZ E 5 (c_ru S0)), (a0 4, aI E 16 (c_ca S0)), (a0 5, aI E 4 (c_tr S0))] ++ [(a1 0, .inr (0, [.ref h1, .ref (a1 1), .ref (a1 2), .ref (a1 3), .ref (a1 4), .ref (a1 5), .ref (a1 6), .int (c_ni S1), .int (c_wa S1), .int (c_un S1)])), (a1 1, aI E 5 (c_st S1)), (a1 2, aI E 5 (c_ou S1)), (a1 3, aZ E 5 (c_ru S1)), (a1 4, aI E 16 (c_ca S1)), (a1 5, aI E 4 (c_tr S1))], perm9 (fun a => ?_), perm9 (fun a => ?_), rfl⟩
  · simp only [cnt9_app, cnt9_cons, cnt9_nil, wC] <;> omega
  · simp only [cnt9_app, cnt9_cons, cnt9_nil, wC, c_st, c_ou, c_ru, c_ca, c_tr, c_ag, p_st, p_ou, p_ru, p_ca, p_tr, p_ag, c_ni, c_wa, c_un] <;> omega
theorem rp_20 {E : Ev} {a0 : Nat → Nat} {h0 : Nat} {S0 : CS} {a1 : Nat → Nat} {h1 : Nat} {S1 : CS} : Rp (wC E a0 h0 S0 ++ wC E a1 h1 S1) ([(a1 6, aI E 20 (c_ag S1))] ++ [(a0 6, aI E 20 (c_ag S0))]) ([(a1 6, aI E 20 (c_ag S1))] ++ [(a0 6, aI E 20 (c_ag S0))]) (wC E a0 h0 S0 ++ wC E a1 h1 S1) := by
  refine ⟨[(a0 0, .inr (0, [.ref h0, .ref (a0 1), .ref (a0 2), .ref (a0 3), .ref (a0 4), .ref (a0 5), .ref (a0 6), .int (c_ni S0), .int (c_wa S0), .int (c_un S0)])), (a0 1, aI E 5 (c_st S0)), (a0 2, aI E 5 (c_ou S0)), (a0 3, aZ E 5 (c_ru S0)), (a0 4, aI E 16 (c_ca S0)), (a0 5, aI E 4 (c_tr S0))] ++ [(a1 0, .inr (0, [.ref h1, .ref (a1 1), .ref (a1 2), .ref (a1 3), .ref (a1 4), .ref (a1 5), .ref (a1 6), .int (c_ni S1), .int (c_wa S1), .int (c_un S1)])), (a1 1, aI E 5 (c_st S1)), (a1 2, aI E 5 (c_ou S1)), (a1 3, aZ E 5 (c_ru S1)), (a1 4, aI E 16 (c_ca S1)), (a1 5, aI E 4 (c_tr S1))], perm9 (fun a => ?_), perm9 (fun a => ?_), rfl⟩
  · simp only [cnt9_app, cnt9_cons, cnt9_nil, wC] <;> omega
  · simp only [cnt9_app, cnt9_cons, cnt9_nil, wC, c_st, c_ou, c_ru, c_ca, c_tr, c_ag, p_st, p_ou, p_ru, p_ca, p_tr, p_ag, c_ni, c_wa, c_un] <;> omega
theorem rp_21 {E : Ev} {a0 : Nat → Nat} {h0 : Nat} {S0 : CS} : Rp (wC E a0 h0 S0) ([(a0 1, aI E 5 (c_st S0))]) ([(a0 1, aI E 5 (c_st S0))]) (wC E a0 h0 S0) := by
  refine ⟨[(a0 0, .inr (0, [.ref h0, .ref (a0 1), .ref (a0 2), .ref (a0 3), .ref (a0 4), .ref (a0 5), .ref (a0 6), .int (c_ni S0), .int (c_wa S0), .int (c_un S0)])), (a0 2, aI E 5 (c_ou S0)), (a0 3, aZ E 5 (c_ru S0)), (a0 4, aI E 16 (c_ca S0)), (a0 5, aI E 4 (c_tr S0)), (a0 6, aI E 20 (c_ag S0))], perm9 (fun a => ?_), perm9 (fun a => ?_), rfl⟩
  · simp only [cnt9_app, cnt9_cons, cnt9_nil, wC] <;> omega
  · simp only [cnt9_app, cnt9_cons, cnt9_nil, wC, c_st, c_ou, c_ru, c_ca, c_tr, c_ag, p_st, p_ou, p_ru, p_ca, p_tr, p_ag, c_ni, c_wa, c_un] <;> omega
theorem rp_22 {E : Ev} {a0 : Nat → Nat} {h0 : Nat} {S0 : CS} {f0 : Fn} : Rp (wC E a0 h0 S0) ([(a0 4, aI E 16 (c_ca S0))]) ([(a0 4, aI E 16 f0)]) (wC E a0 h0 (p_ca S0 f0)) := by
  refine ⟨[(a0 0, .inr (0, [.ref h0, .ref (a0 1), .ref (a0 2), .ref (a0 3), .ref (a0 4), .ref (a0 5), .ref (a0 6), .int (c_ni S0), .int (c_wa S0), .int (c_un S0)])), (a0 1, aI E 5 (c_st S0)), (a0 2, aI E 5 (c_ou S0)), (a0 3, aZ E 5 (c_ru S0)), (a0 5, aI E 4 (c_tr S0)), (a0 6, aI E 20 (c_ag S0))], perm9 (fun a => ?_), perm9 (fun a => ?_), rfl⟩
  · simp only [cnt9_app, cnt9_cons, cnt9_nil, wC] <;> omega
  · simp only [cnt9_app, cnt9_cons, cnt9_nil, wC, c_st, c_ou, c_ru, c_ca, c_tr, c_ag, p_st, p_ou, p_ru, p_ca, p_tr, p_ag, c_ni, c_wa, c_un] <;> omega
theorem rp_23 {E : Ev} {a0 : Nat → Nat} {h0 : Nat} {S0 : CS} : Rp (wC E a0 h0 S0) ([(a0 4, aI E 16 (c_ca S0))]) ([(a0 4, aI E 16 (c_ca S0))]) (wC E a0 h0 S0) := by
  refine ⟨[(a0 0, .inr (0, [.ref h0, .ref (a0 1), .ref (a0 2), .ref (a0 3), .ref (a0 4), .ref (a0 5), .ref (a0 6), .int (c_ni S0), .int (c_wa S0), .int (c_un S0)])), (a0 1, aI E 5 (c_st S0)), (a0 2, aI E 5 (c_ou S0)), (a0 3, aZ E 5 (c_ru S0)), (a0 5, aI E 4 (c_tr S0)), (a0 6, aI E 20 (c_ag S0))], perm9 (fun a => ?_), perm9 (fun a => ?_), rfl⟩
  · simp only [cnt9_app, cnt9_cons, cnt9_nil, wC] <;> omega
  · simp only [cnt9_app, cnt9_cons, cnt9_nil, wC, c_st, c_ou, c_ru, c_ca, c_tr, c_ag, p_st, p_ou, p_ru, p_ca, p_tr, p_ag, c_ni, c_wa, c_un] <;> omega
theorem rp_24 {E : Ev} {a0 : Nat → Nat} {h0 : Nat} {S0 : CS} {a1 : Nat → Nat} {S1 : HS} {f0 : Fn} : Rp (wC E a0 h0 S0 ++ wG E a1 S1) ([(a0 1, aI E 5 (c_st S0))]) ([(a0 1, aI E 5 f0)]) (wC E a0 h0 (p_st S0 f0) ++ wG E a1 S1) := by
  refine ⟨[(a0 0, .inr (0, [.ref h0, .ref (a0 1), .ref (a0 2), .ref (a0 3), .ref (a0 4), .ref (a0 5), .ref (a0 6), .int (c_ni S0), .int (c_wa S0), .int (c_un S0)])), (a0 2, aI E 5 (c_ou S0)), (a0 3, aZ E 5 (c_ru S0)), (a0 4, aI E 16 (c_ca S0)), (a0 5, aI E 4 (c_tr S0)), (a0 6, aI E 20 (c_ag S0))] ++ wG E a1 S1, perm9 (fun a => ?_), perm9 (fun a => ?_), rfl⟩
  · simp only [cnt9_app, cnt9_cons, cnt9_nil, wC] <;> omega
  · simp only [cnt9_app, cnt9_cons, cnt9_nil, wC, c_st, c_ou, c_ru, c_ca, c_tr, c_ag, p_st, p_ou, p_ru, p_ca, p_tr, p_ag, c_ni, c_wa, c_un] <;> omega
theorem rp_25 {E : Ev} {a0 : Nat → Nat} {h0 : Nat} {S0 : CS} {a1 : Nat → Nat} {S1 : HS} : Rp (wC E a0 h0 S0 ++ wG E a1 S1) ([(a0 1, aI E 5 (c_st S0))]) ([(a0 1, aI E 5 (c_st S0))]) (wC E a0 h0 S0 ++ wG E a1 S1) := by
  refine ⟨[(a0 0, .inr (0, [.ref h0, .ref (a0 1), .ref (a0 2), .ref (a0 3), .ref (a0 4), .ref (a0 5), .ref (a0 6), .int (c_ni S0), .int (c_wa S0), .int (c_un S0)])), (a0 2, aI E 5 (c_ou S0)), (a0 3, aZ E 5 (c_ru S0)), (a0 4, aI E 16 (c_ca S0)), (a0 5, aI E 4 (c_tr S0)), (a0 6, aI E 20 (c_ag S0))] ++ wG E a1 S1, perm9 (fun a => ?_), perm9 (fun a => ?_), rfl⟩
  · simp only [cnt9_app, cnt9_cons, cnt9_nil, wC] <;> omega
  · simp only [cnt9_app, cnt9_cons, cnt9_nil, wC, c_st, c_ou, c_ru, c_ca, c_tr, c_ag, p_st, p_ou, p_ru, p_ca, p_tr, p_ag, c_ni, c_wa, c_un] <;> omega
theorem rp_26 {E : Ev} {a0 : Nat → Nat} {h0 : Nat} {S0 : CS} {a1 : Nat → Nat} {S1 : HS} {f0 : Fn} : Rp (wC E a0 h0 S0 ++ wG E a1 S1) ([(a0 2, aI E 5 (c_ou S0))]) ([(a0 2, aI E 5 f0)]) (wC E a0 h0 (p_ou S0 f0) ++ wG E a1 S1) := by
  refine ⟨[(a0 0, .inr (0, [.ref h0, .ref (a0 1), .ref (a0 2), .ref (a0 3), .ref (a0 4), .ref (a0 5), .ref (a0 6), .int (c_ni S0), .int (c_wa S0), .int (c_un S0)])), (a0 1, aI E 5 (c_st S0)), (a0 3, aZ E 5 (c_ru S0)), (a0 4, aI E 16 (c_ca S0)), (a0 5, aI E 4 (c_tr S0)), (a0 6, aI E 20 (c_ag S0))] ++ wG E a1 S1, perm9 (fun a => ?_), perm9 (fun a => ?_), rfl⟩
  · simp only [cnt9_app, cnt9_cons, cnt9_nil, wC] <;> omega
  · simp only [cnt9_app, cnt9_cons, cnt9_nil, wC, c_st, c_ou, c_ru, c_ca, c_tr, c_ag, p_st, p_ou, p_ru, p_ca, p_tr, p_ag, c_ni, c_wa, c_un] <;> omega
theorem rp_27 {E : Ev} {a0 : Nat → Nat} {h0 : Nat} {S0 : CS} {a1 : Nat → Nat} {S1 : HS} : Rp (wC E a0 h0 S0 ++ wG E a1 S1) ([(a0 2, aI E 5 (c_ou S0))]) ([(a0 2, aI E 5 (c_ou S0))]) (wC E a0 h0 S0 ++ wG E a1 S1) := by
  refine ⟨[(a0 0, .inr (0, [.ref h0, .ref (a0 1), .ref (a0 2), .ref (a0 3), .ref (a0 4), .ref (a0 5), .ref (a0 6), .int (c_ni S0), .int (c_wa S0), .int (c_un S0)])), (a0 1, aI E 5 (c_st S0)), (a0 3, aZ E 5 (c_ru S0)), (a0 4, aI E 16 (c_ca S0)), (a0 5, aI E 4 (c_tr S0)), (a0 6, aI E 20 (c_ag S0))] ++ wG E a1 S1, perm9 (fun a => ?_), perm9 (fun a => ?_), rfl⟩
  · simp only [cnt9_app, cnt9_cons, cnt9_nil, wC] <;> omega
  · simp only [cnt9_app, cnt9_cons, cnt9_nil, wC, c_st, c_ou, c_ru, c_ca, c_tr, c_ag, p_st, p_ou, p_ru, p_ca, p_tr, p_ag, c_ni, c_wa, c_un] <;> omega
theorem rp_28 {E : Ev} {a0 : Nat → Nat} {h0 : Nat} {S0 : CS} {a1 : Nat → Nat} {S1 : HS} : Rp (wC E a0 h0 S0 ++ wG E a1 S1) (wG E a1 S1) (wG E a1 S1) (wC E a0 h0 S0 ++ wG E a1 S1) := by
  refine ⟨wC E a0 h0 S0, perm9 (fun a => ?_), perm9 (fun a => ?_), rfl⟩
  · simp only [cnt9_app, cnt9_cons, cnt9_nil] <;> omega
  · simp only [cnt9_app, cnt9_cons, cnt9_nil] <;> omega
theorem rp_29 {E : Ev} {a0 : Nat → Nat} {h0 : Nat} {S0 V0 : CS} {a1 : Nat → Nat} {S1 : HS} : Rp (wC E a0 h0 S0 ++ wG E a1 S1) (wC E a0 h0 S0) (wC E a0 h0 V0) (wC E a0 h0 V0 ++ wG E a1 S1) := by
  refine ⟨wG E a1 S1, perm9 (fun a => ?_), perm9 (fun a => ?_), rfl⟩
  · simp only [cnt9_app, cnt9_cons, cnt9_nil] <;> omega
  · simp only [cnt9_app, cnt9_cons, cnt9_nil] <;> omega
theorem rp_30 {E : Ev} {a0 : Nat → Nat} {h0 : Nat} {S0 : CS} {a1 : Nat → Nat} {S1 : HS} : Rp (wC E a0 h0 S0 ++ wG E a1 S1) (wC E a0 h0 S0) (wC E a0 h0 S0) (wC E a0 h0 S0 ++ wG E a1 S1) := by
  refine ⟨wG E a1 S1, perm9 (fun a => ?_), perm9 (fun a => ?_), rfl⟩
  · simp only [cnt9_app, cnt9_cons, cnt9_nil] <;> omega
  · simp only [cnt9_app, cnt9_cons, cnt9_nil] <;> omega
theorem rp_31 {E : Ev} {a0 : Nat → Nat} {h0 : Nat} {S0 : CS} {a1 : Nat → Nat} {S1 : HS} {f0 : FnB} : Rp (wC E a0 h0 S0 ++ wG E a1 S1) ([(a0 3, aZ E 5 (c_ru S0))]) ([(a0 3, aZ E 5 f0)]) (wC E a0 h0 (p_ru S0 f0) ++ wG E a1 S1) := by
  refine ⟨[(a0 0, .inr (0, [.ref h0, .ref (a0 1), .ref (a0 2), .ref (a0 3), .ref (a0 4), .ref (a0 5), .ref (a0 6), .int (c_ni S0), .int (c_wa S0), .int (c_un S0)])), (a0 1, aI E 5 (c_st S0)), (a0 2, aI E 5 (c_ou S0)), (a0 4, aI E 16 (c_ca S0)), (a0 5, aI E 4 (c_tr S0)), (a0 6, aI E 20 (c_ag S0))] ++ wG E a1 S1, perm9 (fun a => ?_), perm9 (fun a => ?_), rfl⟩
  · simp only [cnt9_app, cnt9_cons, cnt9_nil, wC] <;> omega
  · simp only [cnt9_app, cnt9_cons, cnt9_nil, wC, c_st, c_ou, c_ru, c_ca, c_tr, c_ag, p_st, p_ou, p_ru, p_ca, p_tr, p_ag, c_ni, c_wa, c_un] <;> omega
theorem rp_32 {E : Ev} {a0 : Nat → Nat} {h0 : Nat} {S0 : CS} {a1 : Nat → Nat} {S1 : HS} : Rp (wC E a0 h0 S0 ++ wG E a1 S1) ([(a0 3, aZ E 5 (c_ru S0))]) ([(a0 3, aZ E 5 (c_ru S0))]) (wC E a0 h0 S0 ++ wG E a1 S1) := by
  refine ⟨[(a0 0, .inr (0, [.ref h0, .ref (a0 1), .ref (a0 2), .ref (a0 3), .ref (a0 4), .ref (a0 5), .ref (a0 6), .int (c_ni S0), .int (c_wa S0), .int (c_un S0)])), (a0 1, aI E 5 (c_st S0)), (a0 2, aI E 5 (c_ou S0)), (a0 4, aI E 16 (c_ca S0)), (a0 5, aI E 4 (c_tr S0)), (a0 6, aI E 20 (c_ag S0))] ++ wG E a1 S1, perm9 (fun a => ?_), perm9 (fun a => ?_), rfl⟩
  · simp only [cnt9_app, cnt9_cons, cnt9_nil, wC] <;> omega
  · simp only [cnt9_app, cnt9_cons, cnt9_nil, wC, c_st, c_ou, c_ru, c_ca, c_tr, c_ag, p_st, p_ou, p_ru, p_ca, p_tr, p_ag, c_ni, c_wa, c_un] <;> omega
theorem rp_33 {E : Ev} {a0 : Nat → Nat} {h0 : Nat} {S0 : CS} {a1 : Nat → Nat} {S1 : HS} : Rp (wC E a0 h0 S0 ++ wG E a1 S1) ([(a0 4, aI E 16 (c_ca S0))]) ([(a0 4, aI E 16 (c_ca S0))]) (wC E a0 h0 S0 ++ wG E a1 S1) := by
  refine ⟨[(a0 0, .inr (0, [.ref h0, .ref (a0 1), .ref (a0 2), .ref (a0 3), .ref (a0 4), .ref (a0 5), .ref (a0 6), .int (c_ni S0), .int (c_wa S0), .int (c_un S0)])), (a0 1, aI E 5 (c_st S0)), (a0 2, aI E 5 (c_ou S0)), (a0 3, aZ E 5 (c_ru S0)), (a0 5, aI E 4 (c_tr S0)), (a0 6, aI E 20 (c_ag S0))] ++ wG E a1 S1, perm9 (fun a => ?_), perm9 (fun a => ?_), rfl⟩
  · simp only [cnt9_app, cnt9_cons, cnt9_nil, wC] <;> omega
  · simp only [cnt9_app, cnt9_cons, cnt9_nil, wC, c_st, c_ou, c_ru, c_ca, c_tr, c_ag, p_st, p_ou, p_ru, p_ca, p_tr, p_ag, c_ni, c_wa, c_un] <;> omega
theorem rp_34 {E : Ev} {a0 : Nat → Nat} {h0 : Nat} {S0 : CS} {a1 : Nat → Nat} {S1 : HS} {f0 : Fn} : Rp (wC E a0 h0 S0 ++ wG E a1 S1) ([(a0 4, aI E 16 (c_ca S0))]) ([(a0 4, aI E 16 f0)]) (wC E a0 h0 (p_ca S0 f0) ++ wG E a1 S1) := by
  refine ⟨[(a0 0, .inr (0, [.ref h0, .ref (a0 1), .ref (a0 2), .ref (a0 3), .ref (a0 4), .ref (a0 5), .ref (a0 6), .int (c_ni S0), .int (c_wa S0), .int (c_un S0)])), (a0 1, aI E 5 (c_st S0)), (a0 2, aI E 5 (c_ou S0)), (a0 3, aZ E 5 (c_ru S0)), (a0 5, aI E 4 (c_tr S0)), (a0 6, aI E 20 (c_ag S0))] ++ wG E a1 S1, perm9 (fun a => ?_), perm9 (fun a => ?_), rfl⟩
  · simp only [cnt9_app, cnt9_cons, cnt9_nil, wC] <;> omega
  · simp only [cnt9_app, cnt9_cons, cnt9_nil, wC, c_st, c_ou, c_ru, c_ca, c_tr, c_ag, p_st, p_ou, p_ru, p_ca, p_tr, p_ag, c_ni, c_wa, c_un] <;> omega
theorem rp_35 {E : Ev} {a0 : Nat → Nat} {h0 : Nat} {S0 : CS} {a1 : Nat → Nat} {S1 : HS} : Rp (wC E a0 h0 S0 ++ wG E a1 S1) (([] : va_W)) (([] : va_W)) (wC E a0 h0 S0 ++ wG E a1 S1) := by
  refine ⟨wC E a0 h0 S0 ++ wG E a1 S1, perm9 (fun a => ?_), perm9 (fun a => ?_), rfl⟩
  · simp only [cnt9_app, cnt9_cons, cnt9_nil] <;> omega
  · simp only [cnt9_app, cnt9_cons, cnt9_nil] <;> omega
theorem rp_36 {E : Ev} {a0 : Nat → Nat} {h0 : Nat} {S0 : CS} {a1 : Nat → Nat} {S1 : HS} {f0 : Fn} : Rp (wC E a0 h0 S0 ++ wG E a1 S1) ([(a0 6, aI E 20 (c_ag S0))]) ([(a0 6, aI E 20 f0)]) (wC E a0 h0 (p_ag S0 f0) ++ wG E a1 S1) := by
  refine ⟨[(a0 0, .inr (0, [.ref h0, .ref (a0 1), .ref (a0 2), .ref (a0 3), .ref (a0 4), .ref (a0 5), .ref (a0 6), .int (c_ni S0), .int (c_wa S0), .int (c_un S0)])), (a0 1, aI E 5 (c_st S0)), (a0 2, aI E 5 (c_ou S0)), (a0 3, aZ E 5 (c_ru S0)), (a0 4, aI E 16 (c_ca S0)), (a0 5, aI E 4 (c_tr S0))] ++ wG E a1 S1, perm9 (fun a => ?_), perm9 (fun a => ?_), rfl⟩
  · simp only [cnt9_app, cnt9_cons, cnt9_nil, wC] <;> omega
  · simp only [cnt9_app, cnt9_cons, cnt9_nil, wC, c_st, c_ou, c_ru, c_ca, c_tr, c_ag, p_st, p_ou, p_ru, p_ca, p_tr, p_ag, c_ni, c_wa, c_un] <;> omega
theorem rp_37 {E : Ev} {a0 : Nat → Nat} {h0 : Nat} {S0 : CS} {a1 : Nat → Nat} {S1 : HS} : Rp (wC E a0 h0 S0 ++ wG E a1 S1) ([(a0 6, aI E 20 (c_ag S0))]) ([(a0 6, aI E 20 (c_ag S0))]) (wC E a0 h0 S0 ++ wG E a1 S1) := by
  refine ⟨[(a0 0, .inr (0, [.ref h0, .ref (a0 1), .ref (a0 2), .ref (a0 3), .ref (a0 4), .ref (a0 5), .ref (a0 6), .int (c_ni S0), .int (c_wa S0), .int (c_un S0)])), (a0 1, aI E 5 (c_st S0)), (a0 2, aI E 5 (c_ou S0)), (a0 3, aZ E 5 (c_ru S0)), (a0 4, aI E 16 (c_ca S0)), (a0 5, aI E 4 (c_tr S0))] ++ wG E a1 S1, perm9 (fun a => ?_), perm9 (fun a => ?_), rfl⟩
  · simp only [cnt9_app, cnt9_cons, cnt9_nil, wC] <;> omega
  · simp only [cnt9_app, cnt9_cons, cnt9_nil, wC, c_st, c_ou, c_ru, c_ca, c_tr, c_ag, p_st, p_ou, p_ru, p_ca, p_tr, p_ag, c_ni, c_wa, c_un] <;> omega
theorem rp_38 {E : Ev} {a0 : Nat → Nat} {h0 : Nat} {S0 : CS} : Rp (wC E a0 h0 S0) (([] : va_W)) (([] : va_W)) (wC E a0 h0 S0) := by
  refine ⟨wC E a0 h0 S0, perm9 (fun a => ?_), perm9 (fun a => ?_), rfl⟩
  · simp only [cnt9_app, cnt9_cons, cnt9_nil] <;> omega
  · simp only [cnt9_app, cnt9_cons, cnt9_nil] <;> omega
theorem rp_39 {E : Ev} {a0 : Nat → Nat} {h0 : Nat} {S0 : CS} : Rp (wC E a0 h0 S0) (wC E a0 h0 S0) (wC E a0 h0 S0) (wC E a0 h0 S0) := by
  refine ⟨([] : va_W), perm9 (fun a => ?_), perm9 (fun a => ?_), rfl⟩
  · simp only [cnt9_app, cnt9_cons, cnt9_nil] <;> omega
  · simp only [cnt9_app, cnt9_cons, cnt9_nil] <;> omega
theorem rp_40 {E : Ev} {a0 : Nat → Nat} {h0 : Nat} {S0 : CS} : Rp (wC E a0 h0 S0) ([(a0 5, aI E 4 (c_tr S0))]) ([(a0 5, aI E 4 (c_tr S0))]) (wC E a0 h0 S0) := by
  refine ⟨[(a0 0, .inr (0, [.ref h0, .ref (a0 1), .ref (a0 2), .ref (a0 3), .ref (a0 4), .ref (a0 5), .ref (a0 6), .int (c_ni S0), .int (c_wa S0), .int (c_un S0)])), (a0 1, aI E 5 (c_st S0)), (a0 2, aI E 5 (c_ou S0)), (a0 3, aZ E 5 (c_ru S0)), (a0 4, aI E 16 (c_ca S0)), (a0 6, aI E 20 (c_ag S0))], perm9 (fun a => ?_), perm9 (fun a => ?_), rfl⟩
  · simp only [cnt9_app, cnt9_cons, cnt9_nil, wC] <;> omega
  · simp only [cnt9_app, cnt9_cons, cnt9_nil, wC, c_st, c_ou, c_ru, c_ca, c_tr, c_ag, p_st, p_ou, p_ru, p_ca, p_tr, p_ag, c_ni, c_wa, c_un] <;> omega
theorem rp_41 {E : Ev} {a0 : Nat → Nat} {h0 : Nat} {S0 : CS} {f0 : Fn} : Rp (wC E a0 h0 S0) ([(a0 6, aI E 20 (c_ag S0))]) ([(a0 6, aI E 20 f0)]) (wC E a0 h0 (p_ag S0 f0)) := by
  refine ⟨[(a0 0, .inr (0, [.ref h0, .ref (a0 1), .ref (a0 2), .ref (a0 3), .ref (a0 4), .ref (a0 5), .ref (a0 6), .int (c_ni S0), .int (c_wa S0), .int (c_un S0)])), (a0 1, aI E 5 (c_st S0)), (a0 2, aI E 5 (c_ou S0)), (a0 3, aZ E 5 (c_ru S0)), (a0 4, aI E 16 (c_ca S0)), (a0 5, aI E 4 (c_tr S0))], perm9 (fun a => ?_), perm9 (fun a => ?_), rfl⟩
  · simp only [cnt9_app, cnt9_cons, cnt9_nil, wC] <;> omega
  · simp only [cnt9_app, cnt9_cons, cnt9_nil, wC, c_st, c_ou, c_ru, c_ca, c_tr, c_ag, p_st, p_ou, p_ru, p_ca, p_tr, p_ag, c_ni, c_wa, c_un] <;> omega
theorem rp_42 {E : Ev} {a0 : Nat → Nat} {h0 : Nat} {S0 : CS} : Rp (wC E a0 h0 S0) ([(a0 6, aI E 20 (c_ag S0))]) ([(a0 6, aI E 20 (c_ag S0))]) (wC E a0 h0 S0) := by
  refine ⟨[(a0 0, .inr (0, [.ref h0, .ref (a0 1), .ref (a0 2), .ref (a0 3), .ref (a0 4), .ref (a0 5), .ref (a0 6), .int (c_ni S0), .int (c_wa S0), .int (c_un S0)])), (a0 1, aI E 5 (c_st S0)), (a0 2, aI E 5 (c_ou S0)), (a0 3, aZ E 5 (c_ru S0)), (a0 4, aI E 16 (c_ca S0)), (a0 5, aI E 4 (c_tr S0))], perm9 (fun a => ?_), perm9 (fun a => ?_), rfl⟩
  · simp only [cnt9_app, cnt9_cons, cnt9_nil, wC] <;> omega
  · simp only [cnt9_app, cnt9_cons, cnt9_nil, wC, c_st, c_ou, c_ru, c_ca, c_tr, c_ag, p_st, p_ou, p_ru, p_ca, p_tr, p_ag, c_ni, c_wa, c_un] <;> omega
theorem rp_43 {E : Ev} {a0 : Nat → Nat} {h0 : Nat} {S0 : CS} {f0 : FnB} : Rp (wC E a0 h0 S0) ([(a0 3, aZ E 5 (c_ru S0))]) ([(a0 3, aZ E 5 f0)]) (wC E a0 h0 (p_ru S0 f0)) := by
  refine ⟨[(a0 0, .inr (0, [.ref h0, .ref (a0 1), .ref (a0 2), .ref (a0 3), .ref (a0 4), .ref (a0 5), .ref (a0 6), .int (c_ni S0), .int (c_wa S0), .int (c_un S0)])), (a0 1, aI E 5 (c_st S0)), (a0 2, aI E 5 (c_ou S0)), (a0 4, aI E 16 (c_ca S0)), (a0 5, aI E 4 (c_tr S0)), (a0 6, aI E 20 (c_ag S0))], perm9 (fun a => ?_), perm9 (fun a => ?_), rfl⟩
  · simp only [cnt9_app, cnt9_cons, cnt9_nil, wC] <;> omega
  · simp only [cnt9_app, cnt9_cons, cnt9_nil, wC, c_st, c_ou, c_ru, c_ca, c_tr, c_ag, p_st, p_ou, p_ru, p_ca, p_tr, p_ag, c_ni, c_wa, c_un] <;> omega
theorem rp_44 {E : Ev} {a0 : Nat → Nat} {h0 : Nat} {S0 : CS} : Rp (wC E a0 h0 S0) ([(a0 3, aZ E 5 (c_ru S0))]) ([(a0 3, aZ E 5 (c_ru S0))]) (wC E a0 h0 S0) := by
  refine ⟨[(a0 0, .inr (0, [.ref h0, .ref (a0 1), .ref (a0 2), .ref (a0 3), .ref (a0 4), .ref (a0 5), .ref (a0 6), .int (c_ni S0), .int (c_wa S0), .int (c_un S0)])), (a0 1, aI E 5 (c_st S0)), (a0 2, aI E 5 (c_ou S0)), (a0 4, aI E 16 (c_ca S0)), (a0 5, aI E 4 (c_tr S0)), (a0 6, aI E 20 (c_ag S0))], perm9 (fun a => ?_), perm9 (fun a => ?_), rfl⟩
  · simp only [cnt9_app, cnt9_cons, cnt9_nil, wC] <;> omega
  · simp only [cnt9_app, cnt9_cons, cnt9_nil, wC, c_st, c_ou, c_ru, c_ca, c_tr, c_ag, p_st, p_ou, p_ru, p_ca, p_tr, p_ag, c_ni, c_wa, c_un] <;> omega
theorem rp_45 {E : Ev} {a0 : Nat → Nat} {h0 : Nat} {S0 : CS} {f0 : Fn} : Rp (wC E a0 h0 S0) ([(a0 5, aI E 4 (c_tr S0))]) ([(a0 5, aI E 4 f0)]) (wC E a0 h0 (p_tr S0 f0)) := by
  refine ⟨[(a0 0, .inr (0, [.ref h0, .ref (a0 1), .ref (a0 2), .ref (a0 3), .ref (a0 4), .ref (a0 5), .ref (a0 6), .int (c_ni S0), .int (c_wa S0), .int (c_un S0)])), (a0 1, aI E 5 (c_st S0)), (a0 2, aI E 5 (c_ou S0)), (a0 3, aZ E 5 (c_ru S0)), (a0 4, aI E 16 (c_ca S0)), (a0 6, aI E 20 (c_ag S0))], perm9 (fun a => ?_), perm9 (fun a => ?_), rfl⟩
  · simp only [cnt9_app, cnt9_cons, cnt9_nil, wC] <;> omega
  · simp only [cnt9_app, cnt9_cons, cnt9_nil, wC, c_st, c_ou, c_ru, c_ca, c_tr, c_ag, p_st, p_ou, p_ru, p_ca, p_tr, p_ag, c_ni, c_wa, c_un] <;> omega
theorem rp_46 {E : Ev} {a0 : Nat → Nat} {h0 : Nat} {S0 : CS} {a1 : Nat → Nat} {S1 : HS} : Rp (wC E a0 h0 S0 ++ wG E a1 S1) (wC E a0 h0 S0 ++ wG E a1 S1) (wC E a0 h0 S0 ++ wG E a1 S1) (wC E a0 h0 S0 ++ wG E a1 S1) := by
  refine ⟨([] : va_W), perm9 (fun a => ?_), perm9 (fun a => ?_), rfl⟩
  · simp only [cnt9_app, cnt9_cons, cnt9_nil] <;> omega
  · simp only [cnt9_app, cnt9_cons, cnt9_nil] <;> omega
theorem rp_47 {E : Ev} {a0 : Nat → Nat} {h0 : Nat} {S0 V0 : CS} : Rp (wC E a0 h0 S0) (wC E a0 h0 S0) (wC E a0 h0 V0) (wC E a0 h0 V0) := by
  refine ⟨([] : va_W), perm9 (fun a => ?_), perm9 (fun a => ?_), rfl⟩
  · simp only [cnt9_app, cnt9_cons, cnt9_nil] <;> omega
  · simp only [cnt9_app, cnt9_cons, cnt9_nil] <;> omega
theorem rp_48 {E : Ev} {a0 : Nat → Nat} {h0 : Nat} {S0 : CS} {a1 : Nat → Nat} {S1 : HS} : Rp (wC E a0 h0 S0 ++ wG E a1 S1) ([(a1 3, aI E 16 (g_mt S1))]) ([(a1 3, aI E 16 (g_mt S1))]) (wC E a0 h0 S0 ++ wG E a1 S1) := by
  refine ⟨wC E a0 h0 S0 ++ [(a1 0, .inr (1, [.int (nI (g_sc S1)), .int (nI (g_pc S1)), .int (nI (g_wc S1)), .ref (a1 1), .ref (a1 2), .ref (a1 3), .ref (a1 4), .ref (a1 5)])), (a1 1, aI E 5 (g_ma S1)), (a1 2, aI E 16 (g_sh S1)), (a1 4, aZ E 16 (g_vo S1)), (a1 5, aZ E 16 (g_gi S1))], perm9 (fun a => ?_), perm9 (fun a => ?_), rfl⟩
  · simp only [cnt9_app, cnt9_cons, cnt9_nil, wG] <;> omega
  · simp only [cnt9_app, cnt9_cons, cnt9_nil, wG, g_ma, g_sh, g_mt, g_vo, g_gi, h_ma, h_sh, h_mt, h_vo, h_gi, g_sc, g_pc, g_wc] <;> omega
theorem rp_49 {E : Ev} {a0 : Nat → Nat} {h0 : Nat} {S0 V0 : CS} {a1 : Nat → Nat} {S1 : HS} : Rp (wC E a0 h0 S0 ++ wG E a1 S1) (wC E a0 h0 S0 ++ wG E a1 S1) (wC E a0 h0 V0 ++ wG E a1 S1) (wC E a0 h0 V0 ++ wG E a1 S1) := by
  refine ⟨([] : va_W), perm9 (fun a => ?_), perm9 (fun a => ?_), rfl⟩
  · simp only [cnt9_app, cnt9_cons, cnt9_nil] <;> omega
  · simp only [cnt9_app, cnt9_cons, cnt9_nil] <;> omega
theorem rp_50 {E : Ev} {x0 : Nat} {b0 c0 d0 : Nat → Nat} {a1 : Nat → Nat} {h1 : Nat} {S1 : CS} {a2 : Nat → Nat} {h2 : Nat} {S2 : CS} {a3 : Nat → Nat} {S3 : HS} : Rp (wX x0 b0 c0 d0 ++ wC E a1 h1 S1 ++ wC E a2 h2 S2 ++ wG E a3 S3) (wX x0 b0 c0 d0 ++ wC E a1 h1 S1 ++ wC E a2 h2 S2 ++ wG E a3 S3) (wX x0 b0 c0 d0 ++ wC E a1 h1 S1 ++ wC E a2 h2 S2 ++ wG E a3 S3) (wX x0 b0 c0 d0 ++ wC E a1 h1 S1 ++ wC E a2 h2 S2 ++ wG E a3 S3) := by
  refine ⟨([] : va_W), perm9 (fun a => ?_), perm9 (fun a => ?_), rfl⟩
  · simp only [cnt9_app, cnt9_cons, cnt9_nil] <;> omega
  · simp only [cnt9_app, cnt9_cons, cnt9_nil] <;> omega
theorem rp_51 {E : Ev} {x0 : Nat} {b0 c0 d0 : Nat → Nat} {a1 : Nat → Nat} {h1 : Nat} {S1 : CS} {a2 : Nat → Nat} {h2 : Nat} {S2 : CS} {a3 : Nat → Nat} {S3 : HS} : Rp (wX x0 b0 c0 d0 ++ wC E a1 h1 S1 ++ wC E a2 h2 S2 ++ wG E a3 S3) (wC E a1 h1 S1) (wC E a1 h1 S1) (wX x0 b0 c0 d0 ++ wC E a1 h1 S1 ++ wC E a2 h2 S2 ++ wG E a3 S3) := by
  refine ⟨wX x0 b0 c0 d0 ++ wC E a2 h2 S2 ++ wG E a3 S3, perm9 (fun a => ?_), perm9 (fun a => ?_), rfl⟩
  · simp only [cnt9_app, cnt9_cons, cnt9_nil] <;> omega
  · simp only [cnt9_app, cnt9_cons, cnt9_nil] <;> omega
theorem rp_52 {E : Ev} {x0 : Nat} {b0 c0 d0 : Nat → Nat} {a1 : Nat → Nat} {h1 : Nat} {S1 : CS} {a2 : Nat → Nat} {h2 : Nat} {S2 : CS} {a3 : Nat → Nat} {S3 V3 : HS} : Rp (wX x0 b0 c0 d0 ++ wC E a1 h1 S1 ++ wC E a2 h2 S2 ++ wG E a3 S3) (wG E a3 S3) (wG E a3 V3) (wX x0 b0 c0 d0 ++ wC E a1 h1 S1 ++ wC E a2 h2 S2 ++ wG E a3 V3) := by
  refine ⟨wX x0 b0 c0 d0 ++ wC E a1 h1 S1 ++ wC E a2 h2 S2, perm9 (fun a => ?_), perm9 (fun a => ?_), rfl⟩
  · simp only [cnt9_app, cnt9_cons, cnt9_nil] <;> omega
  · simp only [cnt9_app, cnt9_cons, cnt9_nil] <;> omega
theorem rp_53 {E : Ev} {x0 : Nat} {b0 c0 d0 : Nat → Nat} {a1 : Nat → Nat} {h1 : Nat} {S1 : CS} {a2 : Nat → Nat} {h2 : Nat} {S2 : CS} {a3 : Nat → Nat} {S3 : HS} : Rp (wX x0 b0 c0 d0 ++ wC E a1 h1 S1 ++ wC E a2 h2 S2 ++ wG E a3 S3) (wG E a3 S3) (wG E a3 S3) (wX x0 b0 c0 d0 ++ wC E a1 h1 S1 ++ wC E a2 h2 S2 ++ wG E a3 S3) := by
  refine ⟨wX x0 b0 c0 d0 ++ wC E a1 h1 S1 ++ wC E a2 h2 S2, perm9 (fun a => ?_), perm9 (fun a => ?_), rfl⟩
  · simp only [cnt9_app, cnt9_cons, cnt9_nil] <;> omega
  · simp only [cnt9_app, cnt9_cons, cnt9_nil] <;> omega
theorem rp_54 {E : Ev} {x0 : Nat} {b0 c0 d0 : Nat → Nat} {a1 : Nat → Nat} {h1 : Nat} {S1 : CS} {a2 : Nat → Nat} {h2 : Nat} {S2 : CS} {a3 : Nat → Nat} {S3 : HS} : Rp (wX x0 b0 c0 d0 ++ wC E a1 h1 S1 ++ wC E a2 h2 S2 ++ wG E a3 S3) ([(a3 1, aI E 5 (g_ma S3))]) ([(a3 1, aI E 5 (g_ma S3))]) (wX x0 b0 c0 d0 ++ wC E a1 h1 S1 ++ wC E a2 h2 S2 ++ wG E a3 S3) := by
  refine ⟨wX x0 b0 c0 d0 ++ wC E a1 h1 S1 ++ wC E a2 h2 S2 ++ [(a3 0, .inr (1, [.int (nI (g_sc S3)), .int (nI (g_pc S3)), .int (nI (g_wc S3)), .ref (a3 1), .ref (a3 2), .ref (a3 3), .ref (a3 4), .ref (a3 5)])), (a3 2, aI E 16 (g_sh S3)), (a3 3, aI E 16 (g_mt S3)), (a3 4, aZ E 16 (g_vo S3)), (a3 5, aZ E 16 (g_gi S3))], perm9 (fun a => ?_), perm9 (fun a => ?_), rfl⟩
  · simp only [cnt9_app, cnt9_cons, cnt9_nil, wG] <;> omega
  · simp only [cnt9_app, cnt9_cons, cnt9_nil, wG, g_ma, g_sh, g_mt, g_vo, g_gi, h_ma, h_sh, h_mt, h_vo, h_gi, g_sc, g_pc, g_wc] <;> omega
theorem rp_55 {E : Ev} {x0 : Nat} {b0 c0 d0 : Nat → Nat} {a1 : Nat → Nat} {h1 : Nat} {S1 : CS} {a2 : Nat → Nat} {h2 : Nat} {S2 : CS} {a3 : Nat → Nat} {S3 : HS} {f0 : Fn} : Rp (wX x0 b0 c0 d0 ++ wC E a1 h1 S1 ++ wC E a2 h2 S2 ++ wG E a3 S3) ([(a1 5, aI E 4 (c_tr S1))]) ([(a1 5, aI E 4 f0)]) (wX x0 b0 c0 d0 ++ wC E a1 h1 (p_tr S1 f0) ++ wC E a2 h2 S2 ++ wG E a3 S3) := by
  refine ⟨wX x0 b0 c0 d0 ++ [(a1 0, .inr (0, [.ref h1, .ref (a1 1), .ref (a1 2), .ref (a1 3), .ref (a1 4), .ref (a1 5), .ref (a1 6), .int (c_ni S1), .int (c_wa S1), .int (c_un S1)])), (a1 1, aI E 5 (c_st S1)), (a1 2, aI E 5 (c_ou S1)), (a1 3, aZ E 5 (c_ru S1)), (a1 4, aI E 16 (c_ca S1)), (a1 6, aI E 20 (c_ag S1))] ++ wC E a2 h2 S2 ++ wG E a3 S3, perm9 (fun a => ?_), perm9 (fun a => ?_), rfl⟩
  · simp only [cnt9_app, cnt9_cons, cnt9_nil, wC] <;> omega
  · simp only [cnt9_app, cnt9_cons, cnt9_nil, wC, c_st, c_ou, c_ru, c_ca, c_tr, c_ag, p_st, p_ou, p_ru, p_ca, p_tr, p_ag, c_ni, c_wa, c_un] <;> omega
theorem rp_56 {E : Ev} {x0 : Nat} {b0 c0 d0 : Nat → Nat} {a1 : Nat → Nat} {h1 : Nat} {S1 : CS} {a2 : Nat → Nat} {h2 : Nat} {S2 : CS} {a3 : Nat → Nat} {S3 : HS} : Rp (wX x0 b0 c0 d0 ++ wC E a1 h1 S1 ++ wC E a2 h2 S2 ++ wG E a3 S3) ([(a1 5, aI E 4 (c_tr S1))]) ([(a1 5, aI E 4 (c_tr S1))]) (wX x0 b0 c0 d0 ++ wC E a1 h1 S1 ++ wC E a2 h2 S2 ++ wG E a3 S3) := by
  refine ⟨wX x0 b0 c0 d0 ++ [(a1 0, .inr (0, [.ref h1, .ref (a1 1), .ref (a1 2), .ref (a1 3), .ref (a1 4), .ref (a1 5), .ref (a1 6), .int (c_ni S1), .int (c_wa S1), .int (c_un S1)])), (a1 1, aI E 5 (c_st S1)), (a1 2, aI E 5 (c_ou S1)), (a1 3, aZ E 5 (c_ru S1)), (a1 4, aI E 16 (c_ca S1)), (a1 6, aI E 20 (c_ag S1))] ++ wC E a2 h2 S2 ++ wG E a3 S3, perm9 (fun a => ?_), perm9 (fun a => ?_), rfl⟩
  · simp only [cnt9_app, cnt9_cons, cnt9_nil, wC] <;> omega
  · simp only [cnt9_app, cnt9_cons, cnt9_nil, wC, c_st, c_ou, c_ru, c_ca, c_tr, c_ag, p_st, p_ou, p_ru, p_ca, p_tr, p_ag, c_ni, c_wa, c_un] <;> omega
theorem rp_57 {E : Ev} {x0 : Nat} {b0 c0 d0 : Nat → Nat} {a1 : Nat → Nat} {h1 : Nat} {S1 V1 : CS} {a2 : Nat → Nat} {h2 : Nat} {S2 : CS} {a3 : Nat → Nat} {S3 : HS} : Rp (wX x0 b0 c0 d0 ++ wC E a1 h1 S1 ++ wC E a2 h2 S2 ++ wG E a3 S3) (wC E a1 h1 S1 ++ wG E a3 S3) (wC E a1 h1 V1 ++ wG E a3 S3) (wX x0 b0 c0 d0 ++ wC E a1 h1 V1 ++ wC E a2 h2 S2 ++ wG E a3 S3) := by
  refine ⟨wX x0 b0 c0 d0 ++ wC E a2 h2 S2, perm9 (fun a => ?_), perm9 (fun a => ?_), rfl⟩
  · simp only [cnt9_app, cnt9_cons, cnt9_nil] <;> omega
  · simp only [cnt9_app, cnt9_cons, cnt9_nil] <;> omega
theorem rp_58 {E : Ev} {x0 : Nat} {b0 c0 d0 : Nat → Nat} {a1 : Nat → Nat} {h1 : Nat} {S1 : CS} {a2 : Nat → Nat} {h2 : Nat} {S2 : CS} {a3 : Nat → Nat} {S3 : HS} : Rp (wX x0 b0 c0 d0 ++ wC E a1 h1 S1 ++ wC E a2 h2 S2 ++ wG E a3 S3) (wC E a1 h1 S1 ++ wG E a3 S3) (wC E a1 h1 S1 ++ wG E a3 S3) (wX x0 b0 c0 d0 ++ wC E a1 h1 S1 ++ wC E a2 h2 S2 ++ wG E a3 S3) := by
  refine ⟨wX x0 b0 c0 d0 ++ wC E a2 h2 S2, perm9 (fun a => ?_), perm9 (fun a => ?_), rfl⟩
  · simp only [cnt9_app, cnt9_cons, cnt9_nil] <;> omega
  · simp only [cnt9_app, cnt9_cons, cnt9_nil] <;> omega
theorem rp_59 {E : Ev} {x0 : Nat} {b0 c0 d0 : Nat → Nat} {a1 : Nat → Nat} {h1 : Nat} {S1 V1 : CS} {a2 : Nat → Nat} {h2 : Nat} {S2 : CS} {a3 : Nat → Nat} {S3 : HS} : Rp (wX x0 b0 c0 d0 ++ wC E a1 h1 S1 ++ wC E a2 h2 S2 ++ wG E a3 S3) (wC E a1 h1 S1) (wC E a1 h1 V1) (wX x0 b0 c0 d0 ++ wC E a1 h1 V1 ++ wC E a2 h2 S2 ++ wG E a3 S3) := by
  refine ⟨wX x0 b0 c0 d0 ++ wC E a2 h2 S2 ++ wG E a3 S3, perm9 (fun a => ?_), perm9 (fun a => ?_), rfl⟩
  · simp only [cnt9_app, cnt9_cons, cnt9_nil] <;> omega
  · simp only [cnt9_app, cnt9_cons, cnt9_nil] <;> omega
theorem rp_60 {E : Ev} {x0 : Nat} {b0 c0 d0 : Nat → Nat} {a1 : Nat → Nat} {h1 : Nat} {S1 : CS} {a2 : Nat → Nat} {h2 : Nat} {S2 : CS} {a3 : Nat → Nat} {S3 : HS} : Rp (wX x0 b0 c0 d0 ++ wC E a1 h1 S1 ++ wC E a2 h2 S2 ++ wG E a3 S3) ([(a1 2, aI E 5 (c_ou S1))]) ([(a1 2, aI E 5 (c_ou S1))]) (wX x0 b0 c0 d0 ++ wC E a1 h1 S1 ++ wC E a2 h2 S2 ++ wG E a3 S3) := by
  refine ⟨wX x0 b0 c0 d0 ++ [(a1 0, .inr (0, [.ref h1, .ref (a1 1), .ref (a1 2), .ref (a1 3), .ref (a1 4), .ref (a1 5), .ref (a1 6), .int (c_ni S1), .int (c_wa S1), .int (c_un S1)])), (a1 1, aI E 5 (c_st S1)), (a1 3, aZ E 5 (c_ru S1)), (a1 4, aI E 16 (c_ca S1)), (a1 5, aI E 4 (c_tr S1)), (a1 6, aI E 20 (c_ag S1))] ++ wC E a2 h2 S2 ++ wG E a3 S3, perm9 (fun a => ?_), perm9 (fun a => ?_), rfl⟩
  · simp only [cnt9_app, cnt9_cons, cnt9_nil, wC] <;> omega
  · simp only [cnt9_app, cnt9_cons, cnt9_nil, wC, c_st, c_ou, c_ru, c_ca, c_tr, c_ag, p_st, p_ou, p_ru, p_ca, p_tr, p_ag, c_ni, c_wa, c_un] <;> omega
theorem rp_61 {E : Ev} {x0 : Nat} {b0 c0 d0 : Nat → Nat} {a1 : Nat → Nat} {h1 : Nat} {S1 : CS} {a2 : Nat → Nat} {h2 : Nat} {S2 : CS} {a3 : Nat → Nat} {S3 : HS} : Rp (wX x0 b0 c0 d0 ++ wC E a1 h1 S1 ++ wC E a2 h2 S2 ++ wG E a3 S3) ([(a1 3, aZ E 5 (c_ru S1))]) ([(a1 3, aZ E 5 (c_ru S1))]) (wX x0 b0 c0 d0 ++ wC E a1 h1 S1 ++ wC E a2 h2 S2 ++ wG E a3 S3) := by
  refine ⟨wX x0 b0 c0 d0 ++ [(a1 0, .inr (0, [.ref h1, .ref (a1 1), .ref (a1 2), .ref (a1 3), .ref (a1 4), .ref (a1 5), .ref (a1 6), .int (c_ni S1), .int (c_wa S1), .int (c_un S1)])), (a1 1, aI E 5 (c_st S1)), (a1 2, aI E 5 (c_ou S1)), (a1 4, aI E 16 (c_ca S1)), (a1 5, aI E 4 (c_tr S1)), (a1 6, aI E 20 (c_ag S1))] ++ wC E a2 h2 S2 ++ wG E a3 S3, perm9 (fun a => ?_), perm9 (fun a => ?_), rfl⟩
  · simp only [cnt9_app, cnt9_cons, cnt9_nil, wC] <;> omega
  · simp only [cnt9_app, cnt9_cons, cnt9_nil, wC, c_st, c_ou, c_ru, c_ca, c_tr, c_ag, p_st, p_ou, p_ru, p_ca, p_tr, p_ag, c_ni, c_wa, c_un] <;> omega
theorem rp_62 {E : Ev} {x0 : Nat} {b0 c0 d0 : Nat → Nat} {a1 : Nat → Nat} {h1 : Nat} {S1 : CS} {a2 : Nat → Nat} {h2 : Nat} {S2 : CS} {a3 : Nat → Nat} {S3 : HS} : Rp (wX x0 b0 c0 d0 ++ wC E a1 h1 S1 ++ wC E a2 h2 S2 ++ wG E a3 S3) ([(a3 4, aZ E 16 (g_vo S3))]) ([(a3 4, aZ E 16 (g_vo S3))]) (wX x0 b0 c0 d0 ++ wC E a1 h1 S1 ++ wC E a2 h2 S2 ++ wG E a3 S3) := by
  refine ⟨wX x0 b0 c0 d0 ++ wC E a1 h1 S1 ++ wC E a2 h2 S2 ++ [(a3 0, .inr (1, [.int (nI (g_sc S3)), .int (nI (g_pc S3)), .int (nI (g_wc S3)), .ref (a3 1), .ref (a3 2), .ref (a3 3), .ref (a3 4), .ref (a3 5)])), (a3 1, aI E 5 (g_ma S3)), (a3 2, aI E 16 (g_sh S3)), (a3 3, aI E 16 (g_mt S3)), (a3 5, aZ E 16 (g_gi S3))], perm9 (fun a => ?_), perm9 (fun a => ?_), rfl⟩
  · simp only [cnt9_app, cnt9_cons, cnt9_nil, wG] <;> omega
  · simp only [cnt9_app, cnt9_cons, cnt9_nil, wG, g_ma, g_sh, g_mt, g_vo, g_gi, h_ma, h_sh, h_mt, h_vo, h_gi, g_sc, g_pc, g_wc] <;> omega
theorem rp_63 {E : Ev} {x0 : Nat} {b0 c0 d0 : Nat → Nat} {a1 : Nat → Nat} {h1 : Nat} {S1 : CS} {a2 : Nat → Nat} {h2 : Nat} {S2 : CS} {a3 : Nat → Nat} {S3 : HS} {f0 : FnB} : Rp (wX x0 b0 c0 d0 ++ wC E a1 h1 S1 ++ wC E a2 h2 S2 ++ wG E a3 S3) ([(a3 5, aZ E 16 (g_gi S3))]) ([(a3 5, aZ E 16 f0)]) (wX x0 b0 c0 d0 ++ wC E a1 h1 S1 ++ wC E a2 h2 S2 ++ wG E a3 (h_gi S3 f0)) := by
  refine ⟨wX x0 b0 c0 d0 ++ wC E a1 h1 S1 ++ wC E a2 h2 S2 ++ [(a3 0, .inr (1, [.int (nI (g_sc S3)), .int (nI (g_pc S3)), .int (nI (g_wc S3)), .ref (a3 1), .ref (a3 2), .ref (a3 3), .ref (a3 4), .ref (a3 5)])), (a3 1, aI E 5 (g_ma S3)), (a3 2, aI E 16 (g_sh S3)), (a3 3, aI E 16 (g_mt S3)), (a3 4, aZ E 16 (g_vo S3))], perm9 (fun a => ?_), perm9 (fun a => ?_), rfl⟩
  · simp only [cnt9_app, cnt9_cons, cnt9_nil, wG] <;> omega
  · simp only [cnt9_app, cnt9_cons, cnt9_nil, wG, g_ma, g_sh, g_mt, g_vo, g_gi, h_ma, h_sh, h_mt, h_vo, h_gi, g_sc, g_pc, g_wc] <;> omega
theorem rp_64 {E : Ev} {x0 : Nat} {b0 c0 d0 : Nat → Nat} {a1 : Nat → Nat} {h1 : Nat} {S1 : CS} {a2 : Nat → Nat} {h2 : Nat} {S2 : CS} {a3 : Nat → Nat} {S3 : HS} : Rp (wX x0 b0 c0 d0 ++ wC E a1 h1 S1 ++ wC E a2 h2 S2 ++ wG E a3 S3) ([(a3 5, aZ E 16 (g_gi S3))]) ([(a3 5, aZ E 16 (g_gi S3))]) (wX x0 b0 c0 d0 ++ wC E a1 h1 S1 ++ wC E a2 h2 S2 ++ wG E a3 S3) := by
  refine ⟨wX x0 b0 c0 d0 ++ wC E a1 h1 S1 ++ wC E a2 h2 S2 ++ [(a3 0, .inr (1, [.int (nI (g_sc S3)), .int (nI (g_pc S3)), .int (nI (g_wc S3)), .ref (a3 1), .ref (a3 2), .ref (a3 3), .ref (a3 4), .ref (a3 5)])), (a3 1, aI E 5 (g_ma S3)), (a3 2, aI E 16 (g_sh S3)), (a3 3, aI E 16 (g_mt S3)), (a3 4, aZ E 16 (g_vo S3))], perm9 (fun a => ?_), perm9 (fun a => ?_), rfl⟩
  · simp only [cnt9_app, cnt9_cons, cnt9_nil, wG] <;> omega
  · simp only [cnt9_app, cnt9_cons, cnt9_nil, wG, g_ma, g_sh, g_mt, g_vo, g_gi, h_ma, h_sh, h_mt, h_vo, h_gi, g_sc, g_pc, g_wc] <;> omega
theorem rp_65 {E : Ev} {x0 : Nat} {b0 c0 d0 : Nat → Nat} {a1 : Nat → Nat} {h1 : Nat} {S1 : CS} {a2 : Nat → Nat} {h2 : Nat} {S2 : CS} {a3 : Nat → Nat} {S3 : HS} : Rp (wX x0 b0 c0 d0 ++ wC E a1 h1 S1 ++ wC E a2 h2 S2 ++ wG E a3 S3) (([] : va_W)) (([] : va_W)) (wX x0 b0 c0 d0 ++ wC E a1 h1 S1 ++ wC E a2 h2 S2 ++ wG E a3 S3) := by
  refine ⟨wX x0 b0 c0 d0 ++ wC E a1 h1 S1 ++ wC E a2 h2 S2 ++ wG E a3 S3, perm9 (fun a => ?_), perm9 (fun a => ?_), rfl⟩
  · simp only [cnt9_app, cnt9_cons, cnt9_nil] <;> omega
  · simp only [cnt9_app, cnt9_cons, cnt9_nil] <;> omega
theorem rp_66 {E : Ev} {x0 : Nat} {b0 c0 d0 : Nat → Nat} {a1 : Nat → Nat} {h1 : Nat} {S1 : CS} {a2 : Nat → Nat} {h2 : Nat} {S2 : CS} {a3 : Nat → Nat} {S3 : HS} : Rp (wX x0 b0 c0 d0 ++ wC E a1 h1 S1 ++ wC E a2 h2 S2 ++ wG E a3 S3) ([(a3 3, aI E 16 (g_mt S3))]) ([(a3 3, aI E 16 (g_mt S3))]) (wX x0 b0 c0 d0 ++ wC E a1 h1 S1 ++ wC E a2 h2 S2 ++ wG E a3 S3) := by
  refine ⟨wX x0 b0 c0 d0 ++ wC E a1 h1 S1 ++ wC E a2 h2 S2 ++ [(a3 0, .inr (1, [.int (nI (g_sc S3)), .int (nI (g_pc S3)), .int (nI (g_wc S3)), .ref (a3 1), .ref (a3 2), .ref (a3 3), .ref (a3 4), .ref (a3 5)])), (a3 1, aI E 5 (g_ma S3)), (a3 2, aI E 16 (g_sh S3)), (a3 4, aZ E 16 (g_vo S3)), (a3 5, aZ E 16 (g_gi S3))], perm9 (fun a => ?_), perm9 (fun a => ?_), rfl⟩
  · simp only [cnt9_app, cnt9_cons, cnt9_nil, wG] <;> omega
  · simp only [cnt9_app, cnt9_cons, cnt9_nil, wG, g_ma, g_sh, g_mt, g_vo, g_gi, h_ma, h_sh, h_mt, h_vo, h_gi, g_sc, g_pc, g_wc] <;> omega
theorem rp_67 {E : Ev} {x0 : Nat} {b0 c0 d0 : Nat → Nat} {a1 : Nat → Nat} {h1 : Nat} {S1 : CS} {a2 : Nat → Nat} {h2 : Nat} {S2 : CS} {a3 : Nat → Nat} {S3 : HS} : Rp (wX x0 b0 c0 d0 ++ wC E a1 h1 S1 ++ wC E a2 h2 S2 ++ wG E a3 S3) ([(a1 4, aI E 16 (c_ca S1))]) ([(a1 4, aI E 16 (c_ca S1))]) (wX x0 b0 c0 d0 ++ wC E a1 h1 S1 ++ wC E a2 h2 S2 ++ wG E a3 S3) := by
  refine ⟨wX x0 b0 c0 d0 ++ [(a1 0, .inr (0, [.ref h1, .ref (a1 1), .ref (a1 2), .ref (a1 3), .ref (a1 4), .ref (a1 5), .ref (a1 6), .int (c_ni S1), .int (c_wa S1), .int (c_un S1)])), (a1 1, aI E 5 (c_st S1)), (a1 2, aI E 5 (c_ou S1)), (a1 3, aZ E 5 (c_ru S1)), (a1 5, aI E 4 (c_tr S1)), (a1 6, aI E 20 (c_ag S1))] ++ wC E a2 h2 S2 ++ wG E a3 S3, perm9 (fun a => ?_), perm9 (fun a => ?_), rfl⟩
  · simp only [cnt9_app, cnt9_cons, cnt9_nil, wC] <;> omega
  · simp only [cnt9_app, cnt9_cons, cnt9_nil, wC, c_st, c_ou, c_ru, c_ca, c_tr, c_ag, p_st, p_ou, p_ru, p_ca, p_tr, p_ag, c_ni, c_wa, c_un] <;> omega
theorem rp_68 {E : Ev} {x0 : Nat} {b0 c0 d0 : Nat → Nat} {a1 : Nat → Nat} {h1 : Nat} {S1 : CS} {a2 : Nat → Nat} {h2 : Nat} {S2 V2 : CS} {a3 : Nat → Nat} {S3 : HS} : Rp (wX x0 b0 c0 d0 ++ wC E a1 h1 S1 ++ wC E a2 h2 S2 ++ wG E a3 S3) (wC E a2 h2 S2 ++ wC E a1 h1 S1) (wC E a2 h2 V2 ++ wC E a1 h1 S1) (wX x0 b0 c0 d0 ++ wC E a1 h1 S1 ++ wC E a2 h2 V2 ++ wG E a3 S3) := by
  refine ⟨wX x0 b0 c0 d0 ++ wG E a3 S3, perm9 (fun a => ?_), perm9 (fun a => ?_), rfl⟩
  · simp only [cnt9_app, cnt9_cons, cnt9_nil] <;> omega
  · simp only [cnt9_app, cnt9_cons, cnt9_nil] <;> omega
theorem rp_69 {E : Ev} {x0 : Nat} {b0 c0 d0 : Nat → Nat} {a1 : Nat → Nat} {h1 : Nat} {S1 : CS} {a2 : Nat → Nat} {h2 : Nat} {S2 : CS} {a3 : Nat → Nat} {S3 : HS} : Rp (wX x0 b0 c0 d0 ++ wC E a1 h1 S1 ++ wC E a2 h2 S2 ++ wG E a3 S3) (wC E a2 h2 S2 ++ wC E a1 h1 S1) (wC E a2 h2 S2 ++ wC E a1 h1 S1) (wX x0 b0 c0 d0 ++ wC E a1 h1 S1 ++ wC E a2 h2 S2 ++ wG E a3 S3) := by
  refine ⟨wX x0 b0 c0 d0 ++ wG E a3 S3, perm9 (fun a => ?_), perm9 (fun a => ?_), rfl⟩
  · simp only [cnt9_app, cnt9_cons, cnt9_nil] <;> omega
  · simp only [cnt9_app, cnt9_cons, cnt9_nil] <;> omega
theorem rp_70 {E : Ev} {x0 : Nat} {b0 c0 d0 : Nat → Nat} {a1 : Nat → Nat} {h1 : Nat} {S1 : CS} {a2 : Nat → Nat} {h2 : Nat} {S2 : CS} {a3 : Nat → Nat} {S3 : HS} : Rp (wX x0 b0 c0 d0 ++ wC E a1 h1 S1 ++ wC E a2 h2 S2 ++ wG E a3 S3) (wC E a2 h2 S2 ++ wG E a3 S3) (wC E a2 h2 S2 ++ wG E a3 S3) (wX x0 b0 c0 d0 ++ wC E a1 h1 S1 ++ wC E a2 h2 S2 ++ wG E a3 S3) := by
  refine ⟨wX x0 b0 c0 d0 ++ wC E a1 h1 S1, perm9 (fun a => ?_), perm9 (fun a => ?_), rfl⟩
  · simp only [cnt9_app, cnt9_cons, cnt9_nil] <;> omega
  · simp only [cnt9_app, cnt9_cons, cnt9_nil] <;> omega
theorem rp_71 {E : Ev} {x0 : Nat} {b0 c0 d0 : Nat → Nat} {a1 : Nat → Nat} {h1 : Nat} {S1 : CS} {a2 : Nat → Nat} {h2 : Nat} {S2 V2 : CS} {a3 : Nat → Nat} {S3 : HS} : Rp (wX x0 b0 c0 d0 ++ wC E a1 h1 S1 ++ wC E a2 h2 S2 ++ wG E a3 S3) (wC E a2 h2 S2 ++ wG E a3 S3) (wC E a2 h2 V2 ++ wG E a3 S3) (wX x0 b0 c0 d0 ++ wC E a1 h1 S1 ++ wC E a2 h2 V2 ++ wG E a3 S3) := by
  refine ⟨wX x0 b0 c0 d0 ++ wC E a1 h1 S1, perm9 (fun a => ?_), perm9 (fun a => ?_), rfl⟩
  · simp only [cnt9_app, cnt9_cons, cnt9_nil] <;> omega
  · simp only [cnt9_app, cnt9_cons, cnt9_nil] <;> omega
theorem rp_72 {E : Ev} {x0 : Nat} {b0 c0 d0 : Nat → Nat} {a1 : Nat → Nat} {h1 : Nat} {S1 : CS} {a2 : Nat → Nat} {h2 : Nat} {S2 V2 : CS} {a3 : Nat → Nat} {S3 : HS} : Rp (wX x0 b0 c0 d0 ++ wC E a1 h1 S1 ++ wC E a2 h2 S2 ++ wG E a3 S3) (wX x0 b0 c0 d0 ++ wC E a1 h1 S1 ++ wC E a2 h2 S2 ++ wG E a3 S3) (wX x0 b0 c0 d0 ++ wC E a1 h1 S1 ++ wC E a2 h2 V2 ++ wG E a3 S3) (wX x0 b0 c0 d0 ++ wC E a1 h1 S1 ++ wC E a2 h2 V2 ++ wG E a3 S3) := by
  refine ⟨([] : va_W), perm9 (fun a => ?_), perm9 (fun a => ?_), rfl⟩
  · simp only [cnt9_app, cnt9_cons, cnt9_nil] <;> omega
  · simp only [cnt9_app, cnt9_cons, cnt9_nil] <;> omega
