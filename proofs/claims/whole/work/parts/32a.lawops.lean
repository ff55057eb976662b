set_option maxHeartbeats 4000000 in
set_option maxRecDepth 100000 in
theorem la_addShip_1 {p9 : Program} {l : Launch} {e : Env} {s9 : State} {m : MethodId} {below : List Frame} {meth : Method} {c : Code} {b L : Nat} {xs : Nat → Int32} (C0 : lw_At p9 s9 m meth c b L xs) (hflags : l.stackTraces = false) (hL : L ≤ 2048) (E : Ev) (hK : va_K E.1 vwCl (tysE E) s9) (hG : Gx s9) (hZ : Zx (aL s9) s9 s9.heap) {Q : State → Prop} (x o : Nat) (A T B M : Nat → Nat) (S U : CS) (G : HS) (th : Int32) (Hb : MH) (a k : Fn) (f : Nat → Int64) (i cells slots : Nat) (hi : i + 4 ≤ L) (z1 : Int32) (e1 : xs (i + 1) = z1) (hy0 : t_addShip G z1 = 3) (hy1 : n_ns Hb ≤ 5) (hy2 : n_np Hb ≤ 16) (hy3 : n_nw Hb ≤ 4) (hy4 : ∀ p, p < n_np Hb → n_so Hb p < 5) (hy5 : d_in z1 1 3 = false) (hc9 : cells + 30 ≤ 1033879) (hs9 : slots + 200 ≤ 5994467) (kk : ∀ (U1 : CS) (f1 : Nat → Int64) (t1 : Int32) (k1 : Fn) (H : Heap) (locs : List Loc) (ls : Array Slot), Wd E (aL s9) s9.heap (wX x A T B ++ wC E A (B 0) S ++ wC E T (B 0) U1 ++ wG E B G ++ [(o, aJ E 1 f1)] ++ wN E M (t1, Hb, a, k1)) H locs → lv_has ls 9 [(0, .ref b), (1, .ref x), (2, .ref (M 0)), (3, .ref o), (4, .int (nI i))] → W p9 l e room_1 s9 m #[Value.ref b] below meth c H locs (cells + 30) (slots + 200) Q (F0 m 2161 ls [])) {H : Heap} {locs : List Loc} {ls : Array Slot} (hw : Wd E (aL s9) s9.heap (wX x A T B ++ wC E A (B 0) S ++ wC E T (B 0) U ++ wG E B G ++ [(o, aJ E 1 f)] ++ wN E M (th, Hb, a, k)) H locs) (hl : lv_has ls 9 [(0, .ref b), (1, .ref x), (2, .ref (M 0)), (3, .ref o), (4, .int (nI i))]) : W p9 l e room_1 s9 m #[Value.ref b] below meth c H locs cells slots Q (F0 m 216 ls []) := by
  obtain ⟨hx, hb, hr, hml, hown, hts0, hX, hbl, hlocks, hgv⟩ := C0
  have hts : ∀ w ∈ wsL_law, w.before #[Value.ref b] s9 = true := fun w h => hts0 w (wsL_law_in w h)
  have hown : s9.vm.findClass RL = some m.cls := hown
  have hA : ∀ q, s9.heap.size ≤ q → aL s9 q := fun _ h => h
  refine lv_aload_n hx hb dL_law_216 rfl (lv_at hl 1 rfl) ?_
  refine lv_aload_n hx hb dL_law_217 rfl (lv_at hl 0 rfl) ?_
  refine lv_iload hx hb dL_law_218 (lv_at hl 4 rfl) ?_
  refine lv_iconst (v := 1) hx hb dL_law_220 (by decide) ?_
  refine k_iaddN (a := i) (b := 1) hx hb dL_law_221 ?_
  refine k_sldv (i := i + 1) (v := z1) hx hb hX hbl hw (by omega) (by omega) e1 dL_law_222 ?_
  refine lv_aload_n hx hb dL_law_223 rfl (lv_at hl 3 rfl) ?_
  refine krx_i (ws' := wX x A T B ++ wC E A (B 0) S ++ wC E T (B 0) U ++ wG E B G ++ [(o, aJ E 1 f)] ++ wN E M (th, Hb, a, k)) (vx_runSX (As := [.ref x, .int z1, .ref o]) (rest := []) ⟨hx, hb, hml, hown, hts⟩ (c_L_addShip_3 l hflags E x A T B S U G z1 o f hy0 _) (vx_cwSW 3 hts gL_law_L_addShip rfl rfl rfl hd_L_addShip ⟨Nat.le_of_ble_eq_true rfl, Nat.le_of_ble_eq_true rfl⟩) (rpX (AV := [.ref x, .int z1, .ref o]) hw hK hG hZ hA rp_86) rfl rfl hl.1 rfl (lv_room (Nat.le_of_ble_eq_true rfl)) dL_law_224 ⟨(show cells + 1 ≤ 1033879 by omega), (show slots + 6 ≤ 5994467 by omega)⟩) hw hA rp_86 rp_86 (fun H locs ce9 q9 t_1 hw hy1 hy2 hy3 => absurd rfl t_1) (fun H locs t_1 hw => ?_)
  refine lv_istore (lv' := [(5, .int 1), (0, .ref b), (1, .ref x), (2, .ref (M 0)), (3, .ref o), (4, .int (nI i))]) hx hb dL_law_227 hl (by decide) rfl (fun ls hl => ?_)
  refine lv_aload_n hx hb dL_law_229 rfl (lv_at hl 3 rfl) ?_
  refine lv_aload_n hx hb dL_law_230 rfl (lv_at hl 1 rfl) ?_
  refine lv_iload hx hb dL_law_231 (lv_at hl 5 rfl) ?_
  refine lv_iconst (v := 1) hx hb dL_law_233 (by decide) ?_
  refine k_iaddN (a := i) (b := 1) hx hb dL_law_234 ?_
  refine k_sldv (i := i + 1) (v := z1) hx hb hX hbl hw (by omega) (by omega) e1 dL_law_235 ?_
  refine kr_i (ws' := wX x A T B ++ wC E A (B 0) S ++ wC E T (B 0) U ++ wG E B G ++ [(o, aJ E 1 f)] ++ wN E M (1, Hb, a, k)) (va_runV (As := [.int z1]) (rest := []) ⟨hx, hb, hml, hown, hts⟩ (c_X3_addShip_1 l E M th Hb a k z1 hy1 hy2 hy3 hy4 hy5 _) (cwV 1 hts gL_law_X3_addShip rfl rfl rfl ⟨rfl, hd_X3_addShip⟩ ⟨Nat.le_of_ble_eq_true rfl, Nat.le_of_ble_eq_true rfl⟩) (pwV (ci := 3) (q0 := 22) (C := RX3) hw hK rfl rfl rfl (rpS (AV := [.ref (M 0), .int z1]) hw hK hG rp_88)) rfl rfl hl.1 rfl (lv_room (Nat.le_of_ble_eq_true rfl)) dL_law_236 ⟨(show cells + 1 + 0 ≤ 1033879 by omega), (show slots + 6 + 0 ≤ 5994467 by omega)⟩) hw hA rp_87 (fun H locs hw => ?_)
  refine lv_istore (lv' := [(6, .int 0), (5, .int 1), (0, .ref b), (1, .ref x), (2, .ref (M 0)), (3, .ref o), (4, .int (nI i))]) hx hb dL_law_239 hl (by decide) rfl (fun ls hl => ?_)
  refine lv_aload_n hx hb dL_law_241 rfl (lv_at hl 4 rfl) ?_
  refine kr_i (ws' := wX x A T B ++ wC E A (B 0) S ++ wC E T (B 0) U ++ wG E B G ++ [(o, aJ E 1 f)] ++ wN E M (1, Hb, a, k)) (va_runV (As := []) (rest := []) ⟨hx, hb, hml, hown, hts⟩ (c_X3_thrown l E M 1 Hb a k  _) (cwV 0 hts gL_law_X3_thrown rfl rfl rfl ⟨rfl, hd_X3_thrown⟩ ⟨Nat.le_of_ble_eq_true rfl, Nat.le_of_ble_eq_true rfl⟩) (pwV (ci := 3) (q0 := 22) (C := RX3) hw hK rfl rfl rfl (rpS (AV := [.ref (M 0)]) hw hK hG rp_88)) rfl rfl hl.1 rfl (lv_room (Nat.le_of_ble_eq_true rfl)) dL_law_242 ⟨(show cells + 1 + 0 ≤ 1033879 by omega), (show slots + 6 + 0 ≤ 5994467 by omega)⟩) hw hA rp_88 (fun H locs hw => ?_)
  refine lv_iload hx hb dL_law_245 (lv_at hl 1 rfl) ?_
  refine lv_icmp_eq (tgt := 252) hx hb dL_law_247 (by decide) (fun _ => ?_) (fun q8 => absurd (by decide) q8)
  refine lv_iload hx hb dL_law_252 (lv_at hl 1 rfl) ?_
  refine lv_if_ne (tgt := 269) hx hb dL_law_254 (by decide) (fun _ => ?_) (fun q8 => absurd q8 (by decide))
  refine lv_goto (tgt := 2161) hx hb dL_law_269 (by decide) ?_
  refine W.widen (k := cells + 30) (n := slots + 200) (show cells + 1 ≤ cells + 30 by omega) (show slots + 6 ≤ slots + 200 by omega) ?_
  exact kk U f 1 k _ _ _ hw (lv_sub hl [2, 3, 4, 5, 6] rfl)

set_option maxHeartbeats 4000000 in
set_option maxRecDepth 100000 in
theorem la_addShip_2 {p9 : Program} {l : Launch} {e : Env} {s9 : State} {m : MethodId} {below : List Frame} {meth : Method} {c : Code} {b L : Nat} {xs : Nat → Int32} (C0 : lw_At p9 s9 m meth c b L xs) (hflags : l.stackTraces = false) (hL : L ≤ 2048) (E : Ev) (hK : va_K E.1 vwCl (tysE E) s9) (hG : Gx s9) (hZ : Zx (aL s9) s9 s9.heap) {Q : State → Prop} (x o : Nat) (A T B M : Nat → Nat) (S U : CS) (G : HS) (th : Int32) (Hb : MH) (a k : Fn) (f : Nat → Int64) (i cells slots : Nat) (hi : i + 4 ≤ L) (z1 : Int32) (e1 : xs (i + 1) = z1) (hy0 : t_addShip G z1 = 2) (hy1 : n_ns Hb ≤ 5) (hy2 : n_np Hb ≤ 16) (hy3 : n_nw Hb ≤ 4) (hy4 : ∀ p, p < n_np Hb → n_so Hb p < 5) (hy5 : d_in z1 1 3 = true) (hy6 : n_ns Hb = 5) (hc9 : cells + 30 ≤ 1033879) (hs9 : slots + 200 ≤ 5994467) (kk : ∀ (U1 : CS) (f1 : Nat → Int64) (t1 : Int32) (k1 : Fn) (H : Heap) (locs : List Loc) (ls : Array Slot), Wd E (aL s9) s9.heap (wX x A T B ++ wC E A (B 0) S ++ wC E T (B 0) U1 ++ wG E B G ++ [(o, aJ E 1 f1)] ++ wN E M (t1, Hb, a, k1)) H locs → lv_has ls 9 [(0, .ref b), (1, .ref x), (2, .ref (M 0)), (3, .ref o), (4, .int (nI i))] → W p9 l e room_1 s9 m #[Value.ref b] below meth c H locs (cells + 30) (slots + 200) Q (F0 m 2161 ls [])) {H : Heap} {locs : List Loc} {ls : Array Slot} (hw : Wd E (aL s9) s9.heap (wX x A T B ++ wC E A (B 0) S ++ wC E T (B 0) U ++ wG E B G ++ [(o, aJ E 1 f)] ++ wN E M (th, Hb, a, k)) H locs) (hl : lv_has ls 9 [(0, .ref b), (1, .ref x), (2, .ref (M 0)), (3, .ref o), (4, .int (nI i))]) : W p9 l e room_1 s9 m #[Value.ref b] below meth c H locs cells slots Q (F0 m 216 ls []) := by
  obtain ⟨hx, hb, hr, hml, hown, hts0, hX, hbl, hlocks, hgv⟩ := C0
  have hts : ∀ w ∈ wsL_law, w.before #[Value.ref b] s9 = true := fun w h => hts0 w (wsL_law_in w h)
  have hown : s9.vm.findClass RL = some m.cls := hown
  have hA : ∀ q, s9.heap.size ≤ q → aL s9 q := fun _ h => h
  refine lv_aload_n hx hb dL_law_216 rfl (lv_at hl 1 rfl) ?_
  refine lv_aload_n hx hb dL_law_217 rfl (lv_at hl 0 rfl) ?_
  refine lv_iload hx hb dL_law_218 (lv_at hl 4 rfl) ?_
  refine lv_iconst (v := 1) hx hb dL_law_220 (by decide) ?_
  refine k_iaddN (a := i) (b := 1) hx hb dL_law_221 ?_
  refine k_sldv (i := i + 1) (v := z1) hx hb hX hbl hw (by omega) (by omega) e1 dL_law_222 ?_
  refine lv_aload_n hx hb dL_law_223 rfl (lv_at hl 3 rfl) ?_
  refine krx_i (ws' := wX x A T B ++ wC E A (B 0) S ++ wC E T (B 0) U ++ wG E B G ++ [(o, aJ E 1 f)] ++ wN E M (th, Hb, a, k)) (vx_runSX (As := [.ref x, .int z1, .ref o]) (rest := []) ⟨hx, hb, hml, hown, hts⟩ (c_L_addShip_2 l hflags E x A T B S U G z1 o f hy0 _) (vx_cwSW 3 hts gL_law_L_addShip rfl rfl rfl hd_L_addShip ⟨Nat.le_of_ble_eq_true rfl, Nat.le_of_ble_eq_true rfl⟩) (rpX (AV := [.ref x, .int z1, .ref o]) hw hK hG hZ hA rp_86) rfl rfl hl.1 rfl (lv_room (Nat.le_of_ble_eq_true rfl)) dL_law_224 ⟨(show cells + 1 ≤ 1033879 by omega), (show slots + 6 ≤ 5994467 by omega)⟩) hw hA rp_86 rp_86 (fun H locs ce9 q9 t_1 hw hy1 hy2 hy3 => absurd rfl t_1) (fun H locs t_1 hw => ?_)
  refine lv_istore (lv' := [(5, .int 2), (0, .ref b), (1, .ref x), (2, .ref (M 0)), (3, .ref o), (4, .int (nI i))]) hx hb dL_law_227 hl (by decide) rfl (fun ls hl => ?_)
  refine lv_aload_n hx hb dL_law_229 rfl (lv_at hl 3 rfl) ?_
  refine lv_aload_n hx hb dL_law_230 rfl (lv_at hl 1 rfl) ?_
  refine lv_iload hx hb dL_law_231 (lv_at hl 5 rfl) ?_
  refine lv_iconst (v := 1) hx hb dL_law_233 (by decide) ?_
  refine k_iaddN (a := i) (b := 1) hx hb dL_law_234 ?_
  refine k_sldv (i := i + 1) (v := z1) hx hb hX hbl hw (by omega) (by omega) e1 dL_law_235 ?_
  refine kr_i (ws' := wX x A T B ++ wC E A (B 0) S ++ wC E T (B 0) U ++ wG E B G ++ [(o, aJ E 1 f)] ++ wN E M (2, Hb, a, k)) (va_runV (As := [.int z1]) (rest := []) ⟨hx, hb, hml, hown, hts⟩ (c_X3_addShip_2 l E M th Hb a k z1 hy1 hy2 hy3 hy4 hy5 hy6 _) (cwV 1 hts gL_law_X3_addShip rfl rfl rfl ⟨rfl, hd_X3_addShip⟩ ⟨Nat.le_of_ble_eq_true rfl, Nat.le_of_ble_eq_true rfl⟩) (pwV (ci := 3) (q0 := 22) (C := RX3) hw hK rfl rfl rfl (rpS (AV := [.ref (M 0), .int z1]) hw hK hG rp_88)) rfl rfl hl.1 rfl (lv_room (Nat.le_of_ble_eq_true rfl)) dL_law_236 ⟨(show cells + 1 + 0 ≤ 1033879 by omega), (show slots + 6 + 0 ≤ 5994467 by omega)⟩) hw hA rp_87 (fun H locs hw => ?_)
  refine lv_istore (lv' := [(6, .int 0), (5, .int 2), (0, .ref b), (1, .ref x), (2, .ref (M 0)), (3, .ref o), (4, .int (nI i))]) hx hb dL_law_239 hl (by decide) rfl (fun ls hl => ?_)
  refine lv_aload_n hx hb dL_law_241 rfl (lv_at hl 4 rfl) ?_
  refine kr_i (ws' := wX x A T B ++ wC E A (B 0) S ++ wC E T (B 0) U ++ wG E B G ++ [(o, aJ E 1 f)] ++ wN E M (2, Hb, a, k)) (va_runV (As := []) (rest := []) ⟨hx, hb, hml, hown, hts⟩ (c_X3_thrown l E M 2 Hb a k  _) (cwV 0 hts gL_law_X3_thrown rfl rfl rfl ⟨rfl, hd_X3_thrown⟩ ⟨Nat.le_of_ble_eq_true rfl, Nat.le_of_ble_eq_true rfl⟩) (pwV (ci := 3) (q0 := 22) (C := RX3) hw hK rfl rfl rfl (rpS (AV := [.ref (M 0)]) hw hK hG rp_88)) rfl rfl hl.1 rfl (lv_room (Nat.le_of_ble_eq_true rfl)) dL_law_242 ⟨(show cells + 1 + 0 ≤ 1033879 by omega), (show slots + 6 + 0 ≤ 5994467 by omega)⟩) hw hA rp_88 (fun H locs hw => ?_)
  refine lv_iload hx hb dL_law_245 (lv_at hl 1 rfl) ?_
  refine lv_icmp_eq (tgt := 252) hx hb dL_law_247 (by decide) (fun _ => ?_) (fun q8 => absurd (by decide) q8)
  refine lv_iload hx hb dL_law_252 (lv_at hl 1 rfl) ?_
  refine lv_if_ne (tgt := 269) hx hb dL_law_254 (by decide) (fun _ => ?_) (fun q8 => absurd q8 (by decide))
  refine lv_goto (tgt := 2161) hx hb dL_law_269 (by decide) ?_
  refine W.widen (k := cells + 30) (n := slots + 200) (show cells + 1 ≤ cells + 30 by omega) (show slots + 6 ≤ slots + 200 by omega) ?_
  exact kk U f 2 k _ _ _ hw (lv_sub hl [2, 3, 4, 5, 6] rfl)

set_option maxHeartbeats 4000000 in
set_option maxRecDepth 100000 in
theorem la_addShip {p9 : Program} {l : Launch} {e : Env} {s9 : State} {m : MethodId} {below : List Frame} {meth : Method} {c : Code} {b L : Nat} {xs : Nat → Int32} (C0 : lw_At p9 s9 m meth c b L xs) (hflags : l.stackTraces = false) (hL : L ≤ 2048) (E : Ev) (hK : va_K E.1 vwCl (tysE E) s9) (hG : Gx s9) (hZ : Zx (aL s9) s9 s9.heap) {Q : State → Prop} (x o : Nat) (A T B M : Nat → Nat) (S U : CS) (G : HS) (th : Int32) (Hb : MH) (a k : Fn) (f : Nat → Int64) (i cells slots : Nat) (hi : i + 4 ≤ L) (z1 : Int32) (e1 : xs (i + 1) = z1) (hy0 : t_addShip G z1 = 0) (hy1 : n_ns Hb ≤ 5) (hy2 : n_np Hb ≤ 16) (hy3 : n_nw Hb ≤ 4) (hy4 : ∀ p, p < n_np Hb → n_so Hb p < 5) (hy5 : d_in z1 1 3 = true) (hy6 : n_ns Hb < 5) (hy7 : (nI (g_sc G) : Int32).toInt64 = (nI (n_ns Hb) : Int32).toInt64) (hc9 : cells + 30 ≤ 1033879) (hs9 : slots + 200 ≤ 5994467) (kk : ∀ (U1 : CS) (f1 : Nat → Int64) (t1 : Int32) (k1 : Fn) (H : Heap) (locs : List Loc) (ls : Array Slot), Wd E (aL s9) s9.heap (wX x A T B ++ wC E A (B 0) S ++ wC E T (B 0) U1 ++ wG E B (f_eship G z1) ++ [(o, aJ E 1 f1)] ++ wN E M (t1, o_ns (o_ma Hb (upd (n_ma Hb) (n_ns Hb) z1)) (n_ns Hb + 1), a, k1)) H locs → lv_has ls 9 [(0, .ref b), (1, .ref x), (2, .ref (M 0)), (3, .ref o), (4, .int (nI i))] → W p9 l e room_1 s9 m #[Value.ref b] below meth c H locs (cells + 30) (slots + 200) Q (F0 m 2161 ls [])) {H : Heap} {locs : List Loc} {ls : Array Slot} (hw : Wd E (aL s9) s9.heap (wX x A T B ++ wC E A (B 0) S ++ wC E T (B 0) U ++ wG E B G ++ [(o, aJ E 1 f)] ++ wN E M (th, Hb, a, k)) H locs) (hl : lv_has ls 9 [(0, .ref b), (1, .ref x), (2, .ref (M 0)), (3, .ref o), (4, .int (nI i))]) : W p9 l e room_1 s9 m #[Value.ref b] below meth c H locs cells slots Q (F0 m 216 ls []) := by
  obtain ⟨hx, hb, hr, hml, hown, hts0, hX, hbl, hlocks, hgv⟩ := C0
  have hts : ∀ w ∈ wsL_law, w.before #[Value.ref b] s9 = true := fun w h => hts0 w (wsL_law_in w h)
  have hown : s9.vm.findClass RL = some m.cls := hown
  have hA : ∀ q, s9.heap.size ≤ q → aL s9 q := fun _ h => h
  refine lv_aload_n hx hb dL_law_216 rfl (lv_at hl 1 rfl) ?_
  refine lv_aload_n hx hb dL_law_217 rfl (lv_at hl 0 rfl) ?_
  refine lv_iload hx hb dL_law_218 (lv_at hl 4 rfl) ?_
  refine lv_iconst (v := 1) hx hb dL_law_220 (by decide) ?_
  refine k_iaddN (a := i) (b := 1) hx hb dL_law_221 ?_
  refine k_sldv (i := i + 1) (v := z1) hx hb hX hbl hw (by omega) (by omega) e1 dL_law_222 ?_
  refine lv_aload_n hx hb dL_law_223 rfl (lv_at hl 3 rfl) ?_
  refine krx_i (ws' := wX x A T B ++ wC E A (B 0) S ++ wC E T (B 0) U ++ wG E B (f_eship G z1) ++ [(o, aJ E 1 (vp_updL f 0 ((nI (g_sc G) : Int32).toInt64)))] ++ wN E M (th, Hb, a, k)) (vx_runSX (As := [.ref x, .int z1, .ref o]) (rest := []) ⟨hx, hb, hml, hown, hts⟩ (c_L_addShip l hflags E x A T B S U G z1 o f hy0 _) (vx_cwSW 3 hts gL_law_L_addShip rfl rfl rfl hd_L_addShip ⟨Nat.le_of_ble_eq_true rfl, Nat.le_of_ble_eq_true rfl⟩) (rpX (AV := [.ref x, .int z1, .ref o]) hw hK hG hZ hA rp_86) rfl rfl hl.1 rfl (lv_room (Nat.le_of_ble_eq_true rfl)) dL_law_224 ⟨(show cells + 1 ≤ 1033879 by omega), (show slots + 6 ≤ 5994467 by omega)⟩) hw hA rp_89 rp_86 (fun H locs ce9 q9 t_1 hw hy1 hy2 hy3 => absurd rfl t_1) (fun H locs t_1 hw => ?_)
  refine lv_istore (lv' := [(5, .int 0), (0, .ref b), (1, .ref x), (2, .ref (M 0)), (3, .ref o), (4, .int (nI i))]) hx hb dL_law_227 hl (by decide) rfl (fun ls hl => ?_)
  refine lv_aload_n hx hb dL_law_229 rfl (lv_at hl 3 rfl) ?_
  refine lv_aload_n hx hb dL_law_230 rfl (lv_at hl 1 rfl) ?_
  refine lv_iload hx hb dL_law_231 (lv_at hl 5 rfl) ?_
  refine lv_iconst (v := 1) hx hb dL_law_233 (by decide) ?_
  refine k_iaddN (a := i) (b := 1) hx hb dL_law_234 ?_
  refine k_sldv (i := i + 1) (v := z1) hx hb hX hbl hw (by omega) (by omega) e1 dL_law_235 ?_
  refine kr_i (ws' := wX x A T B ++ wC E A (B 0) S ++ wC E T (B 0) U ++ wG E B (f_eship G z1) ++ [(o, aJ E 1 (vp_updL f 0 ((nI (g_sc G) : Int32).toInt64)))] ++ wN E M (0, o_ns (o_ma Hb (upd (n_ma Hb) (n_ns Hb) z1)) (n_ns Hb + 1), a, k)) (va_runV (As := [.int z1]) (rest := []) ⟨hx, hb, hml, hown, hts⟩ (c_X3_addShip l E M th Hb a k z1 hy1 hy2 hy3 hy4 hy5 hy6 _) (cwV 1 hts gL_law_X3_addShip rfl rfl rfl ⟨rfl, hd_X3_addShip⟩ ⟨Nat.le_of_ble_eq_true rfl, Nat.le_of_ble_eq_true rfl⟩) (pwV (ci := 3) (q0 := 22) (C := RX3) hw hK rfl rfl rfl (rpS (AV := [.ref (M 0), .int z1]) hw hK hG rp_88)) rfl rfl hl.1 rfl (lv_room (Nat.le_of_ble_eq_true rfl)) dL_law_236 ⟨(show cells + 1 + 0 ≤ 1033879 by omega), (show slots + 6 + 0 ≤ 5994467 by omega)⟩) hw hA rp_87 (fun H locs hw => ?_)
  refine lv_istore (lv' := [(6, .int (nI (n_ns Hb))), (5, .int 0), (0, .ref b), (1, .ref x), (2, .ref (M 0)), (3, .ref o), (4, .int (nI i))]) hx hb dL_law_239 hl (by decide) rfl (fun ls hl => ?_)
  refine lv_aload_n hx hb dL_law_241 rfl (lv_at hl 4 rfl) ?_
  refine kr_i (ws' := wX x A T B ++ wC E A (B 0) S ++ wC E T (B 0) U ++ wG E B (f_eship G z1) ++ [(o, aJ E 1 (vp_updL f 0 ((nI (g_sc G) : Int32).toInt64)))] ++ wN E M (0, o_ns (o_ma Hb (upd (n_ma Hb) (n_ns Hb) z1)) (n_ns Hb + 1), a, k)) (va_runV (As := []) (rest := []) ⟨hx, hb, hml, hown, hts⟩ (c_X3_thrown l E M 0 (o_ns (o_ma Hb (upd (n_ma Hb) (n_ns Hb) z1)) (n_ns Hb + 1)) a k  _) (cwV 0 hts gL_law_X3_thrown rfl rfl rfl ⟨rfl, hd_X3_thrown⟩ ⟨Nat.le_of_ble_eq_true rfl, Nat.le_of_ble_eq_true rfl⟩) (pwV (ci := 3) (q0 := 22) (C := RX3) hw hK rfl rfl rfl (rpS (AV := [.ref (M 0)]) hw hK hG rp_88)) rfl rfl hl.1 rfl (lv_room (Nat.le_of_ble_eq_true rfl)) dL_law_242 ⟨(show cells + 1 + 0 ≤ 1033879 by omega), (show slots + 6 + 0 ≤ 5994467 by omega)⟩) hw hA rp_88 (fun H locs hw => ?_)
  refine lv_iload hx hb dL_law_245 (lv_at hl 1 rfl) ?_
  refine lv_icmp_eq (tgt := 252) hx hb dL_law_247 (by decide) (fun _ => ?_) (fun q8 => absurd (by decide) q8)
  refine lv_iload hx hb dL_law_252 (lv_at hl 1 rfl) ?_
  refine lv_if_ne (tgt := 269) hx hb dL_law_254 (by decide) (fun q8 => absurd (by decide) q8) (fun _ => ?_)
  refine lv_aload_n hx hb dL_law_257 rfl (lv_at hl 5 rfl) ?_
  refine lv_iconst (v := 0) hx hb dL_law_258 (by decide) ?_
  refine k_lld (v := (vp_updL f 0 ((nI (g_sc G) : Int32).toInt64)) 0) hx hb hK hw 21 rfl (vp_in_nI (n := 0) (N := 1) (by decide) (by decide)) rfl dL_law_259 ?_
  refine lv_iload hx hb dL_law_260 (lv_at hl 0 rfl) ?_
  refine lv_i2l (v := (nI (n_ns Hb) : Int32).toInt64) hx hb dL_law_262 rfl ?_
  refine k_lcmpE hx hb dL_law_263 (pk_uLs.trans hy7) ?_
  refine lv_if_eq (tgt := 269) hx hb dL_law_264 (by decide) (fun _ => ?_) (fun q8 => absurd (by decide) q8)
  refine lv_goto (tgt := 2161) hx hb dL_law_269 (by decide) ?_
  refine W.widen (k := cells + 30) (n := slots + 200) (show cells + 1 ≤ cells + 30 by omega) (show slots + 6 ≤ slots + 200 by omega) ?_
  exact kk U (vp_updL f 0 ((nI (g_sc G) : Int32).toInt64)) 0 k _ _ _ hw (lv_sub hl [2, 3, 4, 5, 6] rfl)

set_option maxHeartbeats 4000000 in
set_option maxRecDepth 100000 in
theorem la_addSailor_1_t {p9 : Program} {l : Launch} {e : Env} {s9 : State} {m : MethodId} {below : List Frame} {meth : Method} {c : Code} {b L : Nat} {xs : Nat → Int32} (C0 : lw_At p9 s9 m meth c b L xs) (hflags : l.stackTraces = false) (hL : L ≤ 2048) (E : Ev) (hK : va_K E.1 vwCl (tysE E) s9) (hG : Gx s9) (hZ : Zx (aL s9) s9 s9.heap) {Q : State → Prop} (x o : Nat) (A T B M : Nat → Nat) (S U : CS) (G : HS) (th : Int32) (Hb : MH) (a k : Fn) (f : Nat → Int64) (i cells slots : Nat) (hi : i + 4 ≤ L) (z1 : Int32) (e1 : xs (i + 1) = z1) (z2 : Int32) (e2 : xs (i + 2) = z2) (z3 : Int32) (e3 : xs (i + 3) = z3) (hz : ¬ z3 = 0) (hy0 : t_addSailor G S z1 z2 = 1) (hy1 : n_ns Hb ≤ 5) (hy2 : n_np Hb ≤ 16) (hy3 : n_nw Hb ≤ 4) (hy4 : ∀ p, p < n_np Hb → n_so Hb p < 5) (hy5 : d_in z1 0 (nI (n_ns Hb) - 1) = false) (hc9 : cells + 30 ≤ 1033879) (hs9 : slots + 200 ≤ 5994467) (kk : ∀ (U1 : CS) (f1 : Nat → Int64) (t1 : Int32) (k1 : Fn) (H : Heap) (locs : List Loc) (ls : Array Slot), Wd E (aL s9) s9.heap (wX x A T B ++ wC E A (B 0) S ++ wC E T (B 0) U1 ++ wG E B G ++ [(o, aJ E 1 f1)] ++ wN E M (t1, Hb, a, k1)) H locs → lv_has ls 9 [(0, .ref b), (1, .ref x), (2, .ref (M 0)), (3, .ref o), (4, .int (nI i))] → W p9 l e room_1 s9 m #[Value.ref b] below meth c H locs (cells + 30) (slots + 200) Q (F0 m 2161 ls [])) {H : Heap} {locs : List Loc} {ls : Array Slot} (hw : Wd E (aL s9) s9.heap (wX x A T B ++ wC E A (B 0) S ++ wC E T (B 0) U ++ wG E B G ++ [(o, aJ E 1 f)] ++ wN E M (th, Hb, a, k)) H locs) (hl : lv_has ls 9 [(0, .ref b), (1, .ref x), (2, .ref (M 0)), (3, .ref o), (4, .int (nI i))]) : W p9 l e room_1 s9 m #[Value.ref b] below meth c H locs cells slots Q (F0 m 272 ls []) := by
  obtain ⟨hx, hb, hr, hml, hown, hts0, hX, hbl, hlocks, hgv⟩ := C0
  have hts : ∀ w ∈ wsL_law, w.before #[Value.ref b] s9 = true := fun w h => hts0 w (wsL_law_in w h)
  have hown : s9.vm.findClass RL = some m.cls := hown
  have hA : ∀ q, s9.heap.size ≤ q → aL s9 q := fun _ h => h
  refine lv_aload_n hx hb dL_law_272 rfl (lv_at hl 1 rfl) ?_
  refine lv_aload_n hx hb dL_law_273 rfl (lv_at hl 0 rfl) ?_
  refine lv_iload hx hb dL_law_274 (lv_at hl 4 rfl) ?_
  refine lv_iconst (v := 1) hx hb dL_law_276 (by decide) ?_
  refine k_iaddN (a := i) (b := 1) hx hb dL_law_277 ?_
  refine k_sldv (i := i + 1) (v := z1) hx hb hX hbl hw (by omega) (by omega) e1 dL_law_278 ?_
  refine lv_aload_n hx hb dL_law_279 rfl (lv_at hl 0 rfl) ?_
  refine lv_iload hx hb dL_law_280 (lv_at hl 4 rfl) ?_
  refine lv_iconst (v := 2) hx hb dL_law_282 (by decide) ?_
  refine k_iaddN (a := i) (b := 2) hx hb dL_law_283 ?_
  refine k_sldv (i := i + 2) (v := z2) hx hb hX hbl hw (by omega) (by omega) e2 dL_law_284 ?_
  refine lv_aload_n hx hb dL_law_285 rfl (lv_at hl 0 rfl) ?_
  refine lv_iload hx hb dL_law_286 (lv_at hl 4 rfl) ?_
  refine lv_iconst (v := 3) hx hb dL_law_288 (by decide) ?_
  refine k_iaddN (a := i) (b := 3) hx hb dL_law_289 ?_
  refine k_sldv (i := i + 3) (v := z3) hx hb hX hbl hw (by omega) (by omega) e3 dL_law_290 ?_
  refine lv_if_eq (tgt := 298) hx hb dL_law_291 (by decide) (fun q8 => absurd q8 hz) (fun _ => ?_)
  refine lv_iconst (v := 1) hx hb dL_law_294 (by decide) ?_
  refine lv_goto (tgt := 299) hx hb dL_law_295 (by decide) ?_
  refine lv_aload_n hx hb dL_law_299 rfl (lv_at hl 3 rfl) ?_
  refine krx_i (ws' := wX x A T B ++ wC E A (B 0) S ++ wC E T (B 0) U ++ wG E B G ++ [(o, aJ E 1 f)] ++ wN E M (th, Hb, a, k)) (vx_runSX (As := [.ref x, .int z1, .int z2, .int 1, .ref o]) (rest := []) ⟨hx, hb, hml, hown, hts⟩ (c_L_addSailor_1 l hflags E x A T B S U G z1 z2 true o f hy0 _) (vx_cwSW 5 hts gL_law_L_addSailor rfl rfl rfl hd_L_addSailor ⟨Nat.le_of_ble_eq_true rfl, Nat.le_of_ble_eq_true rfl⟩) (rpX (AV := [.ref x, .int z1, .int z2, .int 1, .ref o]) hw hK hG hZ hA rp_86) rfl rfl hl.1 rfl (lv_room (Nat.le_of_ble_eq_true rfl)) dL_law_300 ⟨(show cells + 2 ≤ 1033879 by omega), (show slots + 12 ≤ 5994467 by omega)⟩) hw hA rp_86 rp_86 (fun H locs ce9 q9 t_1 hw hy1 hy2 hy3 => absurd rfl t_1) (fun H locs t_1 hw => ?_)
  refine lv_istore (lv' := [(5, .int 1), (0, .ref b), (1, .ref x), (2, .ref (M 0)), (3, .ref o), (4, .int (nI i))]) hx hb dL_law_303 hl (by decide) rfl (fun ls hl => ?_)
  refine lv_aload_n hx hb dL_law_305 rfl (lv_at hl 3 rfl) ?_
  refine lv_aload_n hx hb dL_law_306 rfl (lv_at hl 1 rfl) ?_
  refine lv_iload hx hb dL_law_307 (lv_at hl 5 rfl) ?_
  refine lv_iconst (v := 1) hx hb dL_law_309 (by decide) ?_
  refine k_iaddN (a := i) (b := 1) hx hb dL_law_310 ?_
  refine k_sldv (i := i + 1) (v := z1) hx hb hX hbl hw (by omega) (by omega) e1 dL_law_311 ?_
  refine lv_aload_n hx hb dL_law_312 rfl (lv_at hl 1 rfl) ?_
  refine lv_iload hx hb dL_law_313 (lv_at hl 5 rfl) ?_
  refine lv_iconst (v := 2) hx hb dL_law_315 (by decide) ?_
  refine k_iaddN (a := i) (b := 2) hx hb dL_law_316 ?_
  refine k_sldv (i := i + 2) (v := z2) hx hb hX hbl hw (by omega) (by omega) e2 dL_law_317 ?_
  refine lv_aload_n hx hb dL_law_318 rfl (lv_at hl 1 rfl) ?_
  refine lv_iload hx hb dL_law_319 (lv_at hl 5 rfl) ?_
  refine lv_iconst (v := 3) hx hb dL_law_321 (by decide) ?_
  refine k_iaddN (a := i) (b := 3) hx hb dL_law_322 ?_
  refine k_sldv (i := i + 3) (v := z3) hx hb hX hbl hw (by omega) (by omega) e3 dL_law_323 ?_
  refine lv_if_eq (tgt := 331) hx hb dL_law_324 (by decide) (fun q8 => absurd q8 hz) (fun _ => ?_)
  refine lv_iconst (v := 1) hx hb dL_law_327 (by decide) ?_
  refine lv_goto (tgt := 332) hx hb dL_law_328 (by decide) ?_
  refine kr_i (ws' := wX x A T B ++ wC E A (B 0) S ++ wC E T (B 0) U ++ wG E B G ++ [(o, aJ E 1 f)] ++ wN E M (1, Hb, a, k)) (va_runV (As := [.int z1, .int z2, .int 1]) (rest := []) ⟨hx, hb, hml, hown, hts⟩ (c_X3_addSailor_1 l E M th Hb a k z1 z2 true hy1 hy2 hy3 hy4 hy5 _) (cwV 3 hts gL_law_X3_addSailor rfl rfl rfl ⟨rfl, hd_X3_addSailor⟩ ⟨Nat.le_of_ble_eq_true rfl, Nat.le_of_ble_eq_true rfl⟩) (pwV (ci := 3) (q0 := 22) (C := RX3) hw hK rfl rfl rfl (rpS (AV := [.ref (M 0), .int z1, .int z2, .int 1]) hw hK hG rp_88)) rfl rfl hl.1 rfl (lv_room (Nat.le_of_ble_eq_true rfl)) dL_law_332 ⟨(show cells + 2 + 0 ≤ 1033879 by omega), (show slots + 12 + 0 ≤ 5994467 by omega)⟩) hw hA rp_87 (fun H locs hw => ?_)
  refine lv_istore (lv' := [(6, .int 0), (5, .int 1), (0, .ref b), (1, .ref x), (2, .ref (M 0)), (3, .ref o), (4, .int (nI i))]) hx hb dL_law_335 hl (by decide) rfl (fun ls hl => ?_)
  refine lv_aload_n hx hb dL_law_337 rfl (lv_at hl 4 rfl) ?_
  refine kr_i (ws' := wX x A T B ++ wC E A (B 0) S ++ wC E T (B 0) U ++ wG E B G ++ [(o, aJ E 1 f)] ++ wN E M (1, Hb, a, k)) (va_runV (As := []) (rest := []) ⟨hx, hb, hml, hown, hts⟩ (c_X3_thrown l E M 1 Hb a k  _) (cwV 0 hts gL_law_X3_thrown rfl rfl rfl ⟨rfl, hd_X3_thrown⟩ ⟨Nat.le_of_ble_eq_true rfl, Nat.le_of_ble_eq_true rfl⟩) (pwV (ci := 3) (q0 := 22) (C := RX3) hw hK rfl rfl rfl (rpS (AV := [.ref (M 0)]) hw hK hG rp_88)) rfl rfl hl.1 rfl (lv_room (Nat.le_of_ble_eq_true rfl)) dL_law_338 ⟨(show cells + 2 + 0 ≤ 1033879 by omega), (show slots + 12 + 0 ≤ 5994467 by omega)⟩) hw hA rp_88 (fun H locs hw => ?_)
  refine lv_iload hx hb dL_law_341 (lv_at hl 1 rfl) ?_
  refine lv_icmp_eq (tgt := 348) hx hb dL_law_343 (by decide) (fun _ => ?_) (fun q8 => absurd (by decide) q8)
  refine lv_iload hx hb dL_law_348 (lv_at hl 1 rfl) ?_
  refine lv_if_ne (tgt := 365) hx hb dL_law_350 (by decide) (fun _ => ?_) (fun q8 => absurd q8 (by decide))
  refine lv_goto (tgt := 2161) hx hb dL_law_365 (by decide) ?_
  refine W.widen (k := cells + 30) (n := slots + 200) (show cells + 2 ≤ cells + 30 by omega) (show slots + 12 ≤ slots + 200 by omega) ?_
  exact kk U f 1 k _ _ _ hw (lv_sub hl [2, 3, 4, 5, 6] rfl)

set_option maxHeartbeats 4000000 in
set_option maxRecDepth 100000 in
theorem la_addSailor_1_f {p9 : Program} {l : Launch} {e : Env} {s9 : State} {m : MethodId} {below : List Frame} {meth : Method} {c : Code} {b L : Nat} {xs : Nat → Int32} (C0 : lw_At p9 s9 m meth c b L xs) (hflags : l.stackTraces = false) (hL : L ≤ 2048) (E : Ev) (hK : va_K E.1 vwCl (tysE E) s9) (hG : Gx s9) (hZ : Zx (aL s9) s9 s9.heap) {Q : State → Prop} (x o : Nat) (A T B M : Nat → Nat) (S U : CS) (G : HS) (th : Int32) (Hb : MH) (a k : Fn) (f : Nat → Int64) (i cells slots : Nat) (hi : i + 4 ≤ L) (z1 : Int32) (e1 : xs (i + 1) = z1) (z2 : Int32) (e2 : xs (i + 2) = z2) (z3 : Int32) (e3 : xs (i + 3) = z3) (hz : z3 = 0) (hy0 : t_addSailor G S z1 z2 = 1) (hy1 : n_ns Hb ≤ 5) (hy2 : n_np Hb ≤ 16) (hy3 : n_nw Hb ≤ 4) (hy4 : ∀ p, p < n_np Hb → n_so Hb p < 5) (hy5 : d_in z1 0 (nI (n_ns Hb) - 1) = false) (hc9 : cells + 30 ≤ 1033879) (hs9 : slots + 200 ≤ 5994467) (kk : ∀ (U1 : CS) (f1 : Nat → Int64) (t1 : Int32) (k1 : Fn) (H : Heap) (locs : List Loc) (ls : Array Slot), Wd E (aL s9) s9.heap (wX x A T B ++ wC E A (B 0) S ++ wC E T (B 0) U1 ++ wG E B G ++ [(o, aJ E 1 f1)] ++ wN E M (t1, Hb, a, k1)) H locs → lv_has ls 9 [(0, .ref b), (1, .ref x), (2, .ref (M 0)), (3, .ref o), (4, .int (nI i))] → W p9 l e room_1 s9 m #[Value.ref b] below meth c H locs (cells + 30) (slots + 200) Q (F0 m 2161 ls [])) {H : Heap} {locs : List Loc} {ls : Array Slot} (hw : Wd E (aL s9) s9.heap (wX x A T B ++ wC E A (B 0) S ++ wC E T (B 0) U ++ wG E B G ++ [(o, aJ E 1 f)] ++ wN E M (th, Hb, a, k)) H locs) (hl : lv_has ls 9 [(0, .ref b), (1, .ref x), (2, .ref (M 0)), (3, .ref o), (4, .int (nI i))]) : W p9 l e room_1 s9 m #[Value.ref b] below meth c H locs cells slots Q (F0 m 272 ls []) := by
  obtain ⟨hx, hb, hr, hml, hown, hts0, hX, hbl, hlocks, hgv⟩ := C0
  have hts : ∀ w ∈ wsL_law, w.before #[Value.ref b] s9 = true := fun w h => hts0 w (wsL_law_in w h)
  have hown : s9.vm.findClass RL = some m.cls := hown
  have hA : ∀ q, s9.heap.size ≤ q → aL s9 q := fun _ h => h
  refine lv_aload_n hx hb dL_law_272 rfl (lv_at hl 1 rfl) ?_
  refine lv_aload_n hx hb dL_law_273 rfl (lv_at hl 0 rfl) ?_
  refine lv_iload hx hb dL_law_274 (lv_at hl 4 rfl) ?_
  refine lv_iconst (v := 1) hx hb dL_law_276 (by decide) ?_
  refine k_iaddN (a := i) (b := 1) hx hb dL_law_277 ?_
  refine k_sldv (i := i + 1) (v := z1) hx hb hX hbl hw (by omega) (by omega) e1 dL_law_278 ?_
  refine lv_aload_n hx hb dL_law_279 rfl (lv_at hl 0 rfl) ?_
  refine lv_iload hx hb dL_law_280 (lv_at hl 4 rfl) ?_
  refine lv_iconst (v := 2) hx hb dL_law_282 (by decide) ?_
  refine k_iaddN (a := i) (b := 2) hx hb dL_law_283 ?_
  refine k_sldv (i := i + 2) (v := z2) hx hb hX hbl hw (by omega) (by omega) e2 dL_law_284 ?_
  refine lv_aload_n hx hb dL_law_285 rfl (lv_at hl 0 rfl) ?_
  refine lv_iload hx hb dL_law_286 (lv_at hl 4 rfl) ?_
  refine lv_iconst (v := 3) hx hb dL_law_288 (by decide) ?_
  refine k_iaddN (a := i) (b := 3) hx hb dL_law_289 ?_
  refine k_sldv (i := i + 3) (v := z3) hx hb hX hbl hw (by omega) (by omega) e3 dL_law_290 ?_
  refine lv_if_eq (tgt := 298) hx hb dL_law_291 (by decide) (fun _ => ?_) (fun q8 => absurd hz q8)
  refine lv_iconst (v := 0) hx hb dL_law_298 (by decide) ?_
  refine lv_aload_n hx hb dL_law_299 rfl (lv_at hl 3 rfl) ?_
  refine krx_i (ws' := wX x A T B ++ wC E A (B 0) S ++ wC E T (B 0) U ++ wG E B G ++ [(o, aJ E 1 f)] ++ wN E M (th, Hb, a, k)) (vx_runSX (As := [.ref x, .int z1, .int z2, .int 0, .ref o]) (rest := []) ⟨hx, hb, hml, hown, hts⟩ (c_L_addSailor_1 l hflags E x A T B S U G z1 z2 false o f hy0 _) (vx_cwSW 5 hts gL_law_L_addSailor rfl rfl rfl hd_L_addSailor ⟨Nat.le_of_ble_eq_true rfl, Nat.le_of_ble_eq_true rfl⟩) (rpX (AV := [.ref x, .int z1, .int z2, .int 0, .ref o]) hw hK hG hZ hA rp_86) rfl rfl hl.1 rfl (lv_room (Nat.le_of_ble_eq_true rfl)) dL_law_300 ⟨(show cells + 2 ≤ 1033879 by omega), (show slots + 12 ≤ 5994467 by omega)⟩) hw hA rp_86 rp_86 (fun H locs ce9 q9 t_1 hw hy1 hy2 hy3 => absurd rfl t_1) (fun H locs t_1 hw => ?_)
  refine lv_istore (lv' := [(5, .int 1), (0, .ref b), (1, .ref x), (2, .ref (M 0)), (3, .ref o), (4, .int (nI i))]) hx hb dL_law_303 hl (by decide) rfl (fun ls hl => ?_)
  refine lv_aload_n hx hb dL_law_305 rfl (lv_at hl 3 rfl) ?_
  refine lv_aload_n hx hb dL_law_306 rfl (lv_at hl 1 rfl) ?_
  refine lv_iload hx hb dL_law_307 (lv_at hl 5 rfl) ?_
  refine lv_iconst (v := 1) hx hb dL_law_309 (by decide) ?_
  refine k_iaddN (a := i) (b := 1) hx hb dL_law_310 ?_
  refine k_sldv (i := i + 1) (v := z1) hx hb hX hbl hw (by omega) (by omega) e1 dL_law_311 ?_
  refine lv_aload_n hx hb dL_law_312 rfl (lv_at hl 1 rfl) ?_
  refine lv_iload hx hb dL_law_313 (lv_at hl 5 rfl) ?_
  refine lv_iconst (v := 2) hx hb dL_law_315 (by decide) ?_
  refine k_iaddN (a := i) (b := 2) hx hb dL_law_316 ?_
  refine k_sldv (i := i + 2) (v := z2) hx hb hX hbl hw (by omega) (by omega) e2 dL_law_317 ?_
  refine lv_aload_n hx hb dL_law_318 rfl (lv_at hl 1 rfl) ?_
  refine lv_iload hx hb dL_law_319 (lv_at hl 5 rfl) ?_
  refine lv_iconst (v := 3) hx hb dL_law_321 (by decide) ?_
  refine k_iaddN (a := i) (b := 3) hx hb dL_law_322 ?_
  refine k_sldv (i := i + 3) (v := z3) hx hb hX hbl hw (by omega) (by omega) e3 dL_law_323 ?_
  refine lv_if_eq (tgt := 331) hx hb dL_law_324 (by decide) (fun _ => ?_) (fun q8 => absurd hz q8)
  refine lv_iconst (v := 0) hx hb dL_law_331 (by decide) ?_
  refine kr_i (ws' := wX x A T B ++ wC E A (B 0) S ++ wC E T (B 0) U ++ wG E B G ++ [(o, aJ E 1 f)] ++ wN E M (1, Hb, a, k)) (va_runV (As := [.int z1, .int z2, .int 0]) (rest := []) ⟨hx, hb, hml, hown, hts⟩ (c_X3_addSailor_1 l E M th Hb a k z1 z2 false hy1 hy2 hy3 hy4 hy5 _) (cwV 3 hts gL_law_X3_addSailor rfl rfl rfl ⟨rfl, hd_X3_addSailor⟩ ⟨Nat.le_of_ble_eq_true rfl, Nat.le_of_ble_eq_true rfl⟩) (pwV (ci := 3) (q0 := 22) (C := RX3) hw hK rfl rfl rfl (rpS (AV := [.ref (M 0), .int z1, .int z2, .int 0]) hw hK hG rp_88)) rfl rfl hl.1 rfl (lv_room (Nat.le_of_ble_eq_true rfl)) dL_law_332 ⟨(show cells + 2 + 0 ≤ 1033879 by omega), (show slots + 12 + 0 ≤ 5994467 by omega)⟩) hw hA rp_87 (fun H locs hw => ?_)
  refine lv_istore (lv' := [(6, .int 0), (5, .int 1), (0, .ref b), (1, .ref x), (2, .ref (M 0)), (3, .ref o), (4, .int (nI i))]) hx hb dL_law_335 hl (by decide) rfl (fun ls hl => ?_)
  refine lv_aload_n hx hb dL_law_337 rfl (lv_at hl 4 rfl) ?_
  refine kr_i (ws' := wX x A T B ++ wC E A (B 0) S ++ wC E T (B 0) U ++ wG E B G ++ [(o, aJ E 1 f)] ++ wN E M (1, Hb, a, k)) (va_runV (As := []) (rest := []) ⟨hx, hb, hml, hown, hts⟩ (c_X3_thrown l E M 1 Hb a k  _) (cwV 0 hts gL_law_X3_thrown rfl rfl rfl ⟨rfl, hd_X3_thrown⟩ ⟨Nat.le_of_ble_eq_true rfl, Nat.le_of_ble_eq_true rfl⟩) (pwV (ci := 3) (q0 := 22) (C := RX3) hw hK rfl rfl rfl (rpS (AV := [.ref (M 0)]) hw hK hG rp_88)) rfl rfl hl.1 rfl (lv_room (Nat.le_of_ble_eq_true rfl)) dL_law_338 ⟨(show cells + 2 + 0 ≤ 1033879 by omega), (show slots + 12 + 0 ≤ 5994467 by omega)⟩) hw hA rp_88 (fun H locs hw => ?_)
  refine lv_iload hx hb dL_law_341 (lv_at hl 1 rfl) ?_
  refine lv_icmp_eq (tgt := 348) hx hb dL_law_343 (by decide) (fun _ => ?_) (fun q8 => absurd (by decide) q8)
  refine lv_iload hx hb dL_law_348 (lv_at hl 1 rfl) ?_
  refine lv_if_ne (tgt := 365) hx hb dL_law_350 (by decide) (fun _ => ?_) (fun q8 => absurd q8 (by decide))
  refine lv_goto (tgt := 2161) hx hb dL_law_365 (by decide) ?_
  refine W.widen (k := cells + 30) (n := slots + 200) (show cells + 2 ≤ cells + 30 by omega) (show slots + 12 ≤ slots + 200 by omega) ?_
  exact kk U f 1 k _ _ _ hw (lv_sub hl [2, 3, 4, 5, 6] rfl)

set_option maxHeartbeats 4000000 in
set_option maxRecDepth 100000 in
theorem la_addSailor_1b_t {p9 : Program} {l : Launch} {e : Env} {s9 : State} {m : MethodId} {below : List Frame} {meth : Method} {c : Code} {b L : Nat} {xs : Nat → Int32} (C0 : lw_At p9 s9 m meth c b L xs) (hflags : l.stackTraces = false) (hL : L ≤ 2048) (E : Ev) (hK : va_K E.1 vwCl (tysE E) s9) (hG : Gx s9) (hZ : Zx (aL s9) s9 s9.heap) {Q : State → Prop} (x o : Nat) (A T B M : Nat → Nat) (S U : CS) (G : HS) (th : Int32) (Hb : MH) (a k : Fn) (f : Nat → Int64) (i cells slots : Nat) (hi : i + 4 ≤ L) (n1 : Nat) (e1 : xs (i + 1) = nI n1) (z2 : Int32) (e2 : xs (i + 2) = z2) (z3 : Int32) (e3 : xs (i + 3) = z3) (hz : ¬ z3 = 0) (hy0 : t_addSailor G S (nI n1) z2 = 1) (hy1 : n_ns Hb ≤ 5) (hy2 : n_np Hb ≤ 16) (hy3 : n_nw Hb ≤ 4) (hy4 : ∀ p, p < n_np Hb → n_so Hb p < 5) (hy5 : n1 < n_ns Hb) (hy6 : d_in z2 0 (n_ma Hb n1 - 1) = false) (hc9 : cells + 30 ≤ 1033879) (hs9 : slots + 200 ≤ 5994467) (kk : ∀ (U1 : CS) (f1 : Nat → Int64) (t1 : Int32) (k1 : Fn) (H : Heap) (locs : List Loc) (ls : Array Slot), Wd E (aL s9) s9.heap (wX x A T B ++ wC E A (B 0) S ++ wC E T (B 0) U1 ++ wG E B G ++ [(o, aJ E 1 f1)] ++ wN E M (t1, Hb, a, k1)) H locs → lv_has ls 9 [(0, .ref b), (1, .ref x), (2, .ref (M 0)), (3, .ref o), (4, .int (nI i))] → W p9 l e room_1 s9 m #[Value.ref b] below meth c H locs (cells + 30) (slots + 200) Q (F0 m 2161 ls [])) {H : Heap} {locs : List Loc} {ls : Array Slot} (hw : Wd E (aL s9) s9.heap (wX x A T B ++ wC E A (B 0) S ++ wC E T (B 0) U ++ wG E B G ++ [(o, aJ E 1 f)] ++ wN E M (th, Hb, a, k)) H locs) (hl : lv_has ls 9 [(0, .ref b), (1, .ref x), (2, .ref (M 0)), (3, .ref o), (4, .int (nI i))]) : W p9 l e room_1 s9 m #[Value.ref b] below meth c H locs cells slots Q (F0 m 272 ls []) := by
  obtain ⟨hx, hb, hr, hml, hown, hts0, hX, hbl, hlocks, hgv⟩ := C0
  have hts : ∀ w ∈ wsL_law, w.before #[Value.ref b] s9 = true := fun w h => hts0 w (wsL_law_in w h)
  have hown : s9.vm.findClass RL = some m.cls := hown
  have hA : ∀ q, s9.heap.size ≤ q → aL s9 q := fun _ h => h
  refine lv_aload_n hx hb dL_law_272 rfl (lv_at hl 1 rfl) ?_
  refine lv_aload_n hx hb dL_law_273 rfl (lv_at hl 0 rfl) ?_
  refine lv_iload hx hb dL_law_274 (lv_at hl 4 rfl) ?_
  refine lv_iconst (v := 1) hx hb dL_law_276 (by decide) ?_
  refine k_iaddN (a := i) (b := 1) hx hb dL_law_277 ?_
  refine k_sldv (i := i + 1) (v := nI n1) hx hb hX hbl hw (by omega) (by omega) e1 dL_law_278 ?_
  refine lv_aload_n hx hb dL_law_279 rfl (lv_at hl 0 rfl) ?_
  refine lv_iload hx hb dL_law_280 (lv_at hl 4 rfl) ?_
  refine lv_iconst (v := 2) hx hb dL_law_282 (by decide) ?_
  refine k_iaddN (a := i) (b := 2) hx hb dL_law_283 ?_
  refine k_sldv (i := i + 2) (v := z2) hx hb hX hbl hw (by omega) (by omega) e2 dL_law_284 ?_
  refine lv_aload_n hx hb dL_law_285 rfl (lv_at hl 0 rfl) ?_
  refine lv_iload hx hb dL_law_286 (lv_at hl 4 rfl) ?_
  refine lv_iconst (v := 3) hx hb dL_law_288 (by decide) ?_
  refine k_iaddN (a := i) (b := 3) hx hb dL_law_289 ?_
  refine k_sldv (i := i + 3) (v := z3) hx hb hX hbl hw (by omega) (by omega) e3 dL_law_290 ?_
  refine lv_if_eq (tgt := 298) hx hb dL_law_291 (by decide) (fun q8 => absurd q8 hz) (fun _ => ?_)
  refine lv_iconst (v := 1) hx hb dL_law_294 (by decide) ?_
  refine lv_goto (tgt := 299) hx hb dL_law_295 (by decide) ?_
  refine lv_aload_n hx hb dL_law_299 rfl (lv_at hl 3 rfl) ?_
  refine krx_i (ws' := wX x A T B ++ wC E A (B 0) S ++ wC E T (B 0) U ++ wG E B G ++ [(o, aJ E 1 f)] ++ wN E M (th, Hb, a, k)) (vx_runSX (As := [.ref x, .int (nI n1), .int z2, .int 1, .ref o]) (rest := []) ⟨hx, hb, hml, hown, hts⟩ (c_L_addSailor_1 l hflags E x A T B S U G (nI n1) z2 true o f hy0 _) (vx_cwSW 5 hts gL_law_L_addSailor rfl rfl rfl hd_L_addSailor ⟨Nat.le_of_ble_eq_true rfl, Nat.le_of_ble_eq_true rfl⟩) (rpX (AV := [.ref x, .int (nI n1), .int z2, .int 1, .ref o]) hw hK hG hZ hA rp_86) rfl rfl hl.1 rfl (lv_room (Nat.le_of_ble_eq_true rfl)) dL_law_300 ⟨(show cells + 2 ≤ 1033879 by omega), (show slots + 12 ≤ 5994467 by omega)⟩) hw hA rp_86 rp_86 (fun H locs ce9 q9 t_1 hw hy1 hy2 hy3 => absurd rfl t_1) (fun H locs t_1 hw => ?_)
  refine lv_istore (lv' := [(5, .int 1), (0, .ref b), (1, .ref x), (2, .ref (M 0)), (3, .ref o), (4, .int (nI i))]) hx hb dL_law_303 hl (by decide) rfl (fun ls hl => ?_)
  refine lv_aload_n hx hb dL_law_305 rfl (lv_at hl 3 rfl) ?_
  refine lv_aload_n hx hb dL_law_306 rfl (lv_at hl 1 rfl) ?_
  refine lv_iload hx hb dL_law_307 (lv_at hl 5 rfl) ?_
  refine lv_iconst (v := 1) hx hb dL_law_309 (by decide) ?_
  refine k_iaddN (a := i) (b := 1) hx hb dL_law_310 ?_
  refine k_sldv (i := i + 1) (v := nI n1) hx hb hX hbl hw (by omega) (by omega) e1 dL_law_311 ?_
  refine lv_aload_n hx hb dL_law_312 rfl (lv_at hl 1 rfl) ?_
  refine lv_iload hx hb dL_law_313 (lv_at hl 5 rfl) ?_
  refine lv_iconst (v := 2) hx hb dL_law_315 (by decide) ?_
  refine k_iaddN (a := i) (b := 2) hx hb dL_law_316 ?_
  refine k_sldv (i := i + 2) (v := z2) hx hb hX hbl hw (by omega) (by omega) e2 dL_law_317 ?_
  refine lv_aload_n hx hb dL_law_318 rfl (lv_at hl 1 rfl) ?_
  refine lv_iload hx hb dL_law_319 (lv_at hl 5 rfl) ?_
  refine lv_iconst (v := 3) hx hb dL_law_321 (by decide) ?_
  refine k_iaddN (a := i) (b := 3) hx hb dL_law_322 ?_
  refine k_sldv (i := i + 3) (v := z3) hx hb hX hbl hw (by omega) (by omega) e3 dL_law_323 ?_
  refine lv_if_eq (tgt := 331) hx hb dL_law_324 (by decide) (fun q8 => absurd q8 hz) (fun _ => ?_)
  refine lv_iconst (v := 1) hx hb dL_law_327 (by decide) ?_
  refine lv_goto (tgt := 332) hx hb dL_law_328 (by decide) ?_
  refine kr_i (ws' := wX x A T B ++ wC E A (B 0) S ++ wC E T (B 0) U ++ wG E B G ++ [(o, aJ E 1 f)] ++ wN E M (1, Hb, a, k)) (va_runV (As := [.int (nI n1), .int z2, .int 1]) (rest := []) ⟨hx, hb, hml, hown, hts⟩ (c_X3_addSailor_1b l E M th Hb a k n1 z2 true hy1 hy2 hy3 hy4 hy5 hy6 _) (cwV 3 hts gL_law_X3_addSailor rfl rfl rfl ⟨rfl, hd_X3_addSailor⟩ ⟨Nat.le_of_ble_eq_true rfl, Nat.le_of_ble_eq_true rfl⟩) (pwV (ci := 3) (q0 := 22) (C := RX3) hw hK rfl rfl rfl (rpS (AV := [.ref (M 0), .int (nI n1), .int z2, .int 1]) hw hK hG rp_88)) rfl rfl hl.1 rfl (lv_room (Nat.le_of_ble_eq_true rfl)) dL_law_332 ⟨(show cells + 2 + 0 ≤ 1033879 by omega), (show slots + 12 + 0 ≤ 5994467 by omega)⟩) hw hA rp_87 (fun H locs hw => ?_)
  refine lv_istore (lv' := [(6, .int 0), (5, .int 1), (0, .ref b), (1, .ref x), (2, .ref (M 0)), (3, .ref o), (4, .int (nI i))]) hx hb dL_law_335 hl (by decide) rfl (fun ls hl => ?_)
  refine lv_aload_n hx hb dL_law_337 rfl (lv_at hl 4 rfl) ?_
  refine kr_i (ws' := wX x A T B ++ wC E A (B 0) S ++ wC E T (B 0) U ++ wG E B G ++ [(o, aJ E 1 f)] ++ wN E M (1, Hb, a, k)) (va_runV (As := []) (rest := []) ⟨hx, hb, hml, hown, hts⟩ (c_X3_thrown l E M 1 Hb a k  _) (cwV 0 hts gL_law_X3_thrown rfl rfl rfl ⟨rfl, hd_X3_thrown⟩ ⟨Nat.le_of_ble_eq_true rfl, Nat.le_of_ble_eq_true rfl⟩) (pwV (ci := 3) (q0 := 22) (C := RX3) hw hK rfl rfl rfl (rpS (AV := [.ref (M 0)]) hw hK hG rp_88)) rfl rfl hl.1 rfl (lv_room (Nat.le_of_ble_eq_true rfl)) dL_law_338 ⟨(show cells + 2 + 0 ≤ 1033879 by omega), (show slots + 12 + 0 ≤ 5994467 by omega)⟩) hw hA rp_88 (fun H locs hw => ?_)
  refine lv_iload hx hb dL_law_341 (lv_at hl 1 rfl) ?_
  refine lv_icmp_eq (tgt := 348) hx hb dL_law_343 (by decide) (fun _ => ?_) (fun q8 => absurd (by decide) q8)
  refine lv_iload hx hb dL_law_348 (lv_at hl 1 rfl) ?_
  refine lv_if_ne (tgt := 365) hx hb dL_law_350 (by decide) (fun _ => ?_) (fun q8 => absurd q8 (by decide))
  refine lv_goto (tgt := 2161) hx hb dL_law_365 (by decide) ?_
  refine W.widen (k := cells + 30) (n := slots + 200) (show cells + 2 ≤ cells + 30 by omega) (show slots + 12 ≤ slots + 200 by omega) ?_
  exact kk U f 1 k _ _ _ hw (lv_sub hl [2, 3, 4, 5, 6] rfl)

set_option maxHeartbeats 4000000 in
set_option maxRecDepth 100000 in
theorem la_addSailor_1b_f {p9 : Program} {l : Launch} {e : Env} {s9 : State} {m : MethodId} {below : List Frame} {meth : Method} {c : Code} {b L : Nat} {xs : Nat → Int32} (C0 : lw_At p9 s9 m meth c b L xs) (hflags : l.stackTraces = false) (hL : L ≤ 2048) (E : Ev) (hK : va_K E.1 vwCl (tysE E) s9) (hG : Gx s9) (hZ : Zx (aL s9) s9 s9.heap) {Q : State → Prop} (x o : Nat) (A T B M : Nat → Nat) (S U : CS) (G : HS) (th : Int32) (Hb : MH) (a k : Fn) (f : Nat → Int64) (i cells slots : Nat) (hi : i + 4 ≤ L) (n1 : Nat) (e1 : xs (i + 1) = nI n1) (z2 : Int32) (e2 : xs (i + 2) = z2) (z3 : Int32) (e3 : xs (i + 3) = z3) (hz : z3 = 0) (hy0 : t_addSailor G S (nI n1) z2 = 1) (hy1 : n_ns Hb ≤ 5) (hy2 : n_np Hb ≤ 16) (hy3 : n_nw Hb ≤ 4) (hy4 : ∀ p, p < n_np Hb → n_so Hb p < 5) (hy5 : n1 < n_ns Hb) (hy6 : d_in z2 0 (n_ma Hb n1 - 1) = false) (hc9 : cells + 30 ≤ 1033879) (hs9 : slots + 200 ≤ 5994467) (kk : ∀ (U1 : CS) (f1 : Nat → Int64) (t1 : Int32) (k1 : Fn) (H : Heap) (locs : List Loc) (ls : Array Slot), Wd E (aL s9) s9.heap (wX x A T B ++ wC E A (B 0) S ++ wC E T (B 0) U1 ++ wG E B G ++ [(o, aJ E 1 f1)] ++ wN E M (t1, Hb, a, k1)) H locs → lv_has ls 9 [(0, .ref b), (1, .ref x), (2, .ref (M 0)), (3, .ref o), (4, .int (nI i))] → W p9 l e room_1 s9 m #[Value.ref b] below meth c H locs (cells + 30) (slots + 200) Q (F0 m 2161 ls [])) {H : Heap} {locs : List Loc} {ls : Array Slot} (hw : Wd E (aL s9) s9.heap (wX x A T B ++ wC E A (B 0) S ++ wC E T (B 0) U ++ wG E B G ++ [(o, aJ E 1 f)] ++ wN E M (th, Hb, a, k)) H locs) (hl : lv_has ls 9 [(0, .ref b), (1, .ref x), (2, .ref (M 0)), (3, .ref o), (4, .int (nI i))]) : W p9 l e room_1 s9 m #[Value.ref b] below meth c H locs cells slots Q (F0 m 272 ls []) := by
  obtain ⟨hx, hb, hr, hml, hown, hts0, hX, hbl, hlocks, hgv⟩ := C0
  have hts : ∀ w ∈ wsL_law, w.before #[Value.ref b] s9 = true := fun w h => hts0 w (wsL_law_in w h)
  have hown : s9.vm.findClass RL = some m.cls := hown
  have hA : ∀ q, s9.heap.size ≤ q → aL s9 q := fun _ h => h
  refine lv_aload_n hx hb dL_law_272 rfl (lv_at hl 1 rfl) ?_
  refine lv_aload_n hx hb dL_law_273 rfl (lv_at hl 0 rfl) ?_
  refine lv_iload hx hb dL_law_274 (lv_at hl 4 rfl) ?_
  refine lv_iconst (v := 1) hx hb dL_law_276 (by decide) ?_
  refine k_iaddN (a := i) (b := 1) hx hb dL_law_277 ?_
  refine k_sldv (i := i + 1) (v := nI n1) hx hb hX hbl hw (by omega) (by omega) e1 dL_law_278 ?_
  refine lv_aload_n hx hb dL_law_279 rfl (lv_at hl 0 rfl) ?_
  refine lv_iload hx hb dL_law_280 (lv_at hl 4 rfl) ?_
  refine lv_iconst (v := 2) hx hb dL_law_282 (by decide) ?_
  refine k_iaddN (a := i) (b := 2) hx hb dL_law_283 ?_
  refine k_sldv (i := i + 2) (v := z2) hx hb hX hbl hw (by omega) (by omega) e2 dL_law_284 ?_
  refine lv_aload_n hx hb dL_law_285 rfl (lv_at hl 0 rfl) ?_
  refine lv_iload hx hb dL_law_286 (lv_at hl 4 rfl) ?_
  refine lv_iconst (v := 3) hx hb dL_law_288 (by decide) ?_
  refine k_iaddN (a := i) (b := 3) hx hb dL_law_289 ?_
  refine k_sldv (i := i + 3) (v := z3) hx hb hX hbl hw (by omega) (by omega) e3 dL_law_290 ?_
  refine lv_if_eq (tgt := 298) hx hb dL_law_291 (by decide) (fun _ => ?_) (fun q8 => absurd hz q8)
  refine lv_iconst (v := 0) hx hb dL_law_298 (by decide) ?_
  refine lv_aload_n hx hb dL_law_299 rfl (lv_at hl 3 rfl) ?_
  refine krx_i (ws' := wX x A T B ++ wC E A (B 0) S ++ wC E T (B 0) U ++ wG E B G ++ [(o, aJ E 1 f)] ++ wN E M (th, Hb, a, k)) (vx_runSX (As := [.ref x, .int (nI n1), .int z2, .int 0, .ref o]) (rest := []) ⟨hx, hb, hml, hown, hts⟩ (c_L_addSailor_1 l hflags E x A T B S U G (nI n1) z2 false o f hy0 _) (vx_cwSW 5 hts gL_law_L_addSailor rfl rfl rfl hd_L_addSailor ⟨Nat.le_of_ble_eq_true rfl, Nat.le_of_ble_eq_true rfl⟩) (rpX (AV := [.ref x, .int (nI n1), .int z2, .int 0, .ref o]) hw hK hG hZ hA rp_86) rfl rfl hl.1 rfl (lv_room (Nat.le_of_ble_eq_true rfl)) dL_law_300 ⟨(show cells + 2 ≤ 1033879 by omega), (show slots + 12 ≤ 5994467 by omega)⟩) hw hA rp_86 rp_86 (fun H locs ce9 q9 t_1 hw hy1 hy2 hy3 => absurd rfl t_1) (fun H locs t_1 hw => ?_)
  refine lv_istore (lv' := [(5, .int 1), (0, .ref b), (1, .ref x), (2, .ref (M 0)), (3, .ref o), (4, .int (nI i))]) hx hb dL_law_303 hl (by decide) rfl (fun ls hl => ?_)
  refine lv_aload_n hx hb dL_law_305 rfl (lv_at hl 3 rfl) ?_
  refine lv_aload_n hx hb dL_law_306 rfl (lv_at hl 1 rfl) ?_
  refine lv_iload hx hb dL_law_307 (lv_at hl 5 rfl) ?_
  refine lv_iconst (v := 1) hx hb dL_law_309 (by decide) ?_
  refine k_iaddN (a := i) (b := 1) hx hb dL_law_310 ?_
  refine k_sldv (i := i + 1) (v := nI n1) hx hb hX hbl hw (by omega) (by omega) e1 dL_law_311 ?_
  refine lv_aload_n hx hb dL_law_312 rfl (lv_at hl 1 rfl) ?_
  refine lv_iload hx hb dL_law_313 (lv_at hl 5 rfl) ?_
  refine lv_iconst (v := 2) hx hb dL_law_315 (by decide) ?_
  refine k_iaddN (a := i) (b := 2) hx hb dL_law_316 ?_
  refine k_sldv (i := i + 2) (v := z2) hx hb hX hbl hw (by omega) (by omega) e2 dL_law_317 ?_
  refine lv_aload_n hx hb dL_law_318 rfl (lv_at hl 1 rfl) ?_
  refine lv_iload hx hb dL_law_319 (lv_at hl 5 rfl) ?_
  refine lv_iconst (v := 3) hx hb dL_law_321 (by decide) ?_
  refine k_iaddN (a := i) (b := 3) hx hb dL_law_322 ?_
  refine k_sldv (i := i + 3) (v := z3) hx hb hX hbl hw (by omega) (by omega) e3 dL_law_323 ?_
  refine lv_if_eq (tgt := 331) hx hb dL_law_324 (by decide) (fun _ => ?_) (fun q8 => absurd hz q8)
  refine lv_iconst (v := 0) hx hb dL_law_331 (by decide) ?_
  refine kr_i (ws' := wX x A T B ++ wC E A (B 0) S ++ wC E T (B 0) U ++ wG E B G ++ [(o, aJ E 1 f)] ++ wN E M (1, Hb, a, k)) (va_runV (As := [.int (nI n1), .int z2, .int 0]) (rest := []) ⟨hx, hb, hml, hown, hts⟩ (c_X3_addSailor_1b l E M th Hb a k n1 z2 false hy1 hy2 hy3 hy4 hy5 hy6 _) (cwV 3 hts gL_law_X3_addSailor rfl rfl rfl ⟨rfl, hd_X3_addSailor⟩ ⟨Nat.le_of_ble_eq_true rfl, Nat.le_of_ble_eq_true rfl⟩) (pwV (ci := 3) (q0 := 22) (C := RX3) hw hK rfl rfl rfl (rpS (AV := [.ref (M 0), .int (nI n1), .int z2, .int 0]) hw hK hG rp_88)) rfl rfl hl.1 rfl (lv_room (Nat.le_of_ble_eq_true rfl)) dL_law_332 ⟨(show cells + 2 + 0 ≤ 1033879 by omega), (show slots + 12 + 0 ≤ 5994467 by omega)⟩) hw hA rp_87 (fun H locs hw => ?_)
  refine lv_istore (lv' := [(6, .int 0), (5, .int 1), (0, .ref b), (1, .ref x), (2, .ref (M 0)), (3, .ref o), (4, .int (nI i))]) hx hb dL_law_335 hl (by decide) rfl (fun ls hl => ?_)
  refine lv_aload_n hx hb dL_law_337 rfl (lv_at hl 4 rfl) ?_
  refine kr_i (ws' := wX x A T B ++ wC E A (B 0) S ++ wC E T (B 0) U ++ wG E B G ++ [(o, aJ E 1 f)] ++ wN E M (1, Hb, a, k)) (va_runV (As := []) (rest := []) ⟨hx, hb, hml, hown, hts⟩ (c_X3_thrown l E M 1 Hb a k  _) (cwV 0 hts gL_law_X3_thrown rfl rfl rfl ⟨rfl, hd_X3_thrown⟩ ⟨Nat.le_of_ble_eq_true rfl, Nat.le_of_ble_eq_true rfl⟩) (pwV (ci := 3) (q0 := 22) (C := RX3) hw hK rfl rfl rfl (rpS (AV := [.ref (M 0)]) hw hK hG rp_88)) rfl rfl hl.1 rfl (lv_room (Nat.le_of_ble_eq_true rfl)) dL_law_338 ⟨(show cells + 2 + 0 ≤ 1033879 by omega), (show slots + 12 + 0 ≤ 5994467 by omega)⟩) hw hA rp_88 (fun H locs hw => ?_)
  refine lv_iload hx hb dL_law_341 (lv_at hl 1 rfl) ?_
  refine lv_icmp_eq (tgt := 348) hx hb dL_law_343 (by decide) (fun _ => ?_) (fun q8 => absurd (by decide) q8)
  refine lv_iload hx hb dL_law_348 (lv_at hl 1 rfl) ?_
  refine lv_if_ne (tgt := 365) hx hb dL_law_350 (by decide) (fun _ => ?_) (fun q8 => absurd q8 (by decide))
  refine lv_goto (tgt := 2161) hx hb dL_law_365 (by decide) ?_
  refine W.widen (k := cells + 30) (n := slots + 200) (show cells + 2 ≤ cells + 30 by omega) (show slots + 12 ≤ slots + 200 by omega) ?_
  exact kk U f 1 k _ _ _ hw (lv_sub hl [2, 3, 4, 5, 6] rfl)

set_option maxHeartbeats 4000000 in
set_option maxRecDepth 100000 in
theorem la_addSailor_2_t {p9 : Program} {l : Launch} {e : Env} {s9 : State} {m : MethodId} {below : List Frame} {meth : Method} {c : Code} {b L : Nat} {xs : Nat → Int32} (C0 : lw_At p9 s9 m meth c b L xs) (hflags : l.stackTraces = false) (hL : L ≤ 2048) (E : Ev) (hK : va_K E.1 vwCl (tysE E) s9) (hG : Gx s9) (hZ : Zx (aL s9) s9 s9.heap) {Q : State → Prop} (x o : Nat) (A T B M : Nat → Nat) (S U : CS) (G : HS) (th : Int32) (Hb : MH) (a k : Fn) (f : Nat → Int64) (i cells slots : Nat) (hi : i + 4 ≤ L) (n1 : Nat) (e1 : xs (i + 1) = nI n1) (z2 : Int32) (e2 : xs (i + 2) = z2) (z3 : Int32) (e3 : xs (i + 3) = z3) (hz : ¬ z3 = 0) (hy0 : t_addSailor G S (nI n1) z2 = 2) (hy1 : n_ns Hb ≤ 5) (hy2 : n_np Hb ≤ 16) (hy3 : n_nw Hb ≤ 4) (hy4 : ∀ p, p < n_np Hb → n_so Hb p < 5) (hy5 : n1 < n_ns Hb) (hy6 : d_in z2 0 (n_ma Hb n1 - 1) = true) (hy7 : ¬ a (3 + 3 * n1 + 0) = 0) (hc9 : cells + 30 ≤ 1033879) (hs9 : slots + 200 ≤ 5994467) (kk : ∀ (U1 : CS) (f1 : Nat → Int64) (t1 : Int32) (k1 : Fn) (H : Heap) (locs : List Loc) (ls : Array Slot), Wd E (aL s9) s9.heap (wX x A T B ++ wC E A (B 0) S ++ wC E T (B 0) U1 ++ wG E B G ++ [(o, aJ E 1 f1)] ++ wN E M (t1, Hb, a, k1)) H locs → lv_has ls 9 [(0, .ref b), (1, .ref x), (2, .ref (M 0)), (3, .ref o), (4, .int (nI i))] → W p9 l e room_1 s9 m #[Value.ref b] below meth c H locs (cells + 30) (slots + 200) Q (F0 m 2161 ls [])) {H : Heap} {locs : List Loc} {ls : Array Slot} (hw : Wd E (aL s9) s9.heap (wX x A T B ++ wC E A (B 0) S ++ wC E T (B 0) U ++ wG E B G ++ [(o, aJ E 1 f)] ++ wN E M (th, Hb, a, k)) H locs) (hl : lv_has ls 9 [(0, .ref b), (1, .ref x), (2, .ref (M 0)), (3, .ref o), (4, .int (nI i))]) : W p9 l e room_1 s9 m #[Value.ref b] below meth c H locs cells slots Q (F0 m 272 ls []) := by
  obtain ⟨hx, hb, hr, hml, hown, hts0, hX, hbl, hlocks, hgv⟩ := C0
  have hts : ∀ w ∈ wsL_law, w.before #[Value.ref b] s9 = true := fun w h => hts0 w (wsL_law_in w h)
  have hown : s9.vm.findClass RL = some m.cls := hown
  have hA : ∀ q, s9.heap.size ≤ q → aL s9 q := fun _ h => h
  refine lv_aload_n hx hb dL_law_272 rfl (lv_at hl 1 rfl) ?_
  refine lv_aload_n hx hb dL_law_273 rfl (lv_at hl 0 rfl) ?_
  refine lv_iload hx hb dL_law_274 (lv_at hl 4 rfl) ?_
  refine lv_iconst (v := 1) hx hb dL_law_276 (by decide) ?_
  refine k_iaddN (a := i) (b := 1) hx hb dL_law_277 ?_
  refine k_sldv (i := i + 1) (v := nI n1) hx hb hX hbl hw (by omega) (by omega) e1 dL_law_278 ?_
  refine lv_aload_n hx hb dL_law_279 rfl (lv_at hl 0 rfl) ?_
  refine lv_iload hx hb dL_law_280 (lv_at hl 4 rfl) ?_
  refine lv_iconst (v := 2) hx hb dL_law_282 (by decide) ?_
  refine k_iaddN (a := i) (b := 2) hx hb dL_law_283 ?_
  refine k_sldv (i := i + 2) (v := z2) hx hb hX hbl hw (by omega) (by omega) e2 dL_law_284 ?_
  refine lv_aload_n hx hb dL_law_285 rfl (lv_at hl 0 rfl) ?_
  refine lv_iload hx hb dL_law_286 (lv_at hl 4 rfl) ?_
  refine lv_iconst (v := 3) hx hb dL_law_288 (by decide) ?_
  refine k_iaddN (a := i) (b := 3) hx hb dL_law_289 ?_
  refine k_sldv (i := i + 3) (v := z3) hx hb hX hbl hw (by omega) (by omega) e3 dL_law_290 ?_
  refine lv_if_eq (tgt := 298) hx hb dL_law_291 (by decide) (fun q8 => absurd q8 hz) (fun _ => ?_)
  refine lv_iconst (v := 1) hx hb dL_law_294 (by decide) ?_
  refine lv_goto (tgt := 299) hx hb dL_law_295 (by decide) ?_
  refine lv_aload_n hx hb dL_law_299 rfl (lv_at hl 3 rfl) ?_
  refine krx_i (ws' := wX x A T B ++ wC E A (B 0) S ++ wC E T (B 0) U ++ wG E B G ++ [(o, aJ E 1 f)] ++ wN E M (th, Hb, a, k)) (vx_runSX (As := [.ref x, .int (nI n1), .int z2, .int 1, .ref o]) (rest := []) ⟨hx, hb, hml, hown, hts⟩ (c_L_addSailor_2 l hflags E x A T B S U G (nI n1) z2 true o f hy0 _) (vx_cwSW 5 hts gL_law_L_addSailor rfl rfl rfl hd_L_addSailor ⟨Nat.le_of_ble_eq_true rfl, Nat.le_of_ble_eq_true rfl⟩) (rpX (AV := [.ref x, .int (nI n1), .int z2, .int 1, .ref o]) hw hK hG hZ hA rp_86) rfl rfl hl.1 rfl (lv_room (Nat.le_of_ble_eq_true rfl)) dL_law_300 ⟨(show cells + 2 ≤ 1033879 by omega), (show slots + 12 ≤ 5994467 by omega)⟩) hw hA rp_86 rp_86 (fun H locs ce9 q9 t_1 hw hy1 hy2 hy3 => absurd rfl t_1) (fun H locs t_1 hw => ?_)
  refine lv_istore (lv' := [(5, .int 2), (0, .ref b), (1, .ref x), (2, .ref (M 0)), (3, .ref o), (4, .int (nI i))]) hx hb dL_law_303 hl (by decide) rfl (fun ls hl => ?_)
  refine lv_aload_n hx hb dL_law_305 rfl (lv_at hl 3 rfl) ?_
  refine lv_aload_n hx hb dL_law_306 rfl (lv_at hl 1 rfl) ?_
  refine lv_iload hx hb dL_law_307 (lv_at hl 5 rfl) ?_
  refine lv_iconst (v := 1) hx hb dL_law_309 (by decide) ?_
  refine k_iaddN (a := i) (b := 1) hx hb dL_law_310 ?_
  refine k_sldv (i := i + 1) (v := nI n1) hx hb hX hbl hw (by omega) (by omega) e1 dL_law_311 ?_
  refine lv_aload_n hx hb dL_law_312 rfl (lv_at hl 1 rfl) ?_
  refine lv_iload hx hb dL_law_313 (lv_at hl 5 rfl) ?_
  refine lv_iconst (v := 2) hx hb dL_law_315 (by decide) ?_
  refine k_iaddN (a := i) (b := 2) hx hb dL_law_316 ?_
  refine k_sldv (i := i + 2) (v := z2) hx hb hX hbl hw (by omega) (by omega) e2 dL_law_317 ?_
  refine lv_aload_n hx hb dL_law_318 rfl (lv_at hl 1 rfl) ?_
  refine lv_iload hx hb dL_law_319 (lv_at hl 5 rfl) ?_
  refine lv_iconst (v := 3) hx hb dL_law_321 (by decide) ?_
  refine k_iaddN (a := i) (b := 3) hx hb dL_law_322 ?_
  refine k_sldv (i := i + 3) (v := z3) hx hb hX hbl hw (by omega) (by omega) e3 dL_law_323 ?_
  refine lv_if_eq (tgt := 331) hx hb dL_law_324 (by decide) (fun q8 => absurd q8 hz) (fun _ => ?_)
  refine lv_iconst (v := 1) hx hb dL_law_327 (by decide) ?_
  refine lv_goto (tgt := 332) hx hb dL_law_328 (by decide) ?_
  refine kr_i (ws' := wX x A T B ++ wC E A (B 0) S ++ wC E T (B 0) U ++ wG E B G ++ [(o, aJ E 1 f)] ++ wN E M (2, Hb, a, k)) (va_runV (As := [.int (nI n1), .int z2, .int 1]) (rest := []) ⟨hx, hb, hml, hown, hts⟩ (c_X3_addSailor_2 l E M th Hb a k n1 z2 true hy1 hy2 hy3 hy4 hy5 hy6 hy7 _) (cwV 3 hts gL_law_X3_addSailor rfl rfl rfl ⟨rfl, hd_X3_addSailor⟩ ⟨Nat.le_of_ble_eq_true rfl, Nat.le_of_ble_eq_true rfl⟩) (pwV (ci := 3) (q0 := 22) (C := RX3) hw hK rfl rfl rfl (rpS (AV := [.ref (M 0), .int (nI n1), .int z2, .int 1]) hw hK hG rp_88)) rfl rfl hl.1 rfl (lv_room (Nat.le_of_ble_eq_true rfl)) dL_law_332 ⟨(show cells + 2 + 0 ≤ 1033879 by omega), (show slots + 12 + 0 ≤ 5994467 by omega)⟩) hw hA rp_87 (fun H locs hw => ?_)
  refine lv_istore (lv' := [(6, .int 0), (5, .int 2), (0, .ref b), (1, .ref x), (2, .ref (M 0)), (3, .ref o), (4, .int (nI i))]) hx hb dL_law_335 hl (by decide) rfl (fun ls hl => ?_)
  refine lv_aload_n hx hb dL_law_337 rfl (lv_at hl 4 rfl) ?_
  refine kr_i (ws' := wX x A T B ++ wC E A (B 0) S ++ wC E T (B 0) U ++ wG E B G ++ [(o, aJ E 1 f)] ++ wN E M (2, Hb, a, k)) (va_runV (As := []) (rest := []) ⟨hx, hb, hml, hown, hts⟩ (c_X3_thrown l E M 2 Hb a k  _) (cwV 0 hts gL_law_X3_thrown rfl rfl rfl ⟨rfl, hd_X3_thrown⟩ ⟨Nat.le_of_ble_eq_true rfl, Nat.le_of_ble_eq_true rfl⟩) (pwV (ci := 3) (q0 := 22) (C := RX3) hw hK rfl rfl rfl (rpS (AV := [.ref (M 0)]) hw hK hG rp_88)) rfl rfl hl.1 rfl (lv_room (Nat.le_of_ble_eq_true rfl)) dL_law_338 ⟨(show cells + 2 + 0 ≤ 1033879 by omega), (show slots + 12 + 0 ≤ 5994467 by omega)⟩) hw hA rp_88 (fun H locs hw => ?_)
  refine lv_iload hx hb dL_law_341 (lv_at hl 1 rfl) ?_
  refine lv_icmp_eq (tgt := 348) hx hb dL_law_343 (by decide) (fun _ => ?_) (fun q8 => absurd (by decide) q8)
  refine lv_iload hx hb dL_law_348 (lv_at hl 1 rfl) ?_
  refine lv_if_ne (tgt := 365) hx hb dL_law_350 (by decide) (fun _ => ?_) (fun q8 => absurd q8 (by decide))
  refine lv_goto (tgt := 2161) hx hb dL_law_365 (by decide) ?_
  refine W.widen (k := cells + 30) (n := slots + 200) (show cells + 2 ≤ cells + 30 by omega) (show slots + 12 ≤ slots + 200 by omega) ?_
  exact kk U f 2 k _ _ _ hw (lv_sub hl [2, 3, 4, 5, 6] rfl)

set_option maxHeartbeats 4000000 in
set_option maxRecDepth 100000 in
theorem la_addSailor_2_f {p9 : Program} {l : Launch} {e : Env} {s9 : State} {m : MethodId} {below : List Frame} {meth : Method} {c : Code} {b L : Nat} {xs : Nat → Int32} (C0 : lw_At p9 s9 m meth c b L xs) (hflags : l.stackTraces = false) (hL : L ≤ 2048) (E : Ev) (hK : va_K E.1 vwCl (tysE E) s9) (hG : Gx s9) (hZ : Zx (aL s9) s9 s9.heap) {Q : State → Prop} (x o : Nat) (A T B M : Nat → Nat) (S U : CS) (G : HS) (th : Int32) (Hb : MH) (a k : Fn) (f : Nat → Int64) (i cells slots : Nat) (hi : i + 4 ≤ L) (n1 : Nat) (e1 : xs (i + 1) = nI n1) (z2 : Int32) (e2 : xs (i + 2) = z2) (z3 : Int32) (e3 : xs (i + 3) = z3) (hz : z3 = 0) (hy0 : t_addSailor G S (nI n1) z2 = 2) (hy1 : n_ns Hb ≤ 5) (hy2 : n_np Hb ≤ 16) (hy3 : n_nw Hb ≤ 4) (hy4 : ∀ p, p < n_np Hb → n_so Hb p < 5) (hy5 : n1 < n_ns Hb) (hy6 : d_in z2 0 (n_ma Hb n1 - 1) = true) (hy7 : ¬ a (3 + 3 * n1 + 0) = 0) (hc9 : cells + 30 ≤ 1033879) (hs9 : slots + 200 ≤ 5994467) (kk : ∀ (U1 : CS) (f1 : Nat → Int64) (t1 : Int32) (k1 : Fn) (H : Heap) (locs : List Loc) (ls : Array Slot), Wd E (aL s9) s9.heap (wX x A T B ++ wC E A (B 0) S ++ wC E T (B 0) U1 ++ wG E B G ++ [(o, aJ E 1 f1)] ++ wN E M (t1, Hb, a, k1)) H locs → lv_has ls 9 [(0, .ref b), (1, .ref x), (2, .ref (M 0)), (3, .ref o), (4, .int (nI i))] → W p9 l e room_1 s9 m #[Value.ref b] below meth c H locs (cells + 30) (slots + 200) Q (F0 m 2161 ls [])) {H : Heap} {locs : List Loc} {ls : Array Slot} (hw : Wd E (aL s9) s9.heap (wX x A T B ++ wC E A (B 0) S ++ wC E T (B 0) U ++ wG E B G ++ [(o, aJ E 1 f)] ++ wN E M (th, Hb, a, k)) H locs) (hl : lv_has ls 9 [(0, .ref b), (1, .ref x), (2, .ref (M 0)), (3, .ref o), (4, .int (nI i))]) : W p9 l e room_1 s9 m #[Value.ref b] below meth c H locs cells slots Q (F0 m 272 ls []) := by
  obtain ⟨hx, hb, hr, hml, hown, hts0, hX, hbl, hlocks, hgv⟩ := C0
  have hts : ∀ w ∈ wsL_law, w.before #[Value.ref b] s9 = true := fun w h => hts0 w (wsL_law_in w h)
  have hown : s9.vm.findClass RL = some m.cls := hown
  have hA : ∀ q, s9.heap.size ≤ q → aL s9 q := fun _ h => h
  refine lv_aload_n hx hb dL_law_272 rfl (lv_at hl 1 rfl) ?_
  refine lv_aload_n hx hb dL_law_273 rfl (lv_at hl 0 rfl) ?_
  refine lv_iload hx hb dL_law_274 (lv_at hl 4 rfl) ?_
  refine lv_iconst (v := 1) hx hb dL_law_276 (by decide) ?_
  refine k_iaddN (a := i) (b := 1) hx hb dL_law_277 ?_
  refine k_sldv (i := i + 1) (v := nI n1) hx hb hX hbl hw (by omega) (by omega) e1 dL_law_278 ?_
  refine lv_aload_n hx hb dL_law_279 rfl (lv_at hl 0 rfl) ?_
  refine lv_iload hx hb dL_law_280 (lv_at hl 4 rfl) ?_
  refine lv_iconst (v := 2) hx hb dL_law_282 (by decide) ?_
  refine k_iaddN (a := i) (b := 2) hx hb dL_law_283 ?_
  refine k_sldv (i := i + 2) (v := z2) hx hb hX hbl hw (by omega) (by omega) e2 dL_law_284 ?_
  refine lv_aload_n hx hb dL_law_285 rfl (lv_at hl 0 rfl) ?_
  refine lv_iload hx hb dL_law_286 (lv_at hl 4 rfl) ?_
  refine lv_iconst (v := 3) hx hb dL_law_288 (by decide) ?_
  refine k_iaddN (a := i) (b := 3) hx hb dL_law_289 ?_
  refine k_sldv (i := i + 3) (v := z3) hx hb hX hbl hw (by omega) (by omega) e3 dL_law_290 ?_
  refine lv_if_eq (tgt := 298) hx hb dL_law_291 (by decide) (fun _ => ?_) (fun q8 => absurd hz q8)
  refine lv_iconst (v := 0) hx hb dL_law_298 (by decide) ?_
  refine lv_aload_n hx hb dL_law_299 rfl (lv_at hl 3 rfl) ?_
  refine krx_i (ws' := wX x A T B ++ wC E A (B 0) S ++ wC E T (B 0) U ++ wG E B G ++ [(o, aJ E 1 f)] ++ wN E M (th, Hb, a, k)) (vx_runSX (As := [.ref x, .int (nI n1), .int z2, .int 0, .ref o]) (rest := []) ⟨hx, hb, hml, hown, hts⟩ (c_L_addSailor_2 l hflags E x A T B S U G (nI n1) z2 false o f hy0 _) (vx_cwSW 5 hts gL_law_L_addSailor rfl rfl rfl hd_L_addSailor ⟨Nat.le_of_ble_eq_true rfl, Nat.le_of_ble_eq_true rfl⟩) (rpX (AV := [.ref x, .int (nI n1), .int z2, .int 0, .ref o]) hw hK hG hZ hA rp_86) rfl rfl hl.1 rfl (lv_room (Nat.le_of_ble_eq_true rfl)) dL_law_300 ⟨(show cells + 2 ≤ 1033879 by omega), (show slots + 12 ≤ 5994467 by omega)⟩) hw hA rp_86 rp_86 (fun H locs ce9 q9 t_1 hw hy1 hy2 hy3 => absurd rfl t_1) (fun H locs t_1 hw => ?_)
  refine lv_istore (lv' := [(5, .int 2), (0, .ref b), (1, .ref x), (2, .ref (M 0)), (3, .ref o), (4, .int (nI i))]) hx hb dL_law_303 hl (by decide) rfl (fun ls hl => ?_)
  refine lv_aload_n hx hb dL_law_305 rfl (lv_at hl 3 rfl) ?_
  refine lv_aload_n hx hb dL_law_306 rfl (lv_at hl 1 rfl) ?_
  refine lv_iload hx hb dL_law_307 (lv_at hl 5 rfl) ?_
  refine lv_iconst (v := 1) hx hb dL_law_309 (by decide) ?_
  refine k_iaddN (a := i) (b := 1) hx hb dL_law_310 ?_
  refine k_sldv (i := i + 1) (v := nI n1) hx hb hX hbl hw (by omega) (by omega) e1 dL_law_311 ?_
  refine lv_aload_n hx hb dL_law_312 rfl (lv_at hl 1 rfl) ?_
  refine lv_iload hx hb dL_law_313 (lv_at hl 5 rfl) ?_
  refine lv_iconst (v := 2) hx hb dL_law_315 (by decide) ?_
  refine k_iaddN (a := i) (b := 2) hx hb dL_law_316 ?_
  refine k_sldv (i := i + 2) (v := z2) hx hb hX hbl hw (by omega) (by omega) e2 dL_law_317 ?_
  refine lv_aload_n hx hb dL_law_318 rfl (lv_at hl 1 rfl) ?_
  refine lv_iload hx hb dL_law_319 (lv_at hl 5 rfl) ?_
  refine lv_iconst (v := 3) hx hb dL_law_321 (by decide) ?_
  refine k_iaddN (a := i) (b := 3) hx hb dL_law_322 ?_
  refine k_sldv (i := i + 3) (v := z3) hx hb hX hbl hw (by omega) (by omega) e3 dL_law_323 ?_
  refine lv_if_eq (tgt := 331) hx hb dL_law_324 (by decide) (fun _ => ?_) (fun q8 => absurd hz q8)
  refine lv_iconst (v := 0) hx hb dL_law_331 (by decide) ?_
  refine kr_i (ws' := wX x A T B ++ wC E A (B 0) S ++ wC E T (B 0) U ++ wG E B G ++ [(o, aJ E 1 f)] ++ wN E M (2, Hb, a, k)) (va_runV (As := [.int (nI n1), .int z2, .int 0]) (rest := []) ⟨hx, hb, hml, hown, hts⟩ (c_X3_addSailor_2 l E M th Hb a k n1 z2 false hy1 hy2 hy3 hy4 hy5 hy6 hy7 _) (cwV 3 hts gL_law_X3_addSailor rfl rfl rfl ⟨rfl, hd_X3_addSailor⟩ ⟨Nat.le_of_ble_eq_true rfl, Nat.le_of_ble_eq_true rfl⟩) (pwV (ci := 3) (q0 := 22) (C := RX3) hw hK rfl rfl rfl (rpS (AV := [.ref (M 0), .int (nI n1), .int z2, .int 0]) hw hK hG rp_88)) rfl rfl hl.1 rfl (lv_room (Nat.le_of_ble_eq_true rfl)) dL_law_332 ⟨(show cells + 2 + 0 ≤ 1033879 by omega), (show slots + 12 + 0 ≤ 5994467 by omega)⟩) hw hA rp_87 (fun H locs hw => ?_)
  refine lv_istore (lv' := [(6, .int 0), (5, .int 2), (0, .ref b), (1, .ref x), (2, .ref (M 0)), (3, .ref o), (4, .int (nI i))]) hx hb dL_law_335 hl (by decide) rfl (fun ls hl => ?_)
  refine lv_aload_n hx hb dL_law_337 rfl (lv_at hl 4 rfl) ?_
  refine kr_i (ws' := wX x A T B ++ wC E A (B 0) S ++ wC E T (B 0) U ++ wG E B G ++ [(o, aJ E 1 f)] ++ wN E M (2, Hb, a, k)) (va_runV (As := []) (rest := []) ⟨hx, hb, hml, hown, hts⟩ (c_X3_thrown l E M 2 Hb a k  _) (cwV 0 hts gL_law_X3_thrown rfl rfl rfl ⟨rfl, hd_X3_thrown⟩ ⟨Nat.le_of_ble_eq_true rfl, Nat.le_of_ble_eq_true rfl⟩) (pwV (ci := 3) (q0 := 22) (C := RX3) hw hK rfl rfl rfl (rpS (AV := [.ref (M 0)]) hw hK hG rp_88)) rfl rfl hl.1 rfl (lv_room (Nat.le_of_ble_eq_true rfl)) dL_law_338 ⟨(show cells + 2 + 0 ≤ 1033879 by omega), (show slots + 12 + 0 ≤ 5994467 by omega)⟩) hw hA rp_88 (fun H locs hw => ?_)
  refine lv_iload hx hb dL_law_341 (lv_at hl 1 rfl) ?_
  refine lv_icmp_eq (tgt := 348) hx hb dL_law_343 (by decide) (fun _ => ?_) (fun q8 => absurd (by decide) q8)
  refine lv_iload hx hb dL_law_348 (lv_at hl 1 rfl) ?_
  refine lv_if_ne (tgt := 365) hx hb dL_law_350 (by decide) (fun _ => ?_) (fun q8 => absurd q8 (by decide))
  refine lv_goto (tgt := 2161) hx hb dL_law_365 (by decide) ?_
  refine W.widen (k := cells + 30) (n := slots + 200) (show cells + 2 ≤ cells + 30 by omega) (show slots + 12 ≤ slots + 200 by omega) ?_
  exact kk U f 2 k _ _ _ hw (lv_sub hl [2, 3, 4, 5, 6] rfl)

set_option maxHeartbeats 4000000 in
set_option maxRecDepth 100000 in
theorem la_addSailor_2b_t {p9 : Program} {l : Launch} {e : Env} {s9 : State} {m : MethodId} {below : List Frame} {meth : Method} {c : Code} {b L : Nat} {xs : Nat → Int32} (C0 : lw_At p9 s9 m meth c b L xs) (hflags : l.stackTraces = false) (hL : L ≤ 2048) (E : Ev) (hK : va_K E.1 vwCl (tysE E) s9) (hG : Gx s9) (hZ : Zx (aL s9) s9 s9.heap) {Q : State → Prop} (x o : Nat) (A T B M : Nat → Nat) (S U : CS) (G : HS) (th : Int32) (Hb : MH) (a k : Fn) (f : Nat → Int64) (i cells slots : Nat) (hi : i + 4 ≤ L) (n1 : Nat) (e1 : xs (i + 1) = nI n1) (z2 : Int32) (e2 : xs (i + 2) = z2) (z3 : Int32) (e3 : xs (i + 3) = z3) (hz : ¬ z3 = 0) (hy0 : t_addSailor G S (nI n1) z2 = 2) (hy1 : n_ns Hb ≤ 5) (hy2 : n_np Hb ≤ 16) (hy3 : n_nw Hb ≤ 4) (hy4 : ∀ p, p < n_np Hb → n_so Hb p < 5) (hy5 : n1 < n_ns Hb) (hy6 : d_in z2 0 (n_ma Hb n1 - 1) = true) (hy7 : a (3 + 3 * n1 + 0) = 0) (hy8 : n_np Hb = 16) (hc9 : cells + 30 ≤ 1033879) (hs9 : slots + 200 ≤ 5994467) (kk : ∀ (U1 : CS) (f1 : Nat → Int64) (t1 : Int32) (k1 : Fn) (H : Heap) (locs : List Loc) (ls : Array Slot), Wd E (aL s9) s9.heap (wX x A T B ++ wC E A (B 0) S ++ wC E T (B 0) U1 ++ wG E B G ++ [(o, aJ E 1 f1)] ++ wN E M (t1, Hb, a, k1)) H locs → lv_has ls 9 [(0, .ref b), (1, .ref x), (2, .ref (M 0)), (3, .ref o), (4, .int (nI i))] → W p9 l e room_1 s9 m #[Value.ref b] below meth c H locs (cells + 30) (slots + 200) Q (F0 m 2161 ls [])) {H : Heap} {locs : List Loc} {ls : Array Slot} (hw : Wd E (aL s9) s9.heap (wX x A T B ++ wC E A (B 0) S ++ wC E T (B 0) U ++ wG E B G ++ [(o, aJ E 1 f)] ++ wN E M (th, Hb, a, k)) H locs) (hl : lv_has ls 9 [(0, .ref b), (1, .ref x), (2, .ref (M 0)), (3, .ref o), (4, .int (nI i))]) : W p9 l e room_1 s9 m #[Value.ref b] below meth c H locs cells slots Q (F0 m 272 ls []) := by
  obtain ⟨hx, hb, hr, hml, hown, hts0, hX, hbl, hlocks, hgv⟩ := C0
  have hts : ∀ w ∈ wsL_law, w.before #[Value.ref b] s9 = true := fun w h => hts0 w (wsL_law_in w h)
  have hown : s9.vm.findClass RL = some m.cls := hown
  have hA : ∀ q, s9.heap.size ≤ q → aL s9 q := fun _ h => h
  refine lv_aload_n hx hb dL_law_272 rfl (lv_at hl 1 rfl) ?_
  refine lv_aload_n hx hb dL_law_273 rfl (lv_at hl 0 rfl) ?_
  refine lv_iload hx hb dL_law_274 (lv_at hl 4 rfl) ?_
  refine lv_iconst (v := 1) hx hb dL_law_276 (by decide) ?_
  refine k_iaddN (a := i) (b := 1) hx hb dL_law_277 ?_
  refine k_sldv (i := i + 1) (v := nI n1) hx hb hX hbl hw (by omega) (by omega) e1 dL_law_278 ?_
  refine lv_aload_n hx hb dL_law_279 rfl (lv_at hl 0 rfl) ?_
  refine lv_iload hx hb dL_law_280 (lv_at hl 4 rfl) ?_
  refine lv_iconst (v := 2) hx hb dL_law_282 (by decide) ?_
  refine k_iaddN (a := i) (b := 2) hx hb dL_law_283 ?_
  refine k_sldv (i := i + 2) (v := z2) hx hb hX hbl hw (by omega) (by omega) e2 dL_law_284 ?_
  refine lv_aload_n hx hb dL_law_285 rfl (lv_at hl 0 rfl) ?_
  refine lv_iload hx hb dL_law_286 (lv_at hl 4 rfl) ?_
  refine lv_iconst (v := 3) hx hb dL_law_288 (by decide) ?_
  refine k_iaddN (a := i) (b := 3) hx hb dL_law_289 ?_
  refine k_sldv (i := i + 3) (v := z3) hx hb hX hbl hw (by omega) (by omega) e3 dL_law_290 ?_
  refine lv_if_eq (tgt := 298) hx hb dL_law_291 (by decide) (fun q8 => absurd q8 hz) (fun _ => ?_)
  refine lv_iconst (v := 1) hx hb dL_law_294 (by decide) ?_
  refine lv_goto (tgt := 299) hx hb dL_law_295 (by decide) ?_
  refine lv_aload_n hx hb dL_law_299 rfl (lv_at hl 3 rfl) ?_
  refine krx_i (ws' := wX x A T B ++ wC E A (B 0) S ++ wC E T (B 0) U ++ wG E B G ++ [(o, aJ E 1 f)] ++ wN E M (th, Hb, a, k)) (vx_runSX (As := [.ref x, .int (nI n1), .int z2, .int 1, .ref o]) (rest := []) ⟨hx, hb, hml, hown, hts⟩ (c_L_addSailor_2 l hflags E x A T B S U G (nI n1) z2 true o f hy0 _) (vx_cwSW 5 hts gL_law_L_addSailor rfl rfl rfl hd_L_addSailor ⟨Nat.le_of_ble_eq_true rfl, Nat.le_of_ble_eq_true rfl⟩) (rpX (AV := [.ref x, .int (nI n1), .int z2, .int 1, .ref o]) hw hK hG hZ hA rp_86) rfl rfl hl.1 rfl (lv_room (Nat.le_of_ble_eq_true rfl)) dL_law_300 ⟨(show cells + 2 ≤ 1033879 by omega), (show slots + 12 ≤ 5994467 by omega)⟩) hw hA rp_86 rp_86 (fun H locs ce9 q9 t_1 hw hy1 hy2 hy3 => absurd rfl t_1) (fun H locs t_1 hw => ?_)
  refine lv_istore (lv' := [(5, .int 2), (0, .ref b), (1, .ref x), (2, .ref (M 0)), (3, .ref o), (4, .int (nI i))]) hx hb dL_law_303 hl (by decide) rfl (fun ls hl => ?_)
  refine lv_aload_n hx hb dL_law_305 rfl (lv_at hl 3 rfl) ?_
  refine lv_aload_n hx hb dL_law_306 rfl (lv_at hl 1 rfl) ?_
  refine lv_iload hx hb dL_law_307 (lv_at hl 5 rfl) ?_
  refine lv_iconst (v := 1) hx hb dL_law_309 (by decide) ?_
  refine k_iaddN (a := i) (b := 1) hx hb dL_law_310 ?_
  refine k_sldv (i := i + 1) (v := nI n1) hx hb hX hbl hw (by omega) (by omega) e1 dL_law_311 ?_
  refine lv_aload_n hx hb dL_law_312 rfl (lv_at hl 1 rfl) ?_
  refine lv_iload hx hb dL_law_313 (lv_at hl 5 rfl) ?_
  refine lv_iconst (v := 2) hx hb dL_law_315 (by decide) ?_
  refine k_iaddN (a := i) (b := 2) hx hb dL_law_316 ?_
  refine k_sldv (i := i + 2) (v := z2) hx hb hX hbl hw (by omega) (by omega) e2 dL_law_317 ?_
  refine lv_aload_n hx hb dL_law_318 rfl (lv_at hl 1 rfl) ?_
  refine lv_iload hx hb dL_law_319 (lv_at hl 5 rfl) ?_
  refine lv_iconst (v := 3) hx hb dL_law_321 (by decide) ?_
  refine k_iaddN (a := i) (b := 3) hx hb dL_law_322 ?_
  refine k_sldv (i := i + 3) (v := z3) hx hb hX hbl hw (by omega) (by omega) e3 dL_law_323 ?_
  refine lv_if_eq (tgt := 331) hx hb dL_law_324 (by decide) (fun q8 => absurd q8 hz) (fun _ => ?_)
  refine lv_iconst (v := 1) hx hb dL_law_327 (by decide) ?_
  refine lv_goto (tgt := 332) hx hb dL_law_328 (by decide) ?_
  refine kr_i (ws' := wX x A T B ++ wC E A (B 0) S ++ wC E T (B 0) U ++ wG E B G ++ [(o, aJ E 1 f)] ++ wN E M (2, Hb, a, k)) (va_runV (As := [.int (nI n1), .int z2, .int 1]) (rest := []) ⟨hx, hb, hml, hown, hts⟩ (c_X3_addSailor_2b l E M th Hb a k n1 z2 true hy1 hy2 hy3 hy4 hy5 hy6 hy7 hy8 _) (cwV 3 hts gL_law_X3_addSailor rfl rfl rfl ⟨rfl, hd_X3_addSailor⟩ ⟨Nat.le_of_ble_eq_true rfl, Nat.le_of_ble_eq_true rfl⟩) (pwV (ci := 3) (q0 := 22) (C := RX3) hw hK rfl rfl rfl (rpS (AV := [.ref (M 0), .int (nI n1), .int z2, .int 1]) hw hK hG rp_88)) rfl rfl hl.1 rfl (lv_room (Nat.le_of_ble_eq_true rfl)) dL_law_332 ⟨(show cells + 2 + 0 ≤ 1033879 by omega), (show slots + 12 + 0 ≤ 5994467 by omega)⟩) hw hA rp_87 (fun H locs hw => ?_)
  refine lv_istore (lv' := [(6, .int 0), (5, .int 2), (0, .ref b), (1, .ref x), (2, .ref (M 0)), (3, .ref o), (4, .int (nI i))]) hx hb dL_law_335 hl (by decide) rfl (fun ls hl => ?_)
  refine lv_aload_n hx hb dL_law_337 rfl (lv_at hl 4 rfl) ?_
  refine kr_i (ws' := wX x A T B ++ wC E A (B 0) S ++ wC E T (B 0) U ++ wG E B G ++ [(o, aJ E 1 f)] ++ wN E M (2, Hb, a, k)) (va_runV (As := []) (rest := []) ⟨hx, hb, hml, hown, hts⟩ (c_X3_thrown l E M 2 Hb a k  _) (cwV 0 hts gL_law_X3_thrown rfl rfl rfl ⟨rfl, hd_X3_thrown⟩ ⟨Nat.le_of_ble_eq_true rfl, Nat.le_of_ble_eq_true rfl⟩) (pwV (ci := 3) (q0 := 22) (C := RX3) hw hK rfl rfl rfl (rpS (AV := [.ref (M 0)]) hw hK hG rp_88)) rfl rfl hl.1 rfl (lv_room (Nat.le_of_ble_eq_true rfl)) dL_law_338 ⟨(show cells + 2 + 0 ≤ 1033879 by omega), (show slots + 12 + 0 ≤ 5994467 by omega)⟩) hw hA rp_88 (fun H locs hw => ?_)
  refine lv_iload hx hb dL_law_341 (lv_at hl 1 rfl) ?_
  refine lv_icmp_eq (tgt := 348) hx hb dL_law_343 (by decide) (fun _ => ?_) (fun q8 => absurd (by decide) q8)
  refine lv_iload hx hb dL_law_348 (lv_at hl 1 rfl) ?_
  refine lv_if_ne (tgt := 365) hx hb dL_law_350 (by decide) (fun _ => ?_) (fun q8 => absurd q8 (by decide))
  refine lv_goto (tgt := 2161) hx hb dL_law_365 (by decide) ?_
  refine W.widen (k := cells + 30) (n := slots + 200) (show cells + 2 ≤ cells + 30 by omega) (show slots + 12 ≤ slots + 200 by omega) ?_
  exact kk U f 2 k _ _ _ hw (lv_sub hl [2, 3, 4, 5, 6] rfl)

set_option maxHeartbeats 4000000 in
set_option maxRecDepth 100000 in
theorem la_addSailor_2b_f {p9 : Program} {l : Launch} {e : Env} {s9 : State} {m : MethodId} {below : List Frame} {meth : Method} {c : Code} {b L : Nat} {xs : Nat → Int32} (C0 : lw_At p9 s9 m meth c b L xs) (hflags : l.stackTraces = false) (hL : L ≤ 2048) (E : Ev) (hK : va_K E.1 vwCl (tysE E) s9) (hG : Gx s9) (hZ : Zx (aL s9) s9 s9.heap) {Q : State → Prop} (x o : Nat) (A T B M : Nat → Nat) (S U : CS) (G : HS) (th : Int32) (Hb : MH) (a k : Fn) (f : Nat → Int64) (i cells slots : Nat) (hi : i + 4 ≤ L) (n1 : Nat) (e1 : xs (i + 1) = nI n1) (z2 : Int32) (e2 : xs (i + 2) = z2) (z3 : Int32) (e3 : xs (i + 3) = z3) (hz : z3 = 0) (hy0 : t_addSailor G S (nI n1) z2 = 2) (hy1 : n_ns Hb ≤ 5) (hy2 : n_np Hb ≤ 16) (hy3 : n_nw Hb ≤ 4) (hy4 : ∀ p, p < n_np Hb → n_so Hb p < 5) (hy5 : n1 < n_ns Hb) (hy6 : d_in z2 0 (n_ma Hb n1 - 1) = true) (hy7 : a (3 + 3 * n1 + 0) = 0) (hy8 : n_np Hb = 16) (hc9 : cells + 30 ≤ 1033879) (hs9 : slots + 200 ≤ 5994467) (kk : ∀ (U1 : CS) (f1 : Nat → Int64) (t1 : Int32) (k1 : Fn) (H : Heap) (locs : List Loc) (ls : Array Slot), Wd E (aL s9) s9.heap (wX x A T B ++ wC E A (B 0) S ++ wC E T (B 0) U1 ++ wG E B G ++ [(o, aJ E 1 f1)] ++ wN E M (t1, Hb, a, k1)) H locs → lv_has ls 9 [(0, .ref b), (1, .ref x), (2, .ref (M 0)), (3, .ref o), (4, .int (nI i))] → W p9 l e room_1 s9 m #[Value.ref b] below meth c H locs (cells + 30) (slots + 200) Q (F0 m 2161 ls [])) {H : Heap} {locs : List Loc} {ls : Array Slot} (hw : Wd E (aL s9) s9.heap (wX x A T B ++ wC E A (B 0) S ++ wC E T (B 0) U ++ wG E B G ++ [(o, aJ E 1 f)] ++ wN E M (th, Hb, a, k)) H locs) (hl : lv_has ls 9 [(0, .ref b), (1, .ref x), (2, .ref (M 0)), (3, .ref o), (4, .int (nI i))]) : W p9 l e room_1 s9 m #[Value.ref b] below meth c H locs cells slots Q (F0 m 272 ls []) := by
  obtain ⟨hx, hb, hr, hml, hown, hts0, hX, hbl, hlocks, hgv⟩ := C0
  have hts : ∀ w ∈ wsL_law, w.before #[Value.ref b] s9 = true := fun w h => hts0 w (wsL_law_in w h)
  have hown : s9.vm.findClass RL = some m.cls := hown
  have hA : ∀ q, s9.heap.size ≤ q → aL s9 q := fun _ h => h
  refine lv_aload_n hx hb dL_law_272 rfl (lv_at hl 1 rfl) ?_
  refine lv_aload_n hx hb dL_law_273 rfl (lv_at hl 0 rfl) ?_
  refine lv_iload hx hb dL_law_274 (lv_at hl 4 rfl) ?_
  refine lv_iconst (v := 1) hx hb dL_law_276 (by decide) ?_
  refine k_iaddN (a := i) (b := 1) hx hb dL_law_277 ?_
  refine k_sldv (i := i + 1) (v := nI n1) hx hb hX hbl hw (by omega) (by omega) e1 dL_law_278 ?_
  refine lv_aload_n hx hb dL_law_279 rfl (lv_at hl 0 rfl) ?_
  refine lv_iload hx hb dL_law_280 (lv_at hl 4 rfl) ?_
  refine lv_iconst (v := 2) hx hb dL_law_282 (by decide) ?_
  refine k_iaddN (a := i) (b := 2) hx hb dL_law_283 ?_
  refine k_sldv (i := i + 2) (v := z2) hx hb hX hbl hw (by omega) (by omega) e2 dL_law_284 ?_
  refine lv_aload_n hx hb dL_law_285 rfl (lv_at hl 0 rfl) ?_
  refine lv_iload hx hb dL_law_286 (lv_at hl 4 rfl) ?_
  refine lv_iconst (v := 3) hx hb dL_law_288 (by decide) ?_
  refine k_iaddN (a := i) (b := 3) hx hb dL_law_289 ?_
  refine k_sldv (i := i + 3) (v := z3) hx hb hX hbl hw (by omega) (by omega) e3 dL_law_290 ?_
  refine lv_if_eq (tgt := 298) hx hb dL_law_291 (by decide) (fun _ => ?_) (fun q8 => absurd hz q8)
  refine lv_iconst (v := 0) hx hb dL_law_298 (by decide) ?_
  refine lv_aload_n hx hb dL_law_299 rfl (lv_at hl 3 rfl) ?_
  refine krx_i (ws' := wX x A T B ++ wC E A (B 0) S ++ wC E T (B 0) U ++ wG E B G ++ [(o, aJ E 1 f)] ++ wN E M (th, Hb, a, k)) (vx_runSX (As := [.ref x, .int (nI n1), .int z2, .int 0, .ref o]) (rest := []) ⟨hx, hb, hml, hown, hts⟩ (c_L_addSailor_2 l hflags E x A T B S U G (nI n1) z2 false o f hy0 _) (vx_cwSW 5 hts gL_law_L_addSailor rfl rfl rfl hd_L_addSailor ⟨Nat.le_of_ble_eq_true rfl, Nat.le_of_ble_eq_true rfl⟩) (rpX (AV := [.ref x, .int (nI n1), .int z2, .int 0, .ref o]) hw hK hG hZ hA rp_86) rfl rfl hl.1 rfl (lv_room (Nat.le_of_ble_eq_true rfl)) dL_law_300 ⟨(show cells + 2 ≤ 1033879 by omega), (show slots + 12 ≤ 5994467 by omega)⟩) hw hA rp_86 rp_86 (fun H locs ce9 q9 t_1 hw hy1 hy2 hy3 => absurd rfl t_1) (fun H locs t_1 hw => ?_)
  refine lv_istore (lv' := [(5, .int 2), (0, .ref b), (1, .ref x), (2, .ref (M 0)), (3, .ref o), (4, .int (nI i))]) hx hb dL_law_303 hl (by decide) rfl (fun ls hl => ?_)
  refine lv_aload_n hx hb dL_law_305 rfl (lv_at hl 3 rfl) ?_
  refine lv_aload_n hx hb dL_law_306 rfl (lv_at hl 1 rfl) ?_
  refine lv_iload hx hb dL_law_307 (lv_at hl 5 rfl) ?_
  refine lv_iconst (v := 1) hx hb dL_law_309 (by decide) ?_
  refine k_iaddN (a := i) (b := 1) hx hb dL_law_310 ?_
  refine k_sldv (i := i + 1) (v := nI n1) hx hb hX hbl hw (by omega) (by omega) e1 dL_law_311 ?_
  refine lv_aload_n hx hb dL_law_312 rfl (lv_at hl 1 rfl) ?_
  refine lv_iload hx hb dL_law_313 (lv_at hl 5 rfl) ?_
  refine lv_iconst (v := 2) hx hb dL_law_315 (by decide) ?_
  refine k_iaddN (a := i) (b := 2) hx hb dL_law_316 ?_
  refine k_sldv (i := i + 2) (v := z2) hx hb hX hbl hw (by omega) (by omega) e2 dL_law_317 ?_
  refine lv_aload_n hx hb dL_law_318 rfl (lv_at hl 1 rfl) ?_
  refine lv_iload hx hb dL_law_319 (lv_at hl 5 rfl) ?_
  refine lv_iconst (v := 3) hx hb dL_law_321 (by decide) ?_
  refine k_iaddN (a := i) (b := 3) hx hb dL_law_322 ?_
  refine k_sldv (i := i + 3) (v := z3) hx hb hX hbl hw (by omega) (by omega) e3 dL_law_323 ?_
  refine lv_if_eq (tgt := 331) hx hb dL_law_324 (by decide) (fun _ => ?_) (fun q8 => absurd hz q8)
  refine lv_iconst (v := 0) hx hb dL_law_331 (by decide) ?_
  refine kr_i (ws' := wX x A T B ++ wC E A (B 0) S ++ wC E T (B 0) U ++ wG E B G ++ [(o, aJ E 1 f)] ++ wN E M (2, Hb, a, k)) (va_runV (As := [.int (nI n1), .int z2, .int 0]) (rest := []) ⟨hx, hb, hml, hown, hts⟩ (c_X3_addSailor_2b l E M th Hb a k n1 z2 false hy1 hy2 hy3 hy4 hy5 hy6 hy7 hy8 _) (cwV 3 hts gL_law_X3_addSailor rfl rfl rfl ⟨rfl, hd_X3_addSailor⟩ ⟨Nat.le_of_ble_eq_true rfl, Nat.le_of_ble_eq_true rfl⟩) (pwV (ci := 3) (q0 := 22) (C := RX3) hw hK rfl rfl rfl (rpS (AV := [.ref (M 0), .int (nI n1), .int z2, .int 0]) hw hK hG rp_88)) rfl rfl hl.1 rfl (lv_room (Nat.le_of_ble_eq_true rfl)) dL_law_332 ⟨(show cells + 2 + 0 ≤ 1033879 by omega), (show slots + 12 + 0 ≤ 5994467 by omega)⟩) hw hA rp_87 (fun H locs hw => ?_)
  refine lv_istore (lv' := [(6, .int 0), (5, .int 2), (0, .ref b), (1, .ref x), (2, .ref (M 0)), (3, .ref o), (4, .int (nI i))]) hx hb dL_law_335 hl (by decide) rfl (fun ls hl => ?_)
  refine lv_aload_n hx hb dL_law_337 rfl (lv_at hl 4 rfl) ?_
  refine kr_i (ws' := wX x A T B ++ wC E A (B 0) S ++ wC E T (B 0) U ++ wG E B G ++ [(o, aJ E 1 f)] ++ wN E M (2, Hb, a, k)) (va_runV (As := []) (rest := []) ⟨hx, hb, hml, hown, hts⟩ (c_X3_thrown l E M 2 Hb a k  _) (cwV 0 hts gL_law_X3_thrown rfl rfl rfl ⟨rfl, hd_X3_thrown⟩ ⟨Nat.le_of_ble_eq_true rfl, Nat.le_of_ble_eq_true rfl⟩) (pwV (ci := 3) (q0 := 22) (C := RX3) hw hK rfl rfl rfl (rpS (AV := [.ref (M 0)]) hw hK hG rp_88)) rfl rfl hl.1 rfl (lv_room (Nat.le_of_ble_eq_true rfl)) dL_law_338 ⟨(show cells + 2 + 0 ≤ 1033879 by omega), (show slots + 12 + 0 ≤ 5994467 by omega)⟩) hw hA rp_88 (fun H locs hw => ?_)
  refine lv_iload hx hb dL_law_341 (lv_at hl 1 rfl) ?_
  refine lv_icmp_eq (tgt := 348) hx hb dL_law_343 (by decide) (fun _ => ?_) (fun q8 => absurd (by decide) q8)
  refine lv_iload hx hb dL_law_348 (lv_at hl 1 rfl) ?_
  refine lv_if_ne (tgt := 365) hx hb dL_law_350 (by decide) (fun _ => ?_) (fun q8 => absurd q8 (by decide))
  refine lv_goto (tgt := 2161) hx hb dL_law_365 (by decide) ?_
  refine W.widen (k := cells + 30) (n := slots + 200) (show cells + 2 ≤ cells + 30 by omega) (show slots + 12 ≤ slots + 200 by omega) ?_
  exact kk U f 2 k _ _ _ hw (lv_sub hl [2, 3, 4, 5, 6] rfl)

set_option maxHeartbeats 4000000 in
set_option maxRecDepth 100000 in
theorem la_addSailor_t {p9 : Program} {l : Launch} {e : Env} {s9 : State} {m : MethodId} {below : List Frame} {meth : Method} {c : Code} {b L : Nat} {xs : Nat → Int32} (C0 : lw_At p9 s9 m meth c b L xs) (hflags : l.stackTraces = false) (hL : L ≤ 2048) (E : Ev) (hK : va_K E.1 vwCl (tysE E) s9) (hG : Gx s9) (hZ : Zx (aL s9) s9 s9.heap) {Q : State → Prop} (x o : Nat) (A T B M : Nat → Nat) (S U : CS) (G : HS) (th : Int32) (Hb : MH) (a k : Fn) (f : Nat → Int64) (i cells slots : Nat) (hi : i + 4 ≤ L) (n1 : Nat) (e1 : xs (i + 1) = nI n1) (z2 : Int32) (e2 : xs (i + 2) = z2) (z3 : Int32) (e3 : xs (i + 3) = z3) (hz : ¬ z3 = 0) (hy0 : t_addSailor G S (nI n1) z2 = 0) (hy1 : n_ns Hb ≤ 5) (hy2 : n_np Hb ≤ 16) (hy3 : n_nw Hb ≤ 4) (hy4 : ∀ p, p < n_np Hb → n_so Hb p < 5) (hy5 : n1 < n_ns Hb) (hy6 : d_in z2 0 (n_ma Hb n1 - 1) = true) (hy7 : a (3 + 3 * n1 + 0) = 0) (hy8 : n_np Hb < 16) (hy9 : (nI (g_pc G) : Int32).toInt64 = (nI (n_np Hb) : Int32).toInt64) (hc9 : cells + 30 ≤ 1033879) (hs9 : slots + 200 ≤ 5994467) (kk : ∀ (U1 : CS) (f1 : Nat → Int64) (t1 : Int32) (k1 : Fn) (H : Heap) (locs : List Loc) (ls : Array Slot), Wd E (aL s9) s9.heap (wX x A T B ++ wC E A (B 0) S ++ wC E T (B 0) U1 ++ wG E B (f_esail G (nI n1) z2 true) ++ [(o, aJ E 1 f1)] ++ wN E M (t1, o_np (o_vo (o_mo (o_so Hb (updN (n_so Hb) (n_np Hb) n1)) (upd (n_mo Hb) (n_np Hb) z2)) (updB (n_vo Hb) (n_np Hb) true)) (n_np Hb + 1), a, k1)) H locs → lv_has ls 9 [(0, .ref b), (1, .ref x), (2, .ref (M 0)), (3, .ref o), (4, .int (nI i))] → W p9 l e room_1 s9 m #[Value.ref b] below meth c H locs (cells + 30) (slots + 200) Q (F0 m 2161 ls [])) {H : Heap} {locs : List Loc} {ls : Array Slot} (hw : Wd E (aL s9) s9.heap (wX x A T B ++ wC E A (B 0) S ++ wC E T (B 0) U ++ wG E B G ++ [(o, aJ E 1 f)] ++ wN E M (th, Hb, a, k)) H locs) (hl : lv_has ls 9 [(0, .ref b), (1, .ref x), (2, .ref (M 0)), (3, .ref o), (4, .int (nI i))]) : W p9 l e room_1 s9 m #[Value.ref b] below meth c H locs cells slots Q (F0 m 272 ls []) := by
  obtain ⟨hx, hb, hr, hml, hown, hts0, hX, hbl, hlocks, hgv⟩ := C0
  have hts : ∀ w ∈ wsL_law, w.before #[Value.ref b] s9 = true := fun w h => hts0 w (wsL_law_in w h)
  have hown : s9.vm.findClass RL = some m.cls := hown
  have hA : ∀ q, s9.heap.size ≤ q → aL s9 q := fun _ h => h
  refine lv_aload_n hx hb dL_law_272 rfl (lv_at hl 1 rfl) ?_
  refine lv_aload_n hx hb dL_law_273 rfl (lv_at hl 0 rfl) ?_
  refine lv_iload hx hb dL_law_274 (lv_at hl 4 rfl) ?_
  refine lv_iconst (v := 1) hx hb dL_law_276 (by decide) ?_
  refine k_iaddN (a := i) (b := 1) hx hb dL_law_277 ?_
  refine k_sldv (i := i + 1) (v := nI n1) hx hb hX hbl hw (by omega) (by omega) e1 dL_law_278 ?_
  refine lv_aload_n hx hb dL_law_279 rfl (lv_at hl 0 rfl) ?_
  refine lv_iload hx hb dL_law_280 (lv_at hl 4 rfl) ?_
  refine lv_iconst (v := 2) hx hb dL_law_282 (by decide) ?_
  refine k_iaddN (a := i) (b := 2) hx hb dL_law_283 ?_
  refine k_sldv (i := i + 2) (v := z2) hx hb hX hbl hw (by omega) (by omega) e2 dL_law_284 ?_
  refine lv_aload_n hx hb dL_law_285 rfl (lv_at hl 0 rfl) ?_
  refine lv_iload hx hb dL_law_286 (lv_at hl 4 rfl) ?_
  refine lv_iconst (v := 3) hx hb dL_law_288 (by decide) ?_
  refine k_iaddN (a := i) (b := 3) hx hb dL_law_289 ?_
  refine k_sldv (i := i + 3) (v := z3) hx hb hX hbl hw (by omega) (by omega) e3 dL_law_290 ?_
  refine lv_if_eq (tgt := 298) hx hb dL_law_291 (by decide) (fun q8 => absurd q8 hz) (fun _ => ?_)
  refine lv_iconst (v := 1) hx hb dL_law_294 (by decide) ?_
  refine lv_goto (tgt := 299) hx hb dL_law_295 (by decide) ?_
  refine lv_aload_n hx hb dL_law_299 rfl (lv_at hl 3 rfl) ?_
  refine krx_i (ws' := wX x A T B ++ wC E A (B 0) S ++ wC E T (B 0) U ++ wG E B (f_esail G (nI n1) z2 true) ++ [(o, aJ E 1 (vp_updL f 0 ((nI (g_pc G) : Int32).toInt64)))] ++ wN E M (th, Hb, a, k)) (vx_runSX (As := [.ref x, .int (nI n1), .int z2, .int 1, .ref o]) (rest := []) ⟨hx, hb, hml, hown, hts⟩ (c_L_addSailor l hflags E x A T B S U G (nI n1) z2 true o f hy0 _) (vx_cwSW 5 hts gL_law_L_addSailor rfl rfl rfl hd_L_addSailor ⟨Nat.le_of_ble_eq_true rfl, Nat.le_of_ble_eq_true rfl⟩) (rpX (AV := [.ref x, .int (nI n1), .int z2, .int 1, .ref o]) hw hK hG hZ hA rp_86) rfl rfl hl.1 rfl (lv_room (Nat.le_of_ble_eq_true rfl)) dL_law_300 ⟨(show cells + 2 ≤ 1033879 by omega), (show slots + 12 ≤ 5994467 by omega)⟩) hw hA rp_89 rp_86 (fun H locs ce9 q9 t_1 hw hy1 hy2 hy3 => absurd rfl t_1) (fun H locs t_1 hw => ?_)
  refine lv_istore (lv' := [(5, .int 0), (0, .ref b), (1, .ref x), (2, .ref (M 0)), (3, .ref o), (4, .int (nI i))]) hx hb dL_law_303 hl (by decide) rfl (fun ls hl => ?_)
  refine lv_aload_n hx hb dL_law_305 rfl (lv_at hl 3 rfl) ?_
  refine lv_aload_n hx hb dL_law_306 rfl (lv_at hl 1 rfl) ?_
  refine lv_iload hx hb dL_law_307 (lv_at hl 5 rfl) ?_
  refine lv_iconst (v := 1) hx hb dL_law_309 (by decide) ?_
  refine k_iaddN (a := i) (b := 1) hx hb dL_law_310 ?_
  refine k_sldv (i := i + 1) (v := nI n1) hx hb hX hbl hw (by omega) (by omega) e1 dL_law_311 ?_
  refine lv_aload_n hx hb dL_law_312 rfl (lv_at hl 1 rfl) ?_
  refine lv_iload hx hb dL_law_313 (lv_at hl 5 rfl) ?_
  refine lv_iconst (v := 2) hx hb dL_law_315 (by decide) ?_
  refine k_iaddN (a := i) (b := 2) hx hb dL_law_316 ?_
  refine k_sldv (i := i + 2) (v := z2) hx hb hX hbl hw (by omega) (by omega) e2 dL_law_317 ?_
  refine lv_aload_n hx hb dL_law_318 rfl (lv_at hl 1 rfl) ?_
  refine lv_iload hx hb dL_law_319 (lv_at hl 5 rfl) ?_
  refine lv_iconst (v := 3) hx hb dL_law_321 (by decide) ?_
  refine k_iaddN (a := i) (b := 3) hx hb dL_law_322 ?_
  refine k_sldv (i := i + 3) (v := z3) hx hb hX hbl hw (by omega) (by omega) e3 dL_law_323 ?_
  refine lv_if_eq (tgt := 331) hx hb dL_law_324 (by decide) (fun q8 => absurd q8 hz) (fun _ => ?_)
  refine lv_iconst (v := 1) hx hb dL_law_327 (by decide) ?_
  refine lv_goto (tgt := 332) hx hb dL_law_328 (by decide) ?_
  refine kr_i (ws' := wX x A T B ++ wC E A (B 0) S ++ wC E T (B 0) U ++ wG E B (f_esail G (nI n1) z2 true) ++ [(o, aJ E 1 (vp_updL f 0 ((nI (g_pc G) : Int32).toInt64)))] ++ wN E M (0, o_np (o_vo (o_mo (o_so Hb (updN (n_so Hb) (n_np Hb) n1)) (upd (n_mo Hb) (n_np Hb) z2)) (updB (n_vo Hb) (n_np Hb) true)) (n_np Hb + 1), a, k)) (va_runV (As := [.int (nI n1), .int z2, .int 1]) (rest := []) ⟨hx, hb, hml, hown, hts⟩ (c_X3_addSailor l E M th Hb a k n1 z2 true hy1 hy2 hy3 hy4 hy5 hy6 hy7 hy8 _) (cwV 3 hts gL_law_X3_addSailor rfl rfl rfl ⟨rfl, hd_X3_addSailor⟩ ⟨Nat.le_of_ble_eq_true rfl, Nat.le_of_ble_eq_true rfl⟩) (pwV (ci := 3) (q0 := 22) (C := RX3) hw hK rfl rfl rfl (rpS (AV := [.ref (M 0), .int (nI n1), .int z2, .int 1]) hw hK hG rp_88)) rfl rfl hl.1 rfl (lv_room (Nat.le_of_ble_eq_true rfl)) dL_law_332 ⟨(show cells + 2 + 0 ≤ 1033879 by omega), (show slots + 12 + 0 ≤ 5994467 by omega)⟩) hw hA rp_87 (fun H locs hw => ?_)
  refine lv_istore (lv' := [(6, .int (nI (n_np Hb))), (5, .int 0), (0, .ref b), (1, .ref x), (2, .ref (M 0)), (3, .ref o), (4, .int (nI i))]) hx hb dL_law_335 hl (by decide) rfl (fun ls hl => ?_)
  refine lv_aload_n hx hb dL_law_337 rfl (lv_at hl 4 rfl) ?_
  refine kr_i (ws' := wX x A T B ++ wC E A (B 0) S ++ wC E T (B 0) U ++ wG E B (f_esail G (nI n1) z2 true) ++ [(o, aJ E 1 (vp_updL f 0 ((nI (g_pc G) : Int32).toInt64)))] ++ wN E M (0, o_np (o_vo (o_mo (o_so Hb (updN (n_so Hb) (n_np Hb) n1)) (upd (n_mo Hb) (n_np Hb) z2)) (updB (n_vo Hb) (n_np Hb) true)) (n_np Hb + 1), a, k)) (va_runV (As := []) (rest := []) ⟨hx, hb, hml, hown, hts⟩ (c_X3_thrown l E M 0 (o_np (o_vo (o_mo (o_so Hb (updN (n_so Hb) (n_np Hb) n1)) (upd (n_mo Hb) (n_np Hb) z2)) (updB (n_vo Hb) (n_np Hb) true)) (n_np Hb + 1)) a k  _) (cwV 0 hts gL_law_X3_thrown rfl rfl rfl ⟨rfl, hd_X3_thrown⟩ ⟨Nat.le_of_ble_eq_true rfl, Nat.le_of_ble_eq_true rfl⟩) (pwV (ci := 3) (q0 := 22) (C := RX3) hw hK rfl rfl rfl (rpS (AV := [.ref (M 0)]) hw hK hG rp_88)) rfl rfl hl.1 rfl (lv_room (Nat.le_of_ble_eq_true rfl)) dL_law_338 ⟨(show cells + 2 + 0 ≤ 1033879 by omega), (show slots + 12 + 0 ≤ 5994467 by omega)⟩) hw hA rp_88 (fun H locs hw => ?_)
  refine lv_iload hx hb dL_law_341 (lv_at hl 1 rfl) ?_
  refine lv_icmp_eq (tgt := 348) hx hb dL_law_343 (by decide) (fun _ => ?_) (fun q8 => absurd (by decide) q8)
  refine lv_iload hx hb dL_law_348 (lv_at hl 1 rfl) ?_
  refine lv_if_ne (tgt := 365) hx hb dL_law_350 (by decide) (fun q8 => absurd (by decide) q8) (fun _ => ?_)
  refine lv_aload_n hx hb dL_law_353 rfl (lv_at hl 5 rfl) ?_
  refine lv_iconst (v := 0) hx hb dL_law_354 (by decide) ?_
  refine k_lld (v := (vp_updL f 0 ((nI (g_pc G) : Int32).toInt64)) 0) hx hb hK hw 21 rfl (vp_in_nI (n := 0) (N := 1) (by decide) (by decide)) rfl dL_law_355 ?_
  refine lv_iload hx hb dL_law_356 (lv_at hl 0 rfl) ?_
  refine lv_i2l (v := (nI (n_np Hb) : Int32).toInt64) hx hb dL_law_358 rfl ?_
  refine k_lcmpE hx hb dL_law_359 (pk_uLs.trans hy9) ?_
  refine lv_if_eq (tgt := 365) hx hb dL_law_360 (by decide) (fun _ => ?_) (fun q8 => absurd (by decide) q8)
  refine lv_goto (tgt := 2161) hx hb dL_law_365 (by decide) ?_
  refine W.widen (k := cells + 30) (n := slots + 200) (show cells + 2 ≤ cells + 30 by omega) (show slots + 12 ≤ slots + 200 by omega) ?_
  exact kk U (vp_updL f 0 ((nI (g_pc G) : Int32).toInt64)) 0 k _ _ _ hw (lv_sub hl [2, 3, 4, 5, 6] rfl)

set_option maxHeartbeats 4000000 in
set_option maxRecDepth 100000 in
theorem la_addSailor_f {p9 : Program} {l : Launch} {e : Env} {s9 : State} {m : MethodId} {below : List Frame} {meth : Method} {c : Code} {b L : Nat} {xs : Nat → Int32} (C0 : lw_At p9 s9 m meth c b L xs) (hflags : l.stackTraces = false) (hL : L ≤ 2048) (E : Ev) (hK : va_K E.1 vwCl (tysE E) s9) (hG : Gx s9) (hZ : Zx (aL s9) s9 s9.heap) {Q : State → Prop} (x o : Nat) (A T B M : Nat → Nat) (S U : CS) (G : HS) (th : Int32) (Hb : MH) (a k : Fn) (f : Nat → Int64) (i cells slots : Nat) (hi : i + 4 ≤ L) (n1 : Nat) (e1 : xs (i + 1) = nI n1) (z2 : Int32) (e2 : xs (i + 2) = z2) (z3 : Int32) (e3 : xs (i + 3) = z3) (hz : z3 = 0) (hy0 : t_addSailor G S (nI n1) z2 = 0) (hy1 : n_ns Hb ≤ 5) (hy2 : n_np Hb ≤ 16) (hy3 : n_nw Hb ≤ 4) (hy4 : ∀ p, p < n_np Hb → n_so Hb p < 5) (hy5 : n1 < n_ns Hb) (hy6 : d_in z2 0 (n_ma Hb n1 - 1) = true) (hy7 : a (3 + 3 * n1 + 0) = 0) (hy8 : n_np Hb < 16) (hy9 : (nI (g_pc G) : Int32).toInt64 = (nI (n_np Hb) : Int32).toInt64) (hc9 : cells + 30 ≤ 1033879) (hs9 : slots + 200 ≤ 5994467) (kk : ∀ (U1 : CS) (f1 : Nat → Int64) (t1 : Int32) (k1 : Fn) (H : Heap) (locs : List Loc) (ls : Array Slot), Wd E (aL s9) s9.heap (wX x A T B ++ wC E A (B 0) S ++ wC E T (B 0) U1 ++ wG E B (f_esail G (nI n1) z2 false) ++ [(o, aJ E 1 f1)] ++ wN E M (t1, o_np (o_vo (o_mo (o_so Hb (updN (n_so Hb) (n_np Hb) n1)) (upd (n_mo Hb) (n_np Hb) z2)) (updB (n_vo Hb) (n_np Hb) false)) (n_np Hb + 1), a, k1)) H locs → lv_has ls 9 [(0, .ref b), (1, .ref x), (2, .ref (M 0)), (3, .ref o), (4, .int (nI i))] → W p9 l e room_1 s9 m #[Value.ref b] below meth c H locs (cells + 30) (slots + 200) Q (F0 m 2161 ls [])) {H : Heap} {locs : List Loc} {ls : Array Slot} (hw : Wd E (aL s9) s9.heap (wX x A T B ++ wC E A (B 0) S ++ wC E T (B 0) U ++ wG E B G ++ [(o, aJ E 1 f)] ++ wN E M (th, Hb, a, k)) H locs) (hl : lv_has ls 9 [(0, .ref b), (1, .ref x), (2, .ref (M 0)), (3, .ref o), (4, .int (nI i))]) : W p9 l e room_1 s9 m #[Value.ref b] below meth c H locs cells slots Q (F0 m 272 ls []) := by
  obtain ⟨hx, hb, hr, hml, hown, hts0, hX, hbl, hlocks, hgv⟩ := C0
  have hts : ∀ w ∈ wsL_law, w.before #[Value.ref b] s9 = true := fun w h => hts0 w (wsL_law_in w h)
  have hown : s9.vm.findClass RL = some m.cls := hown
  have hA : ∀ q, s9.heap.size ≤ q → aL s9 q := fun _ h => h
  refine lv_aload_n hx hb dL_law_272 rfl (lv_at hl 1 rfl) ?_
  refine lv_aload_n hx hb dL_law_273 rfl (lv_at hl 0 rfl) ?_
  refine lv_iload hx hb dL_law_274 (lv_at hl 4 rfl) ?_
  refine lv_iconst (v := 1) hx hb dL_law_276 (by decide) ?_
  refine k_iaddN (a := i) (b := 1) hx hb dL_law_277 ?_
  refine k_sldv (i := i + 1) (v := nI n1) hx hb hX hbl hw (by omega) (by omega) e1 dL_law_278 ?_
  refine lv_aload_n hx hb dL_law_279 rfl (lv_at hl 0 rfl) ?_
  refine lv_iload hx hb dL_law_280 (lv_at hl 4 rfl) ?_
  refine lv_iconst (v := 2) hx hb dL_law_282 (by decide) ?_
  refine k_iaddN (a := i) (b := 2) hx hb dL_law_283 ?_
  refine k_sldv (i := i + 2) (v := z2) hx hb hX hbl hw (by omega) (by omega) e2 dL_law_284 ?_
  refine lv_aload_n hx hb dL_law_285 rfl (lv_at hl 0 rfl) ?_
  refine lv_iload hx hb dL_law_286 (lv_at hl 4 rfl) ?_
  refine lv_iconst (v := 3) hx hb dL_law_288 (by decide) ?_
  refine k_iaddN (a := i) (b := 3) hx hb dL_law_289 ?_
  refine k_sldv (i := i + 3) (v := z3) hx hb hX hbl hw (by omega) (by omega) e3 dL_law_290 ?_
  refine lv_if_eq (tgt := 298) hx hb dL_law_291 (by decide) (fun _ => ?_) (fun q8 => absurd hz q8)
  refine lv_iconst (v := 0) hx hb dL_law_298 (by decide) ?_
  refine lv_aload_n hx hb dL_law_299 rfl (lv_at hl 3 rfl) ?_
  refine krx_i (ws' := wX x A T B ++ wC E A (B 0) S ++ wC E T (B 0) U ++ wG E B (f_esail G (nI n1) z2 false) ++ [(o, aJ E 1 (vp_updL f 0 ((nI (g_pc G) : Int32).toInt64)))] ++ wN E M (th, Hb, a, k)) (vx_runSX (As := [.ref x, .int (nI n1), .int z2, .int 0, .ref o]) (rest := []) ⟨hx, hb, hml, hown, hts⟩ (c_L_addSailor l hflags E x A T B S U G (nI n1) z2 false o f hy0 _) (vx_cwSW 5 hts gL_law_L_addSailor rfl rfl rfl hd_L_addSailor ⟨Nat.le_of_ble_eq_true rfl, Nat.le_of_ble_eq_true rfl⟩) (rpX (AV := [.ref x, .int (nI n1), .int z2, .int 0, .ref o]) hw hK hG hZ hA rp_86) rfl rfl hl.1 rfl (lv_room (Nat.le_of_ble_eq_true rfl)) dL_law_300 ⟨(show cells + 2 ≤ 1033879 by omega), (show slots + 12 ≤ 5994467 by omega)⟩) hw hA rp_89 rp_86 (fun H locs ce9 q9 t_1 hw hy1 hy2 hy3 => absurd rfl t_1) (fun H locs t_1 hw => ?_)
  refine lv_istore (lv' := [(5, .int 0), (0, .ref b), (1, .ref x), (2, .ref (M 0)), (3, .ref o), (4, .int (nI i))]) hx hb dL_law_303 hl (by decide) rfl (fun ls hl => ?_)
  refine lv_aload_n hx hb dL_law_305 rfl (lv_at hl 3 rfl) ?_
  refine lv_aload_n hx hb dL_law_306 rfl (lv_at hl 1 rfl) ?_
  refine lv_iload hx hb dL_law_307 (lv_at hl 5 rfl) ?_
  refine lv_iconst (v := 1) hx hb dL_law_309 (by decide) ?_
  refine k_iaddN (a := i) (b := 1) hx hb dL_law_310 ?_
  refine k_sldv (i := i + 1) (v := nI n1) hx hb hX hbl hw (by omega) (by omega) e1 dL_law_311 ?_
  refine lv_aload_n hx hb dL_law_312 rfl (lv_at hl 1 rfl) ?_
  refine lv_iload hx hb dL_law_313 (lv_at hl 5 rfl) ?_
  refine lv_iconst (v := 2) hx hb dL_law_315 (by decide) ?_
  refine k_iaddN (a := i) (b := 2) hx hb dL_law_316 ?_
  refine k_sldv (i := i + 2) (v := z2) hx hb hX hbl hw (by omega) (by omega) e2 dL_law_317 ?_
  refine lv_aload_n hx hb dL_law_318 rfl (lv_at hl 1 rfl) ?_
  refine lv_iload hx hb dL_law_319 (lv_at hl 5 rfl) ?_
  refine lv_iconst (v := 3) hx hb dL_law_321 (by decide) ?_
  refine k_iaddN (a := i) (b := 3) hx hb dL_law_322 ?_
  refine k_sldv (i := i + 3) (v := z3) hx hb hX hbl hw (by omega) (by omega) e3 dL_law_323 ?_
  refine lv_if_eq (tgt := 331) hx hb dL_law_324 (by decide) (fun _ => ?_) (fun q8 => absurd hz q8)
  refine lv_iconst (v := 0) hx hb dL_law_331 (by decide) ?_
  refine kr_i (ws' := wX x A T B ++ wC E A (B 0) S ++ wC E T (B 0) U ++ wG E B (f_esail G (nI n1) z2 false) ++ [(o, aJ E 1 (vp_updL f 0 ((nI (g_pc G) : Int32).toInt64)))] ++ wN E M (0, o_np (o_vo (o_mo (o_so Hb (updN (n_so Hb) (n_np Hb) n1)) (upd (n_mo Hb) (n_np Hb) z2)) (updB (n_vo Hb) (n_np Hb) false)) (n_np Hb + 1), a, k)) (va_runV (As := [.int (nI n1), .int z2, .int 0]) (rest := []) ⟨hx, hb, hml, hown, hts⟩ (c_X3_addSailor l E M th Hb a k n1 z2 false hy1 hy2 hy3 hy4 hy5 hy6 hy7 hy8 _) (cwV 3 hts gL_law_X3_addSailor rfl rfl rfl ⟨rfl, hd_X3_addSailor⟩ ⟨Nat.le_of_ble_eq_true rfl, Nat.le_of_ble_eq_true rfl⟩) (pwV (ci := 3) (q0 := 22) (C := RX3) hw hK rfl rfl rfl (rpS (AV := [.ref (M 0), .int (nI n1), .int z2, .int 0]) hw hK hG rp_88)) rfl rfl hl.1 rfl (lv_room (Nat.le_of_ble_eq_true rfl)) dL_law_332 ⟨(show cells + 2 + 0 ≤ 1033879 by omega), (show slots + 12 + 0 ≤ 5994467 by omega)⟩) hw hA rp_87 (fun H locs hw => ?_)
  refine lv_istore (lv' := [(6, .int (nI (n_np Hb))), (5, .int 0), (0, .ref b), (1, .ref x), (2, .ref (M 0)), (3, .ref o), (4, .int (nI i))]) hx hb dL_law_335 hl (by decide) rfl (fun ls hl => ?_)
  refine lv_aload_n hx hb dL_law_337 rfl (lv_at hl 4 rfl) ?_
  refine kr_i (ws' := wX x A T B ++ wC E A (B 0) S ++ wC E T (B 0) U ++ wG E B (f_esail G (nI n1) z2 false) ++ [(o, aJ E 1 (vp_updL f 0 ((nI (g_pc G) : Int32).toInt64)))] ++ wN E M (0, o_np (o_vo (o_mo (o_so Hb (updN (n_so Hb) (n_np Hb) n1)) (upd (n_mo Hb) (n_np Hb) z2)) (updB (n_vo Hb) (n_np Hb) false)) (n_np Hb + 1), a, k)) (va_runV (As := []) (rest := []) ⟨hx, hb, hml, hown, hts⟩ (c_X3_thrown l E M 0 (o_np (o_vo (o_mo (o_so Hb (updN (n_so Hb) (n_np Hb) n1)) (upd (n_mo Hb) (n_np Hb) z2)) (updB (n_vo Hb) (n_np Hb) false)) (n_np Hb + 1)) a k  _) (cwV 0 hts gL_law_X3_thrown rfl rfl rfl ⟨rfl, hd_X3_thrown⟩ ⟨Nat.le_of_ble_eq_true rfl, Nat.le_of_ble_eq_true rfl⟩) (pwV (ci := 3) (q0 := 22) (C := RX3) hw hK rfl rfl rfl (rpS (AV := [.ref (M 0)]) hw hK hG rp_88)) rfl rfl hl.1 rfl (lv_room (Nat.le_of_ble_eq_true rfl)) dL_law_338 ⟨(show cells + 2 + 0 ≤ 1033879 by omega), (show slots + 12 + 0 ≤ 5994467 by omega)⟩) hw hA rp_88 (fun H locs hw => ?_)
  refine lv_iload hx hb dL_law_341 (lv_at hl 1 rfl) ?_
  refine lv_icmp_eq (tgt := 348) hx hb dL_law_343 (by decide) (fun _ => ?_) (fun q8 => absurd (by decide) q8)
  refine lv_iload hx hb dL_law_348 (lv_at hl 1 rfl) ?_
  refine lv_if_ne (tgt := 365) hx hb dL_law_350 (by decide) (fun q8 => absurd (by decide) q8) (fun _ => ?_)
  refine lv_aload_n hx hb dL_law_353 rfl (lv_at hl 5 rfl) ?_
  refine lv_iconst (v := 0) hx hb dL_law_354 (by decide) ?_
  refine k_lld (v := (vp_updL f 0 ((nI (g_pc G) : Int32).toInt64)) 0) hx hb hK hw 21 rfl (vp_in_nI (n := 0) (N := 1) (by decide) (by decide)) rfl dL_law_355 ?_
  refine lv_iload hx hb dL_law_356 (lv_at hl 0 rfl) ?_
  refine lv_i2l (v := (nI (n_np Hb) : Int32).toInt64) hx hb dL_law_358 rfl ?_
  refine k_lcmpE hx hb dL_law_359 (pk_uLs.trans hy9) ?_
  refine lv_if_eq (tgt := 365) hx hb dL_law_360 (by decide) (fun _ => ?_) (fun q8 => absurd (by decide) q8)
  refine lv_goto (tgt := 2161) hx hb dL_law_365 (by decide) ?_
  refine W.widen (k := cells + 30) (n := slots + 200) (show cells + 2 ≤ cells + 30 by omega) (show slots + 12 ≤ slots + 200 by omega) ?_
  exact kk U (vp_updL f 0 ((nI (g_pc G) : Int32).toInt64)) 0 k _ _ _ hw (lv_sub hl [2, 3, 4, 5, 6] rfl)

set_option maxHeartbeats 4000000 in
set_option maxRecDepth 100000 in
theorem la_addWatcher_1 {p9 : Program} {l : Launch} {e : Env} {s9 : State} {m : MethodId} {below : List Frame} {meth : Method} {c : Code} {b L : Nat} {xs : Nat → Int32} (C0 : lw_At p9 s9 m meth c b L xs) (hflags : l.stackTraces = false) (hL : L ≤ 2048) (E : Ev) (hK : va_K E.1 vwCl (tysE E) s9) (hG : Gx s9) (hZ : Zx (aL s9) s9 s9.heap) {Q : State → Prop} (x o : Nat) (A T B M : Nat → Nat) (S U : CS) (G : HS) (th : Int32) (Hb : MH) (a k : Fn) (f : Nat → Int64) (i cells slots : Nat) (hi : i + 4 ≤ L) (hy0 : t_addWatcher G = 2) (hy1 : n_ns Hb ≤ 5) (hy2 : n_np Hb ≤ 16) (hy3 : n_nw Hb ≤ 4) (hy4 : ∀ p, p < n_np Hb → n_so Hb p < 5) (hy5 : n_nw Hb = 4) (hc9 : cells + 30 ≤ 1033879) (hs9 : slots + 200 ≤ 5994467) (kk : ∀ (U1 : CS) (f1 : Nat → Int64) (t1 : Int32) (k1 : Fn) (H : Heap) (locs : List Loc) (ls : Array Slot), Wd E (aL s9) s9.heap (wX x A T B ++ wC E A (B 0) S ++ wC E T (B 0) U1 ++ wG E B G ++ [(o, aJ E 1 f1)] ++ wN E M (t1, Hb, a, k1)) H locs → lv_has ls 9 [(0, .ref b), (1, .ref x), (2, .ref (M 0)), (3, .ref o), (4, .int (nI i))] → W p9 l e room_1 s9 m #[Value.ref b] below meth c H locs (cells + 30) (slots + 200) Q (F0 m 2161 ls [])) {H : Heap} {locs : List Loc} {ls : Array Slot} (hw : Wd E (aL s9) s9.heap (wX x A T B ++ wC E A (B 0) S ++ wC E T (B 0) U ++ wG E B G ++ [(o, aJ E 1 f)] ++ wN E M (th, Hb, a, k)) H locs) (hl : lv_has ls 9 [(0, .ref b), (1, .ref x), (2, .ref (M 0)), (3, .ref o), (4, .int (nI i))]) : W p9 l e room_1 s9 m #[Value.ref b] below meth c H locs cells slots Q (F0 m 368 ls []) := by
  obtain ⟨hx, hb, hr, hml, hown, hts0, hX, hbl, hlocks, hgv⟩ := C0
  have hts : ∀ w ∈ wsL_law, w.before #[Value.ref b] s9 = true := fun w h => hts0 w (wsL_law_in w h)
  have hown : s9.vm.findClass RL = some m.cls := hown
  have hA : ∀ q, s9.heap.size ≤ q → aL s9 q := fun _ h => h
  refine lv_aload_n hx hb dL_law_368 rfl (lv_at hl 1 rfl) ?_
  refine lv_aload_n hx hb dL_law_369 rfl (lv_at hl 3 rfl) ?_
  refine krx_i (ws' := wX x A T B ++ wC E A (B 0) S ++ wC E T (B 0) U ++ wG E B G ++ [(o, aJ E 1 f)] ++ wN E M (th, Hb, a, k)) (vx_runSX (As := [.ref x, .ref o]) (rest := []) ⟨hx, hb, hml, hown, hts⟩ (c_L_addWatcher_2 l hflags E x A T B S U G o f hy0 _) (vx_cwSW 2 hts gL_law_L_addWatcher rfl rfl rfl hd_L_addWatcher ⟨Nat.le_of_ble_eq_true rfl, Nat.le_of_ble_eq_true rfl⟩) (rpX (AV := [.ref x, .ref o]) hw hK hG hZ hA rp_86) rfl rfl hl.1 rfl (lv_room (Nat.le_of_ble_eq_true rfl)) dL_law_370 ⟨(show cells + 1 ≤ 1033879 by omega), (show slots + 6 ≤ 5994467 by omega)⟩) hw hA rp_86 rp_86 (fun H locs ce9 q9 t_1 hw hy1 hy2 hy3 => absurd rfl t_1) (fun H locs t_1 hw => ?_)
  refine lv_istore (lv' := [(5, .int 1), (0, .ref b), (1, .ref x), (2, .ref (M 0)), (3, .ref o), (4, .int (nI i))]) hx hb dL_law_373 hl (by decide) rfl (fun ls hl => ?_)
  refine lv_aload_n hx hb dL_law_375 rfl (lv_at hl 3 rfl) ?_
  refine kr_i (ws' := wX x A T B ++ wC E A (B 0) S ++ wC E T (B 0) U ++ wG E B G ++ [(o, aJ E 1 f)] ++ wN E M (1, Hb, a, k)) (va_runV (As := []) (rest := []) ⟨hx, hb, hml, hown, hts⟩ (c_X3_addWatcher_1 l E M th Hb a k hy1 hy2 hy3 hy4 hy5 _) (cwV 0 hts gL_law_X3_addWatcher rfl rfl rfl ⟨rfl, hd_X3_addWatcher⟩ ⟨Nat.le_of_ble_eq_true rfl, Nat.le_of_ble_eq_true rfl⟩) (pwV (ci := 3) (q0 := 22) (C := RX3) hw hK rfl rfl rfl (rpS (AV := [.ref (M 0)]) hw hK hG rp_88)) rfl rfl hl.1 rfl (lv_room (Nat.le_of_ble_eq_true rfl)) dL_law_376 ⟨(show cells + 1 + 0 ≤ 1033879 by omega), (show slots + 6 + 0 ≤ 5994467 by omega)⟩) hw hA rp_87 (fun H locs hw => ?_)
  refine lv_istore (lv' := [(6, .int 0), (5, .int 1), (0, .ref b), (1, .ref x), (2, .ref (M 0)), (3, .ref o), (4, .int (nI i))]) hx hb dL_law_379 hl (by decide) rfl (fun ls hl => ?_)
  refine lv_aload_n hx hb dL_law_381 rfl (lv_at hl 4 rfl) ?_
  refine kr_i (ws' := wX x A T B ++ wC E A (B 0) S ++ wC E T (B 0) U ++ wG E B G ++ [(o, aJ E 1 f)] ++ wN E M (1, Hb, a, k)) (va_runV (As := []) (rest := []) ⟨hx, hb, hml, hown, hts⟩ (c_X3_thrown l E M 1 Hb a k  _) (cwV 0 hts gL_law_X3_thrown rfl rfl rfl ⟨rfl, hd_X3_thrown⟩ ⟨Nat.le_of_ble_eq_true rfl, Nat.le_of_ble_eq_true rfl⟩) (pwV (ci := 3) (q0 := 22) (C := RX3) hw hK rfl rfl rfl (rpS (AV := [.ref (M 0)]) hw hK hG rp_88)) rfl rfl hl.1 rfl (lv_room (Nat.le_of_ble_eq_true rfl)) dL_law_382 ⟨(show cells + 1 + 0 ≤ 1033879 by omega), (show slots + 6 + 0 ≤ 5994467 by omega)⟩) hw hA rp_88 (fun H locs hw => ?_)
  refine lv_iload hx hb dL_law_385 (lv_at hl 1 rfl) ?_
  refine lv_icmp_eq (tgt := 392) hx hb dL_law_387 (by decide) (fun _ => ?_) (fun q8 => absurd (by decide) q8)
  refine lv_iload hx hb dL_law_392 (lv_at hl 1 rfl) ?_
  refine lv_if_ne (tgt := 409) hx hb dL_law_394 (by decide) (fun _ => ?_) (fun q8 => absurd q8 (by decide))
  refine lv_goto (tgt := 2161) hx hb dL_law_409 (by decide) ?_
  refine W.widen (k := cells + 30) (n := slots + 200) (show cells + 1 ≤ cells + 30 by omega) (show slots + 6 ≤ slots + 200 by omega) ?_
  exact kk U f 1 k _ _ _ hw (lv_sub hl [2, 3, 4, 5, 6] rfl)

set_option maxHeartbeats 4000000 in
set_option maxRecDepth 100000 in
theorem la_addWatcher {p9 : Program} {l : Launch} {e : Env} {s9 : State} {m : MethodId} {below : List Frame} {meth : Method} {c : Code} {b L : Nat} {xs : Nat → Int32} (C0 : lw_At p9 s9 m meth c b L xs) (hflags : l.stackTraces = false) (hL : L ≤ 2048) (E : Ev) (hK : va_K E.1 vwCl (tysE E) s9) (hG : Gx s9) (hZ : Zx (aL s9) s9 s9.heap) {Q : State → Prop} (x o : Nat) (A T B M : Nat → Nat) (S U : CS) (G : HS) (th : Int32) (Hb : MH) (a k : Fn) (f : Nat → Int64) (i cells slots : Nat) (hi : i + 4 ≤ L) (hy0 : t_addWatcher G = 0) (hy1 : n_ns Hb ≤ 5) (hy2 : n_np Hb ≤ 16) (hy3 : n_nw Hb ≤ 4) (hy4 : ∀ p, p < n_np Hb → n_so Hb p < 5) (hy5 : n_nw Hb < 4) (hy6 : (nI (g_wc G) : Int32).toInt64 = (nI (n_nw Hb) : Int32).toInt64) (hc9 : cells + 30 ≤ 1033879) (hs9 : slots + 200 ≤ 5994467) (kk : ∀ (U1 : CS) (f1 : Nat → Int64) (t1 : Int32) (k1 : Fn) (H : Heap) (locs : List Loc) (ls : Array Slot), Wd E (aL s9) s9.heap (wX x A T B ++ wC E A (B 0) (f_addWatcher G S) ++ wC E T (B 0) U1 ++ wG E B (f_ewat G) ++ [(o, aJ E 1 f1)] ++ wN E M (t1, o_nw Hb (n_nw Hb + 1), upd a (50 + n_nw Hb) 5, k1)) H locs → lv_has ls 9 [(0, .ref b), (1, .ref x), (2, .ref (M 0)), (3, .ref o), (4, .int (nI i))] → W p9 l e room_1 s9 m #[Value.ref b] below meth c H locs (cells + 30) (slots + 200) Q (F0 m 2161 ls [])) {H : Heap} {locs : List Loc} {ls : Array Slot} (hw : Wd E (aL s9) s9.heap (wX x A T B ++ wC E A (B 0) S ++ wC E T (B 0) U ++ wG E B G ++ [(o, aJ E 1 f)] ++ wN E M (th, Hb, a, k)) H locs) (hl : lv_has ls 9 [(0, .ref b), (1, .ref x), (2, .ref (M 0)), (3, .ref o), (4, .int (nI i))]) : W p9 l e room_1 s9 m #[Value.ref b] below meth c H locs cells slots Q (F0 m 368 ls []) := by
  obtain ⟨hx, hb, hr, hml, hown, hts0, hX, hbl, hlocks, hgv⟩ := C0
  have hts : ∀ w ∈ wsL_law, w.before #[Value.ref b] s9 = true := fun w h => hts0 w (wsL_law_in w h)
  have hown : s9.vm.findClass RL = some m.cls := hown
  have hA : ∀ q, s9.heap.size ≤ q → aL s9 q := fun _ h => h
  refine lv_aload_n hx hb dL_law_368 rfl (lv_at hl 1 rfl) ?_
  refine lv_aload_n hx hb dL_law_369 rfl (lv_at hl 3 rfl) ?_
  refine krx_i (ws' := wX x A T B ++ wC E A (B 0) (f_addWatcher G S) ++ wC E T (B 0) U ++ wG E B (f_ewat G) ++ [(o, aJ E 1 (vp_updL f 0 ((nI (g_wc G) : Int32).toInt64)))] ++ wN E M (th, Hb, a, k)) (vx_runSX (As := [.ref x, .ref o]) (rest := []) ⟨hx, hb, hml, hown, hts⟩ (c_L_addWatcher l hflags E x A T B S U G o f hy0 _) (vx_cwSW 2 hts gL_law_L_addWatcher rfl rfl rfl hd_L_addWatcher ⟨Nat.le_of_ble_eq_true rfl, Nat.le_of_ble_eq_true rfl⟩) (rpX (AV := [.ref x, .ref o]) hw hK hG hZ hA rp_86) rfl rfl hl.1 rfl (lv_room (Nat.le_of_ble_eq_true rfl)) dL_law_370 ⟨(show cells + 1 ≤ 1033879 by omega), (show slots + 6 ≤ 5994467 by omega)⟩) hw hA rp_90 rp_86 (fun H locs ce9 q9 t_1 hw hy1 hy2 hy3 => absurd rfl t_1) (fun H locs t_1 hw => ?_)
  refine lv_istore (lv' := [(5, .int 0), (0, .ref b), (1, .ref x), (2, .ref (M 0)), (3, .ref o), (4, .int (nI i))]) hx hb dL_law_373 hl (by decide) rfl (fun ls hl => ?_)
  refine lv_aload_n hx hb dL_law_375 rfl (lv_at hl 3 rfl) ?_
  refine kr_i (ws' := wX x A T B ++ wC E A (B 0) (f_addWatcher G S) ++ wC E T (B 0) U ++ wG E B (f_ewat G) ++ [(o, aJ E 1 (vp_updL f 0 ((nI (g_wc G) : Int32).toInt64)))] ++ wN E M (0, o_nw Hb (n_nw Hb + 1), upd a (50 + n_nw Hb) 5, k)) (va_runV (As := []) (rest := []) ⟨hx, hb, hml, hown, hts⟩ (c_X3_addWatcher l E M th Hb a k hy1 hy2 hy3 hy4 hy5 _) (cwV 0 hts gL_law_X3_addWatcher rfl rfl rfl ⟨rfl, hd_X3_addWatcher⟩ ⟨Nat.le_of_ble_eq_true rfl, Nat.le_of_ble_eq_true rfl⟩) (pwV (ci := 3) (q0 := 22) (C := RX3) hw hK rfl rfl rfl (rpS (AV := [.ref (M 0)]) hw hK hG rp_88)) rfl rfl hl.1 rfl (lv_room (Nat.le_of_ble_eq_true rfl)) dL_law_376 ⟨(show cells + 1 + 0 ≤ 1033879 by omega), (show slots + 6 + 0 ≤ 5994467 by omega)⟩) hw hA rp_87 (fun H locs hw => ?_)
  refine lv_istore (lv' := [(6, .int (nI (n_nw Hb))), (5, .int 0), (0, .ref b), (1, .ref x), (2, .ref (M 0)), (3, .ref o), (4, .int (nI i))]) hx hb dL_law_379 hl (by decide) rfl (fun ls hl => ?_)
  refine lv_aload_n hx hb dL_law_381 rfl (lv_at hl 4 rfl) ?_
  refine kr_i (ws' := wX x A T B ++ wC E A (B 0) (f_addWatcher G S) ++ wC E T (B 0) U ++ wG E B (f_ewat G) ++ [(o, aJ E 1 (vp_updL f 0 ((nI (g_wc G) : Int32).toInt64)))] ++ wN E M (0, o_nw Hb (n_nw Hb + 1), upd a (50 + n_nw Hb) 5, k)) (va_runV (As := []) (rest := []) ⟨hx, hb, hml, hown, hts⟩ (c_X3_thrown l E M 0 (o_nw Hb (n_nw Hb + 1)) (upd a (50 + n_nw Hb) 5) k  _) (cwV 0 hts gL_law_X3_thrown rfl rfl rfl ⟨rfl, hd_X3_thrown⟩ ⟨Nat.le_of_ble_eq_true rfl, Nat.le_of_ble_eq_true rfl⟩) (pwV (ci := 3) (q0 := 22) (C := RX3) hw hK rfl rfl rfl (rpS (AV := [.ref (M 0)]) hw hK hG rp_88)) rfl rfl hl.1 rfl (lv_room (Nat.le_of_ble_eq_true rfl)) dL_law_382 ⟨(show cells + 1 + 0 ≤ 1033879 by omega), (show slots + 6 + 0 ≤ 5994467 by omega)⟩) hw hA rp_88 (fun H locs hw => ?_)
  refine lv_iload hx hb dL_law_385 (lv_at hl 1 rfl) ?_
  refine lv_icmp_eq (tgt := 392) hx hb dL_law_387 (by decide) (fun _ => ?_) (fun q8 => absurd (by decide) q8)
  refine lv_iload hx hb dL_law_392 (lv_at hl 1 rfl) ?_
  refine lv_if_ne (tgt := 409) hx hb dL_law_394 (by decide) (fun q8 => absurd (by decide) q8) (fun _ => ?_)
  refine lv_aload_n hx hb dL_law_397 rfl (lv_at hl 5 rfl) ?_
  refine lv_iconst (v := 0) hx hb dL_law_398 (by decide) ?_
  refine k_lld (v := (vp_updL f 0 ((nI (g_wc G) : Int32).toInt64)) 0) hx hb hK hw 21 rfl (vp_in_nI (n := 0) (N := 1) (by decide) (by decide)) rfl dL_law_399 ?_
  refine lv_iload hx hb dL_law_400 (lv_at hl 0 rfl) ?_
  refine lv_i2l (v := (nI (n_nw Hb) : Int32).toInt64) hx hb dL_law_402 rfl ?_
  refine k_lcmpE hx hb dL_law_403 (pk_uLs.trans hy6) ?_
  refine lv_if_eq (tgt := 409) hx hb dL_law_404 (by decide) (fun _ => ?_) (fun q8 => absurd (by decide) q8)
  refine lv_goto (tgt := 2161) hx hb dL_law_409 (by decide) ?_
  refine W.widen (k := cells + 30) (n := slots + 200) (show cells + 1 ≤ cells + 30 by omega) (show slots + 6 ≤ slots + 200 by omega) ?_
  exact kk U (vp_updL f 0 ((nI (g_wc G) : Int32).toInt64)) 0 k _ _ _ hw (lv_sub hl [2, 3, 4, 5, 6] rfl)

set_option maxHeartbeats 4000000 in
set_option maxRecDepth 100000 in
theorem la_buyWax_1 {p9 : Program} {l : Launch} {e : Env} {s9 : State} {m : MethodId} {below : List Frame} {meth : Method} {c : Code} {b L : Nat} {xs : Nat → Int32} (C0 : lw_At p9 s9 m meth c b L xs) (hflags : l.stackTraces = false) (hL : L ≤ 2048) (E : Ev) (hK : va_K E.1 vwCl (tysE E) s9) (hG : Gx s9) (hZ : Zx (aL s9) s9 s9.heap) {Q : State → Prop} (x o : Nat) (A T B M : Nat → Nat) (S U : CS) (G : HS) (th : Int32) (Hb : MH) (a k : Fn) (f : Nat → Int64) (i cells slots : Nat) (hi : i + 4 ≤ L) (z1 : Int32) (e1 : xs (i + 1) = z1) (hy0 : t_buyWax z1 = 3) (hy1 : n_ns Hb ≤ 5) (hy2 : n_np Hb ≤ 16) (hy3 : n_nw Hb ≤ 4) (hy4 : ∀ p, p < n_np Hb → n_so Hb p < 5) (hy5 : d_in z1 1 500 = false) (hc9 : cells + 30 ≤ 1033879) (hs9 : slots + 200 ≤ 5994467) (kk : ∀ (U1 : CS) (f1 : Nat → Int64) (t1 : Int32) (k1 : Fn) (H : Heap) (locs : List Loc) (ls : Array Slot), Wd E (aL s9) s9.heap (wX x A T B ++ wC E A (B 0) S ++ wC E T (B 0) U1 ++ wG E B G ++ [(o, aJ E 1 f1)] ++ wN E M (t1, Hb, a, k1)) H locs → lv_has ls 9 [(0, .ref b), (1, .ref x), (2, .ref (M 0)), (3, .ref o), (4, .int (nI i))] → W p9 l e room_1 s9 m #[Value.ref b] below meth c H locs (cells + 30) (slots + 200) Q (F0 m 2161 ls [])) {H : Heap} {locs : List Loc} {ls : Array Slot} (hw : Wd E (aL s9) s9.heap (wX x A T B ++ wC E A (B 0) S ++ wC E T (B 0) U ++ wG E B G ++ [(o, aJ E 1 f)] ++ wN E M (th, Hb, a, k)) H locs) (hl : lv_has ls 9 [(0, .ref b), (1, .ref x), (2, .ref (M 0)), (3, .ref o), (4, .int (nI i))]) : W p9 l e room_1 s9 m #[Value.ref b] below meth c H locs cells slots Q (F0 m 412 ls []) := by
  obtain ⟨hx, hb, hr, hml, hown, hts0, hX, hbl, hlocks, hgv⟩ := C0
  have hts : ∀ w ∈ wsL_law, w.before #[Value.ref b] s9 = true := fun w h => hts0 w (wsL_law_in w h)
  have hown : s9.vm.findClass RL = some m.cls := hown
  have hA : ∀ q, s9.heap.size ≤ q → aL s9 q := fun _ h => h
  refine lv_aload_n hx hb dL_law_412 rfl (lv_at hl 1 rfl) ?_
  refine lv_aload_n hx hb dL_law_413 rfl (lv_at hl 0 rfl) ?_
  refine lv_iload hx hb dL_law_414 (lv_at hl 4 rfl) ?_
  refine lv_iconst (v := 1) hx hb dL_law_416 (by decide) ?_
  refine k_iaddN (a := i) (b := 1) hx hb dL_law_417 ?_
  refine k_sldv (i := i + 1) (v := z1) hx hb hX hbl hw (by omega) (by omega) e1 dL_law_418 ?_
  refine lv_aload_n hx hb dL_law_419 rfl (lv_at hl 3 rfl) ?_
  refine krx_i (ws' := wX x A T B ++ wC E A (B 0) S ++ wC E T (B 0) U ++ wG E B G ++ [(o, aJ E 1 f)] ++ wN E M (th, Hb, a, k)) (vx_runSX (As := [.ref x, .int z1, .ref o]) (rest := []) ⟨hx, hb, hml, hown, hts⟩ (c_L_buyWax_3 l hflags E x A T B S U G z1 o f hy0 _) (vx_cwSW 3 hts gL_law_L_buyWax rfl rfl rfl hd_L_buyWax ⟨Nat.le_of_ble_eq_true rfl, Nat.le_of_ble_eq_true rfl⟩) (rpX (AV := [.ref x, .int z1, .ref o]) hw hK hG hZ hA rp_86) rfl rfl hl.1 rfl (lv_room (Nat.le_of_ble_eq_true rfl)) dL_law_420 ⟨(show cells + 1 ≤ 1033879 by omega), (show slots + 6 ≤ 5994467 by omega)⟩) hw hA rp_86 rp_86 (fun H locs ce9 q9 t_1 hw hy1 hy2 hy3 => absurd rfl t_1) (fun H locs t_1 hw => ?_)
  refine lv_istore (lv' := [(5, .int 1), (0, .ref b), (1, .ref x), (2, .ref (M 0)), (3, .ref o), (4, .int (nI i))]) hx hb dL_law_423 hl (by decide) rfl (fun ls hl => ?_)
  refine lv_aload_n hx hb dL_law_425 rfl (lv_at hl 3 rfl) ?_
  refine lv_aload_n hx hb dL_law_426 rfl (lv_at hl 1 rfl) ?_
  refine lv_iload hx hb dL_law_427 (lv_at hl 5 rfl) ?_
  refine lv_iconst (v := 1) hx hb dL_law_429 (by decide) ?_
  refine k_iaddN (a := i) (b := 1) hx hb dL_law_430 ?_
  refine k_sldv (i := i + 1) (v := z1) hx hb hX hbl hw (by omega) (by omega) e1 dL_law_431 ?_
  refine kr_i (ws' := wX x A T B ++ wC E A (B 0) S ++ wC E T (B 0) U ++ wG E B G ++ [(o, aJ E 1 f)] ++ wN E M (1, Hb, a, k)) (va_runV (As := [.int z1]) (rest := []) ⟨hx, hb, hml, hown, hts⟩ (c_X3_buyWax_1 l E M th Hb a k z1 hy1 hy2 hy3 hy4 hy5 _) (cwV 1 hts gL_law_X3_buyWax rfl rfl rfl ⟨rfl, hd_X3_buyWax⟩ ⟨Nat.le_of_ble_eq_true rfl, Nat.le_of_ble_eq_true rfl⟩) (pwV (ci := 3) (q0 := 22) (C := RX3) hw hK rfl rfl rfl (rpS (AV := [.ref (M 0), .int z1]) hw hK hG rp_88)) rfl rfl hl.1 rfl (lv_room (Nat.le_of_ble_eq_true rfl)) dL_law_432 ⟨(show cells + 1 + 0 ≤ 1033879 by omega), (show slots + 6 + 0 ≤ 5994467 by omega)⟩) hw hA rp_87 (fun H locs hw => ?_)
  refine lv_istore (lv' := [(6, .int 0), (5, .int 1), (0, .ref b), (1, .ref x), (2, .ref (M 0)), (3, .ref o), (4, .int (nI i))]) hx hb dL_law_435 hl (by decide) rfl (fun ls hl => ?_)
  refine lv_aload_n hx hb dL_law_437 rfl (lv_at hl 4 rfl) ?_
  refine kr_i (ws' := wX x A T B ++ wC E A (B 0) S ++ wC E T (B 0) U ++ wG E B G ++ [(o, aJ E 1 f)] ++ wN E M (1, Hb, a, k)) (va_runV (As := []) (rest := []) ⟨hx, hb, hml, hown, hts⟩ (c_X3_thrown l E M 1 Hb a k  _) (cwV 0 hts gL_law_X3_thrown rfl rfl rfl ⟨rfl, hd_X3_thrown⟩ ⟨Nat.le_of_ble_eq_true rfl, Nat.le_of_ble_eq_true rfl⟩) (pwV (ci := 3) (q0 := 22) (C := RX3) hw hK rfl rfl rfl (rpS (AV := [.ref (M 0)]) hw hK hG rp_88)) rfl rfl hl.1 rfl (lv_room (Nat.le_of_ble_eq_true rfl)) dL_law_438 ⟨(show cells + 1 + 0 ≤ 1033879 by omega), (show slots + 6 + 0 ≤ 5994467 by omega)⟩) hw hA rp_88 (fun H locs hw => ?_)
  refine lv_iload hx hb dL_law_441 (lv_at hl 1 rfl) ?_
  refine lv_icmp_eq (tgt := 448) hx hb dL_law_443 (by decide) (fun _ => ?_) (fun q8 => absurd (by decide) q8)
  refine lv_iload hx hb dL_law_448 (lv_at hl 1 rfl) ?_
  refine lv_if_ne (tgt := 465) hx hb dL_law_450 (by decide) (fun _ => ?_) (fun q8 => absurd q8 (by decide))
  refine lv_goto (tgt := 2161) hx hb dL_law_465 (by decide) ?_
  refine W.widen (k := cells + 30) (n := slots + 200) (show cells + 1 ≤ cells + 30 by omega) (show slots + 6 ≤ slots + 200 by omega) ?_
  exact kk U f 1 k _ _ _ hw (lv_sub hl [2, 3, 4, 5, 6] rfl)

set_option maxHeartbeats 4000000 in
set_option maxRecDepth 100000 in
theorem la_buyWax {p9 : Program} {l : Launch} {e : Env} {s9 : State} {m : MethodId} {below : List Frame} {meth : Method} {c : Code} {b L : Nat} {xs : Nat → Int32} (C0 : lw_At p9 s9 m meth c b L xs) (hflags : l.stackTraces = false) (hL : L ≤ 2048) (E : Ev) (hK : va_K E.1 vwCl (tysE E) s9) (hG : Gx s9) (hZ : Zx (aL s9) s9 s9.heap) {Q : State → Prop} (x o : Nat) (A T B M : Nat → Nat) (S U : CS) (G : HS) (th : Int32) (Hb : MH) (a k : Fn) (f : Nat → Int64) (i cells slots : Nat) (hi : i + 4 ≤ L) (z1 : Int32) (e1 : xs (i + 1) = z1) (hy0 : t_buyWax z1 = 0) (hy1 : n_ns Hb ≤ 5) (hy2 : n_np Hb ≤ 16) (hy3 : n_nw Hb ≤ 4) (hy4 : ∀ p, p < n_np Hb → n_so Hb p < 5) (hy5 : d_in z1 1 500 = true) (hy6 : (c_wa S + z1 : Int32).toInt64 = (a 1 + z1 : Int32).toInt64) (hc9 : cells + 30 ≤ 1033879) (hs9 : slots + 200 ≤ 5994467) (kk : ∀ (U1 : CS) (f1 : Nat → Int64) (t1 : Int32) (k1 : Fn) (H : Heap) (locs : List Loc) (ls : Array Slot), Wd E (aL s9) s9.heap (wX x A T B ++ wC E A (B 0) (p_wa S (c_wa S + z1)) ++ wC E T (B 0) U1 ++ wG E B G ++ [(o, aJ E 1 f1)] ++ wN E M (t1, Hb, upd a 1 (a 1 + z1), k1)) H locs → lv_has ls 9 [(0, .ref b), (1, .ref x), (2, .ref (M 0)), (3, .ref o), (4, .int (nI i))] → W p9 l e room_1 s9 m #[Value.ref b] below meth c H locs (cells + 30) (slots + 200) Q (F0 m 2161 ls [])) {H : Heap} {locs : List Loc} {ls : Array Slot} (hw : Wd E (aL s9) s9.heap (wX x A T B ++ wC E A (B 0) S ++ wC E T (B 0) U ++ wG E B G ++ [(o, aJ E 1 f)] ++ wN E M (th, Hb, a, k)) H locs) (hl : lv_has ls 9 [(0, .ref b), (1, .ref x), (2, .ref (M 0)), (3, .ref o), (4, .int (nI i))]) : W p9 l e room_1 s9 m #[Value.ref b] below meth c H locs cells slots Q (F0 m 412 ls []) := by
  obtain ⟨hx, hb, hr, hml, hown, hts0, hX, hbl, hlocks, hgv⟩ := C0
  have hts : ∀ w ∈ wsL_law, w.before #[Value.ref b] s9 = true := fun w h => hts0 w (wsL_law_in w h)
  have hown : s9.vm.findClass RL = some m.cls := hown
  have hA : ∀ q, s9.heap.size ≤ q → aL s9 q := fun _ h => h
  refine lv_aload_n hx hb dL_law_412 rfl (lv_at hl 1 rfl) ?_
  refine lv_aload_n hx hb dL_law_413 rfl (lv_at hl 0 rfl) ?_
  refine lv_iload hx hb dL_law_414 (lv_at hl 4 rfl) ?_
  refine lv_iconst (v := 1) hx hb dL_law_416 (by decide) ?_
  refine k_iaddN (a := i) (b := 1) hx hb dL_law_417 ?_
  refine k_sldv (i := i + 1) (v := z1) hx hb hX hbl hw (by omega) (by omega) e1 dL_law_418 ?_
  refine lv_aload_n hx hb dL_law_419 rfl (lv_at hl 3 rfl) ?_
  refine krx_i (ws' := wX x A T B ++ wC E A (B 0) (p_wa S (c_wa S + z1)) ++ wC E T (B 0) U ++ wG E B G ++ [(o, aJ E 1 (vp_updL f 0 ((c_wa S + z1 : Int32).toInt64)))] ++ wN E M (th, Hb, a, k)) (vx_runSX (As := [.ref x, .int z1, .ref o]) (rest := []) ⟨hx, hb, hml, hown, hts⟩ (c_L_buyWax l hflags E x A T B S U G z1 o f hy0 _) (vx_cwSW 3 hts gL_law_L_buyWax rfl rfl rfl hd_L_buyWax ⟨Nat.le_of_ble_eq_true rfl, Nat.le_of_ble_eq_true rfl⟩) (rpX (AV := [.ref x, .int z1, .ref o]) hw hK hG hZ hA rp_86) rfl rfl hl.1 rfl (lv_room (Nat.le_of_ble_eq_true rfl)) dL_law_420 ⟨(show cells + 1 ≤ 1033879 by omega), (show slots + 6 ≤ 5994467 by omega)⟩) hw hA rp_91 rp_86 (fun H locs ce9 q9 t_1 hw hy1 hy2 hy3 => absurd rfl t_1) (fun H locs t_1 hw => ?_)
  refine lv_istore (lv' := [(5, .int 0), (0, .ref b), (1, .ref x), (2, .ref (M 0)), (3, .ref o), (4, .int (nI i))]) hx hb dL_law_423 hl (by decide) rfl (fun ls hl => ?_)
  refine lv_aload_n hx hb dL_law_425 rfl (lv_at hl 3 rfl) ?_
  refine lv_aload_n hx hb dL_law_426 rfl (lv_at hl 1 rfl) ?_
  refine lv_iload hx hb dL_law_427 (lv_at hl 5 rfl) ?_
  refine lv_iconst (v := 1) hx hb dL_law_429 (by decide) ?_
  refine k_iaddN (a := i) (b := 1) hx hb dL_law_430 ?_
  refine k_sldv (i := i + 1) (v := z1) hx hb hX hbl hw (by omega) (by omega) e1 dL_law_431 ?_
  refine kr_i (ws' := wX x A T B ++ wC E A (B 0) (p_wa S (c_wa S + z1)) ++ wC E T (B 0) U ++ wG E B G ++ [(o, aJ E 1 (vp_updL f 0 ((c_wa S + z1 : Int32).toInt64)))] ++ wN E M (0, Hb, upd a 1 (a 1 + z1), k)) (va_runV (As := [.int z1]) (rest := []) ⟨hx, hb, hml, hown, hts⟩ (c_X3_buyWax l E M th Hb a k z1 hy1 hy2 hy3 hy4 hy5 _) (cwV 1 hts gL_law_X3_buyWax rfl rfl rfl ⟨rfl, hd_X3_buyWax⟩ ⟨Nat.le_of_ble_eq_true rfl, Nat.le_of_ble_eq_true rfl⟩) (pwV (ci := 3) (q0 := 22) (C := RX3) hw hK rfl rfl rfl (rpS (AV := [.ref (M 0), .int z1]) hw hK hG rp_88)) rfl rfl hl.1 rfl (lv_room (Nat.le_of_ble_eq_true rfl)) dL_law_432 ⟨(show cells + 1 + 0 ≤ 1033879 by omega), (show slots + 6 + 0 ≤ 5994467 by omega)⟩) hw hA rp_87 (fun H locs hw => ?_)
  refine lv_istore (lv' := [(6, .int (a 1 + z1)), (5, .int 0), (0, .ref b), (1, .ref x), (2, .ref (M 0)), (3, .ref o), (4, .int (nI i))]) hx hb dL_law_435 hl (by decide) rfl (fun ls hl => ?_)
  refine lv_aload_n hx hb dL_law_437 rfl (lv_at hl 4 rfl) ?_
  refine kr_i (ws' := wX x A T B ++ wC E A (B 0) (p_wa S (c_wa S + z1)) ++ wC E T (B 0) U ++ wG E B G ++ [(o, aJ E 1 (vp_updL f 0 ((c_wa S + z1 : Int32).toInt64)))] ++ wN E M (0, Hb, upd a 1 (a 1 + z1), k)) (va_runV (As := []) (rest := []) ⟨hx, hb, hml, hown, hts⟩ (c_X3_thrown l E M 0 Hb (upd a 1 (a 1 + z1)) k  _) (cwV 0 hts gL_law_X3_thrown rfl rfl rfl ⟨rfl, hd_X3_thrown⟩ ⟨Nat.le_of_ble_eq_true rfl, Nat.le_of_ble_eq_true rfl⟩) (pwV (ci := 3) (q0 := 22) (C := RX3) hw hK rfl rfl rfl (rpS (AV := [.ref (M 0)]) hw hK hG rp_88)) rfl rfl hl.1 rfl (lv_room (Nat.le_of_ble_eq_true rfl)) dL_law_438 ⟨(show cells + 1 + 0 ≤ 1033879 by omega), (show slots + 6 + 0 ≤ 5994467 by omega)⟩) hw hA rp_88 (fun H locs hw => ?_)
  refine lv_iload hx hb dL_law_441 (lv_at hl 1 rfl) ?_
  refine lv_icmp_eq (tgt := 448) hx hb dL_law_443 (by decide) (fun _ => ?_) (fun q8 => absurd (by decide) q8)
  refine lv_iload hx hb dL_law_448 (lv_at hl 1 rfl) ?_
  refine lv_if_ne (tgt := 465) hx hb dL_law_450 (by decide) (fun q8 => absurd (by decide) q8) (fun _ => ?_)
  refine lv_aload_n hx hb dL_law_453 rfl (lv_at hl 5 rfl) ?_
  refine lv_iconst (v := 0) hx hb dL_law_454 (by decide) ?_
  refine k_lld (v := (vp_updL f 0 ((c_wa S + z1 : Int32).toInt64)) 0) hx hb hK hw 21 rfl (vp_in_nI (n := 0) (N := 1) (by decide) (by decide)) rfl dL_law_455 ?_
  refine lv_iload hx hb dL_law_456 (lv_at hl 0 rfl) ?_
  refine lv_i2l (v := (a 1 + z1 : Int32).toInt64) hx hb dL_law_458 rfl ?_
  refine k_lcmpE hx hb dL_law_459 (pk_uLs.trans hy6) ?_
  refine lv_if_eq (tgt := 465) hx hb dL_law_460 (by decide) (fun _ => ?_) (fun q8 => absurd (by decide) q8)
  refine lv_goto (tgt := 2161) hx hb dL_law_465 (by decide) ?_
  refine W.widen (k := cells + 30) (n := slots + 200) (show cells + 1 ≤ cells + 30 by omega) (show slots + 6 ≤ slots + 200 by omega) ?_
  exact kk U (vp_updL f 0 ((c_wa S + z1 : Int32).toInt64)) 0 k _ _ _ hw (lv_sub hl [2, 3, 4, 5, 6] rfl)

set_option maxHeartbeats 4000000 in
set_option maxRecDepth 100000 in
theorem la_sail_1 {p9 : Program} {l : Launch} {e : Env} {s9 : State} {m : MethodId} {below : List Frame} {meth : Method} {c : Code} {b L : Nat} {xs : Nat → Int32} (C0 : lw_At p9 s9 m meth c b L xs) (hflags : l.stackTraces = false) (hL : L ≤ 2048) (E : Ev) (hK : va_K E.1 vwCl (tysE E) s9) (hG : Gx s9) (hZ : Zx (aL s9) s9 s9.heap) {Q : State → Prop} (x o : Nat) (A T B M : Nat → Nat) (S U : CS) (G : HS) (th : Int32) (Hb : MH) (a k : Fn) (f : Nat → Int64) (i cells slots : Nat) (hi : i + 4 ≤ L) (z1 : Int32) (e1 : xs (i + 1) = z1) (hy0 : t_goes G S z1 = 1) (hy1 : n_ns Hb ≤ 5) (hy2 : n_np Hb ≤ 16) (hy3 : n_nw Hb ≤ 4) (hy4 : ∀ p, p < n_np Hb → n_so Hb p < 5) (hy5 : d_in z1 0 (nI (n_ns Hb) - 1) = false) (hc9 : cells + 30 ≤ 1033879) (hs9 : slots + 200 ≤ 5994467) (kk : ∀ (U1 : CS) (f1 : Nat → Int64) (t1 : Int32) (k1 : Fn) (H : Heap) (locs : List Loc) (ls : Array Slot), Wd E (aL s9) s9.heap (wX x A T B ++ wC E A (B 0) S ++ wC E T (B 0) U1 ++ wG E B G ++ [(o, aJ E 1 f1)] ++ wN E M (t1, Hb, a, k1)) H locs → lv_has ls 9 [(0, .ref b), (1, .ref x), (2, .ref (M 0)), (3, .ref o), (4, .int (nI i))] → W p9 l e room_1 s9 m #[Value.ref b] below meth c H locs (cells + 30) (slots + 200) Q (F0 m 2161 ls [])) {H : Heap} {locs : List Loc} {ls : Array Slot} (hw : Wd E (aL s9) s9.heap (wX x A T B ++ wC E A (B 0) S ++ wC E T (B 0) U ++ wG E B G ++ [(o, aJ E 1 f)] ++ wN E M (th, Hb, a, k)) H locs) (hl : lv_has ls 9 [(0, .ref b), (1, .ref x), (2, .ref (M 0)), (3, .ref o), (4, .int (nI i))]) : W p9 l e room_1 s9 m #[Value.ref b] below meth c H locs cells slots Q (F0 m 468 ls []) := by
  obtain ⟨hx, hb, hr, hml, hown, hts0, hX, hbl, hlocks, hgv⟩ := C0
  have hts : ∀ w ∈ wsL_law, w.before #[Value.ref b] s9 = true := fun w h => hts0 w (wsL_law_in w h)
  have hown : s9.vm.findClass RL = some m.cls := hown
  have hA : ∀ q, s9.heap.size ≤ q → aL s9 q := fun _ h => h
  refine lv_aload_n hx hb dL_law_468 rfl (lv_at hl 1 rfl) ?_
  refine lv_aload_n hx hb dL_law_469 rfl (lv_at hl 0 rfl) ?_
  refine lv_iload hx hb dL_law_470 (lv_at hl 4 rfl) ?_
  refine lv_iconst (v := 1) hx hb dL_law_472 (by decide) ?_
  refine k_iaddN (a := i) (b := 1) hx hb dL_law_473 ?_
  refine k_sldv (i := i + 1) (v := z1) hx hb hX hbl hw (by omega) (by omega) e1 dL_law_474 ?_
  refine lv_aload_n hx hb dL_law_475 rfl (lv_at hl 3 rfl) ?_
  refine krx_i (ws' := wX x A T B ++ wC E A (B 0) S ++ wC E T (B 0) U ++ wG E B G ++ [(o, aJ E 1 f)] ++ wN E M (th, Hb, a, k)) (vx_runSX (As := [.ref x, .int z1, .ref o]) (rest := []) ⟨hx, hb, hml, hown, hts⟩ (c_L_sail_1 l hflags E x A T B S U G z1 o f hy0 _) (vx_cwSW 3 hts gL_law_L_sail rfl rfl rfl hd_L_sail ⟨Nat.le_of_ble_eq_true rfl, Nat.le_of_ble_eq_true rfl⟩) (rpX (AV := [.ref x, .int z1, .ref o]) hw hK hG hZ hA rp_86) rfl rfl hl.1 rfl (lv_room (Nat.le_of_ble_eq_true rfl)) dL_law_476 ⟨(show cells + 2 ≤ 1033879 by omega), (show slots + 12 ≤ 5994467 by omega)⟩) hw hA rp_86 rp_86 (fun H locs ce9 q9 t_1 hw hy1 hy2 hy3 => absurd rfl t_1) (fun H locs t_1 hw => ?_)
  refine lv_istore (lv' := [(5, .int 1), (0, .ref b), (1, .ref x), (2, .ref (M 0)), (3, .ref o), (4, .int (nI i))]) hx hb dL_law_479 hl (by decide) rfl (fun ls hl => ?_)
  refine lv_aload_n hx hb dL_law_481 rfl (lv_at hl 3 rfl) ?_
  refine lv_aload_n hx hb dL_law_482 rfl (lv_at hl 1 rfl) ?_
  refine lv_iload hx hb dL_law_483 (lv_at hl 5 rfl) ?_
  refine lv_iconst (v := 1) hx hb dL_law_485 (by decide) ?_
  refine k_iaddN (a := i) (b := 1) hx hb dL_law_486 ?_
  refine k_sldv (i := i + 1) (v := z1) hx hb hX hbl hw (by omega) (by omega) e1 dL_law_487 ?_
  refine kr_i (ws' := wX x A T B ++ wC E A (B 0) S ++ wC E T (B 0) U ++ wG E B G ++ [(o, aJ E 1 f)] ++ wN E M (1, Hb, a, k)) (va_runV (As := [.int z1]) (rest := []) ⟨hx, hb, hml, hown, hts⟩ (c_X3_sail_1 l E M th Hb a k z1 hy1 hy2 hy3 hy4 hy5 _) (cwV 1 hts gL_law_X3_sail rfl rfl rfl ⟨rfl, hd_X3_sail⟩ ⟨Nat.le_of_ble_eq_true rfl, Nat.le_of_ble_eq_true rfl⟩) (pwV (ci := 3) (q0 := 22) (C := RX3) hw hK rfl rfl rfl (rpS (AV := [.ref (M 0), .int z1]) hw hK hG rp_88)) rfl rfl hl.1 rfl (lv_room (Nat.le_of_ble_eq_true rfl)) dL_law_488 ⟨(show cells + 2 + 0 ≤ 1033879 by omega), (show slots + 12 + 0 ≤ 5994467 by omega)⟩) hw hA rp_87 (fun H locs hw => ?_)
  refine lv_istore (lv' := [(6, .int 0), (5, .int 1), (0, .ref b), (1, .ref x), (2, .ref (M 0)), (3, .ref o), (4, .int (nI i))]) hx hb dL_law_491 hl (by decide) rfl (fun ls hl => ?_)
  refine lv_aload_n hx hb dL_law_493 rfl (lv_at hl 4 rfl) ?_
  refine kr_i (ws' := wX x A T B ++ wC E A (B 0) S ++ wC E T (B 0) U ++ wG E B G ++ [(o, aJ E 1 f)] ++ wN E M (1, Hb, a, k)) (va_runV (As := []) (rest := []) ⟨hx, hb, hml, hown, hts⟩ (c_X3_thrown l E M 1 Hb a k  _) (cwV 0 hts gL_law_X3_thrown rfl rfl rfl ⟨rfl, hd_X3_thrown⟩ ⟨Nat.le_of_ble_eq_true rfl, Nat.le_of_ble_eq_true rfl⟩) (pwV (ci := 3) (q0 := 22) (C := RX3) hw hK rfl rfl rfl (rpS (AV := [.ref (M 0)]) hw hK hG rp_88)) rfl rfl hl.1 rfl (lv_room (Nat.le_of_ble_eq_true rfl)) dL_law_494 ⟨(show cells + 2 + 0 ≤ 1033879 by omega), (show slots + 12 + 0 ≤ 5994467 by omega)⟩) hw hA rp_88 (fun H locs hw => ?_)
  refine lv_iload hx hb dL_law_497 (lv_at hl 1 rfl) ?_
  refine lv_icmp_eq (tgt := 504) hx hb dL_law_499 (by decide) (fun _ => ?_) (fun q8 => absurd (by decide) q8)
  refine lv_iload hx hb dL_law_504 (lv_at hl 1 rfl) ?_
  refine lv_if_ne (tgt := 521) hx hb dL_law_506 (by decide) (fun _ => ?_) (fun q8 => absurd q8 (by decide))
  refine lv_goto (tgt := 2161) hx hb dL_law_521 (by decide) ?_
  refine W.widen (k := cells + 30) (n := slots + 200) (show cells + 2 ≤ cells + 30 by omega) (show slots + 12 ≤ slots + 200 by omega) ?_
  exact kk U f 1 k _ _ _ hw (lv_sub hl [2, 3, 4, 5, 6] rfl)

set_option maxHeartbeats 4000000 in
set_option maxRecDepth 100000 in
theorem la_sail_2 {p9 : Program} {l : Launch} {e : Env} {s9 : State} {m : MethodId} {below : List Frame} {meth : Method} {c : Code} {b L : Nat} {xs : Nat → Int32} (C0 : lw_At p9 s9 m meth c b L xs) (hflags : l.stackTraces = false) (hL : L ≤ 2048) (E : Ev) (hK : va_K E.1 vwCl (tysE E) s9) (hG : Gx s9) (hZ : Zx (aL s9) s9 s9.heap) {Q : State → Prop} (x o : Nat) (A T B M : Nat → Nat) (S U : CS) (G : HS) (th : Int32) (Hb : MH) (a k : Fn) (f : Nat → Int64) (i cells slots : Nat) (hi : i + 4 ≤ L) (n1 : Nat) (e1 : xs (i + 1) = nI n1) (hy0 : t_goes G S (nI n1) = 2) (hy1 : n_ns Hb ≤ 5) (hy2 : n_np Hb ≤ 16) (hy3 : n_nw Hb ≤ 4) (hy4 : ∀ p, p < n_np Hb → n_so Hb p < 5) (hy5 : n1 < n_ns Hb) (hy6 : ¬ a (3 + 3 * n1 + 0) = 0) (hc9 : cells + 30 ≤ 1033879) (hs9 : slots + 200 ≤ 5994467) (kk : ∀ (U1 : CS) (f1 : Nat → Int64) (t1 : Int32) (k1 : Fn) (H : Heap) (locs : List Loc) (ls : Array Slot), Wd E (aL s9) s9.heap (wX x A T B ++ wC E A (B 0) S ++ wC E T (B 0) U1 ++ wG E B G ++ [(o, aJ E 1 f1)] ++ wN E M (t1, Hb, a, k1)) H locs → lv_has ls 9 [(0, .ref b), (1, .ref x), (2, .ref (M 0)), (3, .ref o), (4, .int (nI i))] → W p9 l e room_1 s9 m #[Value.ref b] below meth c H locs (cells + 30) (slots + 200) Q (F0 m 2161 ls [])) {H : Heap} {locs : List Loc} {ls : Array Slot} (hw : Wd E (aL s9) s9.heap (wX x A T B ++ wC E A (B 0) S ++ wC E T (B 0) U ++ wG E B G ++ [(o, aJ E 1 f)] ++ wN E M (th, Hb, a, k)) H locs) (hl : lv_has ls 9 [(0, .ref b), (1, .ref x), (2, .ref (M 0)), (3, .ref o), (4, .int (nI i))]) : W p9 l e room_1 s9 m #[Value.ref b] below meth c H locs cells slots Q (F0 m 468 ls []) := by
  obtain ⟨hx, hb, hr, hml, hown, hts0, hX, hbl, hlocks, hgv⟩ := C0
  have hts : ∀ w ∈ wsL_law, w.before #[Value.ref b] s9 = true := fun w h => hts0 w (wsL_law_in w h)
  have hown : s9.vm.findClass RL = some m.cls := hown
  have hA : ∀ q, s9.heap.size ≤ q → aL s9 q := fun _ h => h
  refine lv_aload_n hx hb dL_law_468 rfl (lv_at hl 1 rfl) ?_
  refine lv_aload_n hx hb dL_law_469 rfl (lv_at hl 0 rfl) ?_
  refine lv_iload hx hb dL_law_470 (lv_at hl 4 rfl) ?_
  refine lv_iconst (v := 1) hx hb dL_law_472 (by decide) ?_
  refine k_iaddN (a := i) (b := 1) hx hb dL_law_473 ?_
  refine k_sldv (i := i + 1) (v := nI n1) hx hb hX hbl hw (by omega) (by omega) e1 dL_law_474 ?_
  refine lv_aload_n hx hb dL_law_475 rfl (lv_at hl 3 rfl) ?_
  refine krx_i (ws' := wX x A T B ++ wC E A (B 0) S ++ wC E T (B 0) U ++ wG E B G ++ [(o, aJ E 1 f)] ++ wN E M (th, Hb, a, k)) (vx_runSX (As := [.ref x, .int (nI n1), .ref o]) (rest := []) ⟨hx, hb, hml, hown, hts⟩ (c_L_sail_2 l hflags E x A T B S U G (nI n1) o f hy0 _) (vx_cwSW 3 hts gL_law_L_sail rfl rfl rfl hd_L_sail ⟨Nat.le_of_ble_eq_true rfl, Nat.le_of_ble_eq_true rfl⟩) (rpX (AV := [.ref x, .int (nI n1), .ref o]) hw hK hG hZ hA rp_86) rfl rfl hl.1 rfl (lv_room (Nat.le_of_ble_eq_true rfl)) dL_law_476 ⟨(show cells + 2 ≤ 1033879 by omega), (show slots + 12 ≤ 5994467 by omega)⟩) hw hA rp_86 rp_86 (fun H locs ce9 q9 t_1 hw hy1 hy2 hy3 => absurd rfl t_1) (fun H locs t_1 hw => ?_)
  refine lv_istore (lv' := [(5, .int 2), (0, .ref b), (1, .ref x), (2, .ref (M 0)), (3, .ref o), (4, .int (nI i))]) hx hb dL_law_479 hl (by decide) rfl (fun ls hl => ?_)
  refine lv_aload_n hx hb dL_law_481 rfl (lv_at hl 3 rfl) ?_
  refine lv_aload_n hx hb dL_law_482 rfl (lv_at hl 1 rfl) ?_
  refine lv_iload hx hb dL_law_483 (lv_at hl 5 rfl) ?_
  refine lv_iconst (v := 1) hx hb dL_law_485 (by decide) ?_
  refine k_iaddN (a := i) (b := 1) hx hb dL_law_486 ?_
  refine k_sldv (i := i + 1) (v := nI n1) hx hb hX hbl hw (by omega) (by omega) e1 dL_law_487 ?_
  refine kr_i (ws' := wX x A T B ++ wC E A (B 0) S ++ wC E T (B 0) U ++ wG E B G ++ [(o, aJ E 1 f)] ++ wN E M (2, Hb, a, k)) (va_runV (As := [.int (nI n1)]) (rest := []) ⟨hx, hb, hml, hown, hts⟩ (c_X3_sail_2 l E M th Hb a k n1 hy1 hy2 hy3 hy4 hy5 hy6 _) (cwV 1 hts gL_law_X3_sail rfl rfl rfl ⟨rfl, hd_X3_sail⟩ ⟨Nat.le_of_ble_eq_true rfl, Nat.le_of_ble_eq_true rfl⟩) (pwV (ci := 3) (q0 := 22) (C := RX3) hw hK rfl rfl rfl (rpS (AV := [.ref (M 0), .int (nI n1)]) hw hK hG rp_88)) rfl rfl hl.1 rfl (lv_room (Nat.le_of_ble_eq_true rfl)) dL_law_488 ⟨(show cells + 2 + 0 ≤ 1033879 by omega), (show slots + 12 + 0 ≤ 5994467 by omega)⟩) hw hA rp_87 (fun H locs hw => ?_)
  refine lv_istore (lv' := [(6, .int 0), (5, .int 2), (0, .ref b), (1, .ref x), (2, .ref (M 0)), (3, .ref o), (4, .int (nI i))]) hx hb dL_law_491 hl (by decide) rfl (fun ls hl => ?_)
  refine lv_aload_n hx hb dL_law_493 rfl (lv_at hl 4 rfl) ?_
  refine kr_i (ws' := wX x A T B ++ wC E A (B 0) S ++ wC E T (B 0) U ++ wG E B G ++ [(o, aJ E 1 f)] ++ wN E M (2, Hb, a, k)) (va_runV (As := []) (rest := []) ⟨hx, hb, hml, hown, hts⟩ (c_X3_thrown l E M 2 Hb a k  _) (cwV 0 hts gL_law_X3_thrown rfl rfl rfl ⟨rfl, hd_X3_thrown⟩ ⟨Nat.le_of_ble_eq_true rfl, Nat.le_of_ble_eq_true rfl⟩) (pwV (ci := 3) (q0 := 22) (C := RX3) hw hK rfl rfl rfl (rpS (AV := [.ref (M 0)]) hw hK hG rp_88)) rfl rfl hl.1 rfl (lv_room (Nat.le_of_ble_eq_true rfl)) dL_law_494 ⟨(show cells + 2 + 0 ≤ 1033879 by omega), (show slots + 12 + 0 ≤ 5994467 by omega)⟩) hw hA rp_88 (fun H locs hw => ?_)
  refine lv_iload hx hb dL_law_497 (lv_at hl 1 rfl) ?_
  refine lv_icmp_eq (tgt := 504) hx hb dL_law_499 (by decide) (fun _ => ?_) (fun q8 => absurd (by decide) q8)
  refine lv_iload hx hb dL_law_504 (lv_at hl 1 rfl) ?_
  refine lv_if_ne (tgt := 521) hx hb dL_law_506 (by decide) (fun _ => ?_) (fun q8 => absurd q8 (by decide))
  refine lv_goto (tgt := 2161) hx hb dL_law_521 (by decide) ?_
  refine W.widen (k := cells + 30) (n := slots + 200) (show cells + 2 ≤ cells + 30 by omega) (show slots + 12 ≤ slots + 200 by omega) ?_
  exact kk U f 2 k _ _ _ hw (lv_sub hl [2, 3, 4, 5, 6] rfl)

set_option maxHeartbeats 4000000 in
set_option maxRecDepth 100000 in
theorem la_sail {p9 : Program} {l : Launch} {e : Env} {s9 : State} {m : MethodId} {below : List Frame} {meth : Method} {c : Code} {b L : Nat} {xs : Nat → Int32} (C0 : lw_At p9 s9 m meth c b L xs) (hflags : l.stackTraces = false) (hL : L ≤ 2048) (E : Ev) (hK : va_K E.1 vwCl (tysE E) s9) (hG : Gx s9) (hZ : Zx (aL s9) s9 s9.heap) {Q : State → Prop} (x o : Nat) (A T B M : Nat → Nat) (S U : CS) (G : HS) (th : Int32) (Hb : MH) (a k : Fn) (f : Nat → Int64) (i cells slots : Nat) (hi : i + 4 ≤ L) (n1 : Nat) (e1 : xs (i + 1) = nI n1) (hy0 : t_goes G S (nI n1) = 0) (hy1 : n_ns Hb ≤ 5) (hy2 : n_np Hb ≤ 16) (hy3 : n_nw Hb ≤ 4) (hy4 : ∀ p, p < n_np Hb → n_so Hb p < 5) (hy5 : n1 < n_ns Hb) (hy6 : a (3 + 3 * n1 + 0) = 0) (hy7 : (f_sailN (f_clear G (nI n1)) S (nI n1) : Int32).toInt64 = (l_mslN Hb n1 (r_sailA a n1) (n_np Hb) : Int32).toInt64) (hc9 : cells + 30 ≤ 1033879) (hs9 : slots + 200 ≤ 5994467) (kk : ∀ (U1 : CS) (f1 : Nat → Int64) (t1 : Int32) (k1 : Fn) (H : Heap) (locs : List Loc) (ls : Array Slot), Wd E (aL s9) s9.heap (wX x A T B ++ wC E A (B 0) (f_sailS (f_clear G (nI n1)) S (nI n1)) ++ wC E T (B 0) U1 ++ wG E B (f_clear G (nI n1)) ++ [(o, aJ E 1 f1)] ++ wN E M (t1, Hb, l_msl Hb n1 (r_sailA a n1) (n_np Hb), k1)) H locs → lv_has ls 9 [(0, .ref b), (1, .ref x), (2, .ref (M 0)), (3, .ref o), (4, .int (nI i))] → W p9 l e room_1 s9 m #[Value.ref b] below meth c H locs (cells + 30) (slots + 200) Q (F0 m 2161 ls [])) {H : Heap} {locs : List Loc} {ls : Array Slot} (hw : Wd E (aL s9) s9.heap (wX x A T B ++ wC E A (B 0) S ++ wC E T (B 0) U ++ wG E B G ++ [(o, aJ E 1 f)] ++ wN E M (th, Hb, a, k)) H locs) (hl : lv_has ls 9 [(0, .ref b), (1, .ref x), (2, .ref (M 0)), (3, .ref o), (4, .int (nI i))]) : W p9 l e room_1 s9 m #[Value.ref b] below meth c H locs cells slots Q (F0 m 468 ls []) := by
  obtain ⟨hx, hb, hr, hml, hown, hts0, hX, hbl, hlocks, hgv⟩ := C0
  have hts : ∀ w ∈ wsL_law, w.before #[Value.ref b] s9 = true := fun w h => hts0 w (wsL_law_in w h)
  have hown : s9.vm.findClass RL = some m.cls := hown
  have hA : ∀ q, s9.heap.size ≤ q → aL s9 q := fun _ h => h
  refine lv_aload_n hx hb dL_law_468 rfl (lv_at hl 1 rfl) ?_
  refine lv_aload_n hx hb dL_law_469 rfl (lv_at hl 0 rfl) ?_
  refine lv_iload hx hb dL_law_470 (lv_at hl 4 rfl) ?_
  refine lv_iconst (v := 1) hx hb dL_law_472 (by decide) ?_
  refine k_iaddN (a := i) (b := 1) hx hb dL_law_473 ?_
  refine k_sldv (i := i + 1) (v := nI n1) hx hb hX hbl hw (by omega) (by omega) e1 dL_law_474 ?_
  refine lv_aload_n hx hb dL_law_475 rfl (lv_at hl 3 rfl) ?_
  refine krx_i (ws' := wX x A T B ++ wC E A (B 0) (f_sailS (f_clear G (nI n1)) S (nI n1)) ++ wC E T (B 0) U ++ wG E B (f_clear G (nI n1)) ++ [(o, aJ E 1 (vp_updL f 0 ((f_sailN (f_clear G (nI n1)) S (nI n1) : Int32).toInt64)))] ++ wN E M (th, Hb, a, k)) (vx_runSX (As := [.ref x, .int (nI n1), .ref o]) (rest := []) ⟨hx, hb, hml, hown, hts⟩ (c_L_sail l hflags E x A T B S U G (nI n1) o f hy0 _) (vx_cwSW 3 hts gL_law_L_sail rfl rfl rfl hd_L_sail ⟨Nat.le_of_ble_eq_true rfl, Nat.le_of_ble_eq_true rfl⟩) (rpX (AV := [.ref x, .int (nI n1), .ref o]) hw hK hG hZ hA rp_86) rfl rfl hl.1 rfl (lv_room (Nat.le_of_ble_eq_true rfl)) dL_law_476 ⟨(show cells + 2 ≤ 1033879 by omega), (show slots + 12 ≤ 5994467 by omega)⟩) hw hA rp_90 rp_86 (fun H locs ce9 q9 t_1 hw hy1 hy2 hy3 => absurd rfl t_1) (fun H locs t_1 hw => ?_)
  refine lv_istore (lv' := [(5, .int 0), (0, .ref b), (1, .ref x), (2, .ref (M 0)), (3, .ref o), (4, .int (nI i))]) hx hb dL_law_479 hl (by decide) rfl (fun ls hl => ?_)
  refine lv_aload_n hx hb dL_law_481 rfl (lv_at hl 3 rfl) ?_
  refine lv_aload_n hx hb dL_law_482 rfl (lv_at hl 1 rfl) ?_
  refine lv_iload hx hb dL_law_483 (lv_at hl 5 rfl) ?_
  refine lv_iconst (v := 1) hx hb dL_law_485 (by decide) ?_
  refine k_iaddN (a := i) (b := 1) hx hb dL_law_486 ?_
  refine k_sldv (i := i + 1) (v := nI n1) hx hb hX hbl hw (by omega) (by omega) e1 dL_law_487 ?_
  refine kr_i (ws' := wX x A T B ++ wC E A (B 0) (f_sailS (f_clear G (nI n1)) S (nI n1)) ++ wC E T (B 0) U ++ wG E B (f_clear G (nI n1)) ++ [(o, aJ E 1 (vp_updL f 0 ((f_sailN (f_clear G (nI n1)) S (nI n1) : Int32).toInt64)))] ++ wN E M (0, Hb, l_msl Hb n1 (r_sailA a n1) (n_np Hb), k)) (va_runV (As := [.int (nI n1)]) (rest := []) ⟨hx, hb, hml, hown, hts⟩ (c_X3_sail l E M th Hb a k n1 hy1 hy2 hy3 hy4 hy5 hy6 _) (cwV 1 hts gL_law_X3_sail rfl rfl rfl ⟨rfl, hd_X3_sail⟩ ⟨Nat.le_of_ble_eq_true rfl, Nat.le_of_ble_eq_true rfl⟩) (pwV (ci := 3) (q0 := 22) (C := RX3) hw hK rfl rfl rfl (rpS (AV := [.ref (M 0), .int (nI n1)]) hw hK hG rp_88)) rfl rfl hl.1 rfl (lv_room (Nat.le_of_ble_eq_true rfl)) dL_law_488 ⟨(show cells + 2 + 0 ≤ 1033879 by omega), (show slots + 12 + 0 ≤ 5994467 by omega)⟩) hw hA rp_87 (fun H locs hw => ?_)
  refine lv_istore (lv' := [(6, .int (l_mslN Hb n1 (r_sailA a n1) (n_np Hb))), (5, .int 0), (0, .ref b), (1, .ref x), (2, .ref (M 0)), (3, .ref o), (4, .int (nI i))]) hx hb dL_law_491 hl (by decide) rfl (fun ls hl => ?_)
  refine lv_aload_n hx hb dL_law_493 rfl (lv_at hl 4 rfl) ?_
  refine kr_i (ws' := wX x A T B ++ wC E A (B 0) (f_sailS (f_clear G (nI n1)) S (nI n1)) ++ wC E T (B 0) U ++ wG E B (f_clear G (nI n1)) ++ [(o, aJ E 1 (vp_updL f 0 ((f_sailN (f_clear G (nI n1)) S (nI n1) : Int32).toInt64)))] ++ wN E M (0, Hb, l_msl Hb n1 (r_sailA a n1) (n_np Hb), k)) (va_runV (As := []) (rest := []) ⟨hx, hb, hml, hown, hts⟩ (c_X3_thrown l E M 0 Hb (l_msl Hb n1 (r_sailA a n1) (n_np Hb)) k  _) (cwV 0 hts gL_law_X3_thrown rfl rfl rfl ⟨rfl, hd_X3_thrown⟩ ⟨Nat.le_of_ble_eq_true rfl, Nat.le_of_ble_eq_true rfl⟩) (pwV (ci := 3) (q0 := 22) (C := RX3) hw hK rfl rfl rfl (rpS (AV := [.ref (M 0)]) hw hK hG rp_88)) rfl rfl hl.1 rfl (lv_room (Nat.le_of_ble_eq_true rfl)) dL_law_494 ⟨(show cells + 2 + 0 ≤ 1033879 by omega), (show slots + 12 + 0 ≤ 5994467 by omega)⟩) hw hA rp_88 (fun H locs hw => ?_)
  refine lv_iload hx hb dL_law_497 (lv_at hl 1 rfl) ?_
  refine lv_icmp_eq (tgt := 504) hx hb dL_law_499 (by decide) (fun _ => ?_) (fun q8 => absurd (by decide) q8)
  refine lv_iload hx hb dL_law_504 (lv_at hl 1 rfl) ?_
  refine lv_if_ne (tgt := 521) hx hb dL_law_506 (by decide) (fun q8 => absurd (by decide) q8) (fun _ => ?_)
  refine lv_aload_n hx hb dL_law_509 rfl (lv_at hl 5 rfl) ?_
  refine lv_iconst (v := 0) hx hb dL_law_510 (by decide) ?_
  refine k_lld (v := (vp_updL f 0 ((f_sailN (f_clear G (nI n1)) S (nI n1) : Int32).toInt64)) 0) hx hb hK hw 21 rfl (vp_in_nI (n := 0) (N := 1) (by decide) (by decide)) rfl dL_law_511 ?_
  refine lv_iload hx hb dL_law_512 (lv_at hl 0 rfl) ?_
  refine lv_i2l (v := (l_mslN Hb n1 (r_sailA a n1) (n_np Hb) : Int32).toInt64) hx hb dL_law_514 rfl ?_
  refine k_lcmpE hx hb dL_law_515 (pk_uLs.trans hy7) ?_
  refine lv_if_eq (tgt := 521) hx hb dL_law_516 (by decide) (fun _ => ?_) (fun q8 => absurd (by decide) q8)
  refine lv_goto (tgt := 2161) hx hb dL_law_521 (by decide) ?_
  refine W.widen (k := cells + 30) (n := slots + 200) (show cells + 2 ≤ cells + 30 by omega) (show slots + 12 ≤ slots + 200 by omega) ?_
  exact kk U (vp_updL f 0 ((f_sailN (f_clear G (nI n1)) S (nI n1) : Int32).toInt64)) 0 k _ _ _ hw (lv_sub hl [2, 3, 4, 5, 6] rfl)

set_option maxHeartbeats 4000000 in
set_option maxRecDepth 100000 in
theorem la_comeHome_1 {p9 : Program} {l : Launch} {e : Env} {s9 : State} {m : MethodId} {below : List Frame} {meth : Method} {c : Code} {b L : Nat} {xs : Nat → Int32} (C0 : lw_At p9 s9 m meth c b L xs) (hflags : l.stackTraces = false) (hL : L ≤ 2048) (E : Ev) (hK : va_K E.1 vwCl (tysE E) s9) (hG : Gx s9) (hZ : Zx (aL s9) s9 s9.heap) {Q : State → Prop} (x o : Nat) (A T B M : Nat → Nat) (S U : CS) (G : HS) (th : Int32) (Hb : MH) (a k : Fn) (f : Nat → Int64) (i cells slots : Nat) (hi : i + 4 ≤ L) (z1 : Int32) (e1 : xs (i + 1) = z1) (hy0 : t_home G S z1 = 1) (hy1 : n_ns Hb ≤ 5) (hy2 : n_np Hb ≤ 16) (hy3 : n_nw Hb ≤ 4) (hy4 : ∀ p, p < n_np Hb → n_so Hb p < 5) (hy5 : d_in z1 0 (nI (n_ns Hb) - 1) = false) (hc9 : cells + 30 ≤ 1033879) (hs9 : slots + 200 ≤ 5994467) (kk : ∀ (U1 : CS) (f1 : Nat → Int64) (t1 : Int32) (k1 : Fn) (H : Heap) (locs : List Loc) (ls : Array Slot), Wd E (aL s9) s9.heap (wX x A T B ++ wC E A (B 0) S ++ wC E T (B 0) U1 ++ wG E B G ++ [(o, aJ E 1 f1)] ++ wN E M (t1, Hb, a, k1)) H locs → lv_has ls 9 [(0, .ref b), (1, .ref x), (2, .ref (M 0)), (3, .ref o), (4, .int (nI i))] → W p9 l e room_1 s9 m #[Value.ref b] below meth c H locs (cells + 30) (slots + 200) Q (F0 m 2161 ls [])) {H : Heap} {locs : List Loc} {ls : Array Slot} (hw : Wd E (aL s9) s9.heap (wX x A T B ++ wC E A (B 0) S ++ wC E T (B 0) U ++ wG E B G ++ [(o, aJ E 1 f)] ++ wN E M (th, Hb, a, k)) H locs) (hl : lv_has ls 9 [(0, .ref b), (1, .ref x), (2, .ref (M 0)), (3, .ref o), (4, .int (nI i))]) : W p9 l e room_1 s9 m #[Value.ref b] below meth c H locs cells slots Q (F0 m 524 ls []) := by
  obtain ⟨hx, hb, hr, hml, hown, hts0, hX, hbl, hlocks, hgv⟩ := C0
  have hts : ∀ w ∈ wsL_law, w.before #[Value.ref b] s9 = true := fun w h => hts0 w (wsL_law_in w h)
  have hown : s9.vm.findClass RL = some m.cls := hown
  have hA : ∀ q, s9.heap.size ≤ q → aL s9 q := fun _ h => h
  refine lv_aload_n hx hb dL_law_524 rfl (lv_at hl 1 rfl) ?_
  refine lv_aload_n hx hb dL_law_525 rfl (lv_at hl 0 rfl) ?_
  refine lv_iload hx hb dL_law_526 (lv_at hl 4 rfl) ?_
  refine lv_iconst (v := 1) hx hb dL_law_528 (by decide) ?_
  refine k_iaddN (a := i) (b := 1) hx hb dL_law_529 ?_
  refine k_sldv (i := i + 1) (v := z1) hx hb hX hbl hw (by omega) (by omega) e1 dL_law_530 ?_
  refine lv_aload_n hx hb dL_law_531 rfl (lv_at hl 3 rfl) ?_
  refine krx_i (ws' := wX x A T B ++ wC E A (B 0) S ++ wC E T (B 0) U ++ wG E B G ++ [(o, aJ E 1 f)] ++ wN E M (th, Hb, a, k)) (vx_runSX (As := [.ref x, .int z1, .ref o]) (rest := []) ⟨hx, hb, hml, hown, hts⟩ (c_L_comeHome_1 l hflags E x A T B S U G z1 o f hy0 _) (vx_cwSW 3 hts gL_law_L_comeHome rfl rfl rfl hd_L_comeHome ⟨Nat.le_of_ble_eq_true rfl, Nat.le_of_ble_eq_true rfl⟩) (rpX (AV := [.ref x, .int z1, .ref o]) hw hK hG hZ hA rp_86) rfl rfl hl.1 rfl (lv_room (Nat.le_of_ble_eq_true rfl)) dL_law_532 ⟨(show cells + 2 ≤ 1033879 by omega), (show slots + 12 ≤ 5994467 by omega)⟩) hw hA rp_86 rp_86 (fun H locs ce9 q9 t_1 hw hy1 hy2 hy3 => absurd rfl t_1) (fun H locs t_1 hw => ?_)
  refine lv_istore (lv' := [(5, .int 1), (0, .ref b), (1, .ref x), (2, .ref (M 0)), (3, .ref o), (4, .int (nI i))]) hx hb dL_law_535 hl (by decide) rfl (fun ls hl => ?_)
  refine lv_aload_n hx hb dL_law_537 rfl (lv_at hl 3 rfl) ?_
  refine lv_aload_n hx hb dL_law_538 rfl (lv_at hl 1 rfl) ?_
  refine lv_iload hx hb dL_law_539 (lv_at hl 5 rfl) ?_
  refine lv_iconst (v := 1) hx hb dL_law_541 (by decide) ?_
  refine k_iaddN (a := i) (b := 1) hx hb dL_law_542 ?_
  refine k_sldv (i := i + 1) (v := z1) hx hb hX hbl hw (by omega) (by omega) e1 dL_law_543 ?_
  refine kr_i (ws' := wX x A T B ++ wC E A (B 0) S ++ wC E T (B 0) U ++ wG E B G ++ [(o, aJ E 1 f)] ++ wN E M (1, Hb, a, k)) (va_runV (As := [.int z1]) (rest := []) ⟨hx, hb, hml, hown, hts⟩ (c_X3_comeHome_1 l E M th Hb a k z1 hy1 hy2 hy3 hy4 hy5 _) (cwV 1 hts gL_law_X3_comeHome rfl rfl rfl ⟨rfl, hd_X3_comeHome⟩ ⟨Nat.le_of_ble_eq_true rfl, Nat.le_of_ble_eq_true rfl⟩) (pwV (ci := 3) (q0 := 22) (C := RX3) hw hK rfl rfl rfl (rpS (AV := [.ref (M 0), .int z1]) hw hK hG rp_88)) rfl rfl hl.1 rfl (lv_room (Nat.le_of_ble_eq_true rfl)) dL_law_544 ⟨(show cells + 2 + 0 ≤ 1033879 by omega), (show slots + 12 + 0 ≤ 5994467 by omega)⟩) hw hA rp_87 (fun H locs hw => ?_)
  refine lv_istore (lv' := [(6, .int 0), (5, .int 1), (0, .ref b), (1, .ref x), (2, .ref (M 0)), (3, .ref o), (4, .int (nI i))]) hx hb dL_law_547 hl (by decide) rfl (fun ls hl => ?_)
  refine lv_aload_n hx hb dL_law_549 rfl (lv_at hl 4 rfl) ?_
  refine kr_i (ws' := wX x A T B ++ wC E A (B 0) S ++ wC E T (B 0) U ++ wG E B G ++ [(o, aJ E 1 f)] ++ wN E M (1, Hb, a, k)) (va_runV (As := []) (rest := []) ⟨hx, hb, hml, hown, hts⟩ (c_X3_thrown l E M 1 Hb a k  _) (cwV 0 hts gL_law_X3_thrown rfl rfl rfl ⟨rfl, hd_X3_thrown⟩ ⟨Nat.le_of_ble_eq_true rfl, Nat.le_of_ble_eq_true rfl⟩) (pwV (ci := 3) (q0 := 22) (C := RX3) hw hK rfl rfl rfl (rpS (AV := [.ref (M 0)]) hw hK hG rp_88)) rfl rfl hl.1 rfl (lv_room (Nat.le_of_ble_eq_true rfl)) dL_law_550 ⟨(show cells + 2 + 0 ≤ 1033879 by omega), (show slots + 12 + 0 ≤ 5994467 by omega)⟩) hw hA rp_88 (fun H locs hw => ?_)
  refine lv_iload hx hb dL_law_553 (lv_at hl 1 rfl) ?_
  refine lv_icmp_eq (tgt := 560) hx hb dL_law_555 (by decide) (fun _ => ?_) (fun q8 => absurd (by decide) q8)
  refine lv_iload hx hb dL_law_560 (lv_at hl 1 rfl) ?_
  refine lv_if_ne (tgt := 577) hx hb dL_law_562 (by decide) (fun _ => ?_) (fun q8 => absurd q8 (by decide))
  refine lv_goto (tgt := 2161) hx hb dL_law_577 (by decide) ?_
  refine W.widen (k := cells + 30) (n := slots + 200) (show cells + 2 ≤ cells + 30 by omega) (show slots + 12 ≤ slots + 200 by omega) ?_
  exact kk U f 1 k _ _ _ hw (lv_sub hl [2, 3, 4, 5, 6] rfl)

set_option maxHeartbeats 4000000 in
set_option maxRecDepth 100000 in
theorem la_comeHome_2 {p9 : Program} {l : Launch} {e : Env} {s9 : State} {m : MethodId} {below : List Frame} {meth : Method} {c : Code} {b L : Nat} {xs : Nat → Int32} (C0 : lw_At p9 s9 m meth c b L xs) (hflags : l.stackTraces = false) (hL : L ≤ 2048) (E : Ev) (hK : va_K E.1 vwCl (tysE E) s9) (hG : Gx s9) (hZ : Zx (aL s9) s9 s9.heap) {Q : State → Prop} (x o : Nat) (A T B M : Nat → Nat) (S U : CS) (G : HS) (th : Int32) (Hb : MH) (a k : Fn) (f : Nat → Int64) (i cells slots : Nat) (hi : i + 4 ≤ L) (n1 : Nat) (e1 : xs (i + 1) = nI n1) (hy0 : t_home G S (nI n1) = 2) (hy1 : n_ns Hb ≤ 5) (hy2 : n_np Hb ≤ 16) (hy3 : n_nw Hb ≤ 4) (hy4 : ∀ p, p < n_np Hb → n_so Hb p < 5) (hy5 : n1 < n_ns Hb) (hy6 : a (3 + 3 * n1 + 0) = 0) (hc9 : cells + 30 ≤ 1033879) (hs9 : slots + 200 ≤ 5994467) (kk : ∀ (U1 : CS) (f1 : Nat → Int64) (t1 : Int32) (k1 : Fn) (H : Heap) (locs : List Loc) (ls : Array Slot), Wd E (aL s9) s9.heap (wX x A T B ++ wC E A (B 0) S ++ wC E T (B 0) U1 ++ wG E B G ++ [(o, aJ E 1 f1)] ++ wN E M (t1, Hb, a, k1)) H locs → lv_has ls 9 [(0, .ref b), (1, .ref x), (2, .ref (M 0)), (3, .ref o), (4, .int (nI i))] → W p9 l e room_1 s9 m #[Value.ref b] below meth c H locs (cells + 30) (slots + 200) Q (F0 m 2161 ls [])) {H : Heap} {locs : List Loc} {ls : Array Slot} (hw : Wd E (aL s9) s9.heap (wX x A T B ++ wC E A (B 0) S ++ wC E T (B 0) U ++ wG E B G ++ [(o, aJ E 1 f)] ++ wN E M (th, Hb, a, k)) H locs) (hl : lv_has ls 9 [(0, .ref b), (1, .ref x), (2, .ref (M 0)), (3, .ref o), (4, .int (nI i))]) : W p9 l e room_1 s9 m #[Value.ref b] below meth c H locs cells slots Q (F0 m 524 ls []) := by
  obtain ⟨hx, hb, hr, hml, hown, hts0, hX, hbl, hlocks, hgv⟩ := C0
  have hts : ∀ w ∈ wsL_law, w.before #[Value.ref b] s9 = true := fun w h => hts0 w (wsL_law_in w h)
  have hown : s9.vm.findClass RL = some m.cls := hown
  have hA : ∀ q, s9.heap.size ≤ q → aL s9 q := fun _ h => h
  refine lv_aload_n hx hb dL_law_524 rfl (lv_at hl 1 rfl) ?_
  refine lv_aload_n hx hb dL_law_525 rfl (lv_at hl 0 rfl) ?_
  refine lv_iload hx hb dL_law_526 (lv_at hl 4 rfl) ?_
  refine lv_iconst (v := 1) hx hb dL_law_528 (by decide) ?_
  refine k_iaddN (a := i) (b := 1) hx hb dL_law_529 ?_
  refine k_sldv (i := i + 1) (v := nI n1) hx hb hX hbl hw (by omega) (by omega) e1 dL_law_530 ?_
  refine lv_aload_n hx hb dL_law_531 rfl (lv_at hl 3 rfl) ?_
  refine krx_i (ws' := wX x A T B ++ wC E A (B 0) S ++ wC E T (B 0) U ++ wG E B G ++ [(o, aJ E 1 f)] ++ wN E M (th, Hb, a, k)) (vx_runSX (As := [.ref x, .int (nI n1), .ref o]) (rest := []) ⟨hx, hb, hml, hown, hts⟩ (c_L_comeHome_2 l hflags E x A T B S U G (nI n1) o f hy0 _) (vx_cwSW 3 hts gL_law_L_comeHome rfl rfl rfl hd_L_comeHome ⟨Nat.le_of_ble_eq_true rfl, Nat.le_of_ble_eq_true rfl⟩) (rpX (AV := [.ref x, .int (nI n1), .ref o]) hw hK hG hZ hA rp_86) rfl rfl hl.1 rfl (lv_room (Nat.le_of_ble_eq_true rfl)) dL_law_532 ⟨(show cells + 2 ≤ 1033879 by omega), (show slots + 12 ≤ 5994467 by omega)⟩) hw hA rp_86 rp_86 (fun H locs ce9 q9 t_1 hw hy1 hy2 hy3 => absurd rfl t_1) (fun H locs t_1 hw => ?_)
  refine lv_istore (lv' := [(5, .int 2), (0, .ref b), (1, .ref x), (2, .ref (M 0)), (3, .ref o), (4, .int (nI i))]) hx hb dL_law_535 hl (by decide) rfl (fun ls hl => ?_)
  refine lv_aload_n hx hb dL_law_537 rfl (lv_at hl 3 rfl) ?_
  refine lv_aload_n hx hb dL_law_538 rfl (lv_at hl 1 rfl) ?_
  refine lv_iload hx hb dL_law_539 (lv_at hl 5 rfl) ?_
  refine lv_iconst (v := 1) hx hb dL_law_541 (by decide) ?_
  refine k_iaddN (a := i) (b := 1) hx hb dL_law_542 ?_
  refine k_sldv (i := i + 1) (v := nI n1) hx hb hX hbl hw (by omega) (by omega) e1 dL_law_543 ?_
  refine kr_i (ws' := wX x A T B ++ wC E A (B 0) S ++ wC E T (B 0) U ++ wG E B G ++ [(o, aJ E 1 f)] ++ wN E M (2, Hb, a, k)) (va_runV (As := [.int (nI n1)]) (rest := []) ⟨hx, hb, hml, hown, hts⟩ (c_X3_comeHome_2 l E M th Hb a k n1 hy1 hy2 hy3 hy4 hy5 hy6 _) (cwV 1 hts gL_law_X3_comeHome rfl rfl rfl ⟨rfl, hd_X3_comeHome⟩ ⟨Nat.le_of_ble_eq_true rfl, Nat.le_of_ble_eq_true rfl⟩) (pwV (ci := 3) (q0 := 22) (C := RX3) hw hK rfl rfl rfl (rpS (AV := [.ref (M 0), .int (nI n1)]) hw hK hG rp_88)) rfl rfl hl.1 rfl (lv_room (Nat.le_of_ble_eq_true rfl)) dL_law_544 ⟨(show cells + 2 + 0 ≤ 1033879 by omega), (show slots + 12 + 0 ≤ 5994467 by omega)⟩) hw hA rp_87 (fun H locs hw => ?_)
  refine lv_istore (lv' := [(6, .int 0), (5, .int 2), (0, .ref b), (1, .ref x), (2, .ref (M 0)), (3, .ref o), (4, .int (nI i))]) hx hb dL_law_547 hl (by decide) rfl (fun ls hl => ?_)
  refine lv_aload_n hx hb dL_law_549 rfl (lv_at hl 4 rfl) ?_
  refine kr_i (ws' := wX x A T B ++ wC E A (B 0) S ++ wC E T (B 0) U ++ wG E B G ++ [(o, aJ E 1 f)] ++ wN E M (2, Hb, a, k)) (va_runV (As := []) (rest := []) ⟨hx, hb, hml, hown, hts⟩ (c_X3_thrown l E M 2 Hb a k  _) (cwV 0 hts gL_law_X3_thrown rfl rfl rfl ⟨rfl, hd_X3_thrown⟩ ⟨Nat.le_of_ble_eq_true rfl, Nat.le_of_ble_eq_true rfl⟩) (pwV (ci := 3) (q0 := 22) (C := RX3) hw hK rfl rfl rfl (rpS (AV := [.ref (M 0)]) hw hK hG rp_88)) rfl rfl hl.1 rfl (lv_room (Nat.le_of_ble_eq_true rfl)) dL_law_550 ⟨(show cells + 2 + 0 ≤ 1033879 by omega), (show slots + 12 + 0 ≤ 5994467 by omega)⟩) hw hA rp_88 (fun H locs hw => ?_)
  refine lv_iload hx hb dL_law_553 (lv_at hl 1 rfl) ?_
  refine lv_icmp_eq (tgt := 560) hx hb dL_law_555 (by decide) (fun _ => ?_) (fun q8 => absurd (by decide) q8)
  refine lv_iload hx hb dL_law_560 (lv_at hl 1 rfl) ?_
  refine lv_if_ne (tgt := 577) hx hb dL_law_562 (by decide) (fun _ => ?_) (fun q8 => absurd q8 (by decide))
  refine lv_goto (tgt := 2161) hx hb dL_law_577 (by decide) ?_
  refine W.widen (k := cells + 30) (n := slots + 200) (show cells + 2 ≤ cells + 30 by omega) (show slots + 12 ≤ slots + 200 by omega) ?_
  exact kk U f 2 k _ _ _ hw (lv_sub hl [2, 3, 4, 5, 6] rfl)

set_option maxHeartbeats 4000000 in
set_option maxRecDepth 100000 in
theorem la_comeHome {p9 : Program} {l : Launch} {e : Env} {s9 : State} {m : MethodId} {below : List Frame} {meth : Method} {c : Code} {b L : Nat} {xs : Nat → Int32} (C0 : lw_At p9 s9 m meth c b L xs) (hflags : l.stackTraces = false) (hL : L ≤ 2048) (E : Ev) (hK : va_K E.1 vwCl (tysE E) s9) (hG : Gx s9) (hZ : Zx (aL s9) s9 s9.heap) {Q : State → Prop} (x o : Nat) (A T B M : Nat → Nat) (S U : CS) (G : HS) (th : Int32) (Hb : MH) (a k : Fn) (f : Nat → Int64) (i cells slots : Nat) (hi : i + 4 ≤ L) (n1 : Nat) (e1 : xs (i + 1) = nI n1) (hy0 : t_home G S (nI n1) = 0) (hy1 : n_ns Hb ≤ 5) (hy2 : n_np Hb ≤ 16) (hy3 : n_nw Hb ≤ 4) (hy4 : ∀ p, p < n_np Hb → n_so Hb p < 5) (hy5 : n1 < n_ns Hb) (hy6 : ¬ a (3 + 3 * n1 + 0) = 0) (hy7 : (f_at 5 (c_ou (f_comes G S (nI n1))) (nI n1) : Int32).toInt64 = (r_home Hb a n1 (3 + 3 * n1 + 1) : Int32).toInt64) (hc9 : cells + 30 ≤ 1033879) (hs9 : slots + 200 ≤ 5994467) (kk : ∀ (U1 : CS) (f1 : Nat → Int64) (t1 : Int32) (k1 : Fn) (H : Heap) (locs : List Loc) (ls : Array Slot), Wd E (aL s9) s9.heap (wX x A T B ++ wC E A (B 0) (f_comes G S (nI n1)) ++ wC E T (B 0) U1 ++ wG E B G ++ [(o, aJ E 1 f1)] ++ wN E M (t1, Hb, r_home Hb a n1, k1)) H locs → lv_has ls 9 [(0, .ref b), (1, .ref x), (2, .ref (M 0)), (3, .ref o), (4, .int (nI i))] → W p9 l e room_1 s9 m #[Value.ref b] below meth c H locs (cells + 30) (slots + 200) Q (F0 m 2161 ls [])) {H : Heap} {locs : List Loc} {ls : Array Slot} (hw : Wd E (aL s9) s9.heap (wX x A T B ++ wC E A (B 0) S ++ wC E T (B 0) U ++ wG E B G ++ [(o, aJ E 1 f)] ++ wN E M (th, Hb, a, k)) H locs) (hl : lv_has ls 9 [(0, .ref b), (1, .ref x), (2, .ref (M 0)), (3, .ref o), (4, .int (nI i))]) : W p9 l e room_1 s9 m #[Value.ref b] below meth c H locs cells slots Q (F0 m 524 ls []) := by
  obtain ⟨hx, hb, hr, hml, hown, hts0, hX, hbl, hlocks, hgv⟩ := C0
  have hts : ∀ w ∈ wsL_law, w.before #[Value.ref b] s9 = true := fun w h => hts0 w (wsL_law_in w h)
  have hown : s9.vm.findClass RL = some m.cls := hown
  have hA : ∀ q, s9.heap.size ≤ q → aL s9 q := fun _ h => h
  refine lv_aload_n hx hb dL_law_524 rfl (lv_at hl 1 rfl) ?_
  refine lv_aload_n hx hb dL_law_525 rfl (lv_at hl 0 rfl) ?_
  refine lv_iload hx hb dL_law_526 (lv_at hl 4 rfl) ?_
  refine lv_iconst (v := 1) hx hb dL_law_528 (by decide) ?_
  refine k_iaddN (a := i) (b := 1) hx hb dL_law_529 ?_
  refine k_sldv (i := i + 1) (v := nI n1) hx hb hX hbl hw (by omega) (by omega) e1 dL_law_530 ?_
  refine lv_aload_n hx hb dL_law_531 rfl (lv_at hl 3 rfl) ?_
  refine krx_i (ws' := wX x A T B ++ wC E A (B 0) (f_comes G S (nI n1)) ++ wC E T (B 0) U ++ wG E B G ++ [(o, aJ E 1 (vp_updL f 0 ((f_at 5 (c_ou (f_comes G S (nI n1))) (nI n1) : Int32).toInt64)))] ++ wN E M (th, Hb, a, k)) (vx_runSX (As := [.ref x, .int (nI n1), .ref o]) (rest := []) ⟨hx, hb, hml, hown, hts⟩ (c_L_comeHome l hflags E x A T B S U G (nI n1) o f hy0 _) (vx_cwSW 3 hts gL_law_L_comeHome rfl rfl rfl hd_L_comeHome ⟨Nat.le_of_ble_eq_true rfl, Nat.le_of_ble_eq_true rfl⟩) (rpX (AV := [.ref x, .int (nI n1), .ref o]) hw hK hG hZ hA rp_86) rfl rfl hl.1 rfl (lv_room (Nat.le_of_ble_eq_true rfl)) dL_law_532 ⟨(show cells + 2 ≤ 1033879 by omega), (show slots + 12 ≤ 5994467 by omega)⟩) hw hA rp_91 rp_86 (fun H locs ce9 q9 t_1 hw hy1 hy2 hy3 => absurd rfl t_1) (fun H locs t_1 hw => ?_)
  refine lv_istore (lv' := [(5, .int 0), (0, .ref b), (1, .ref x), (2, .ref (M 0)), (3, .ref o), (4, .int (nI i))]) hx hb dL_law_535 hl (by decide) rfl (fun ls hl => ?_)
  refine lv_aload_n hx hb dL_law_537 rfl (lv_at hl 3 rfl) ?_
  refine lv_aload_n hx hb dL_law_538 rfl (lv_at hl 1 rfl) ?_
  refine lv_iload hx hb dL_law_539 (lv_at hl 5 rfl) ?_
  refine lv_iconst (v := 1) hx hb dL_law_541 (by decide) ?_
  refine k_iaddN (a := i) (b := 1) hx hb dL_law_542 ?_
  refine k_sldv (i := i + 1) (v := nI n1) hx hb hX hbl hw (by omega) (by omega) e1 dL_law_543 ?_
  refine kr_i (ws' := wX x A T B ++ wC E A (B 0) (f_comes G S (nI n1)) ++ wC E T (B 0) U ++ wG E B G ++ [(o, aJ E 1 (vp_updL f 0 ((f_at 5 (c_ou (f_comes G S (nI n1))) (nI n1) : Int32).toInt64)))] ++ wN E M (0, Hb, r_home Hb a n1, k)) (va_runV (As := [.int (nI n1)]) (rest := []) ⟨hx, hb, hml, hown, hts⟩ (c_X3_comeHome l E M th Hb a k n1 hy1 hy2 hy3 hy4 hy5 hy6 _) (cwV 1 hts gL_law_X3_comeHome rfl rfl rfl ⟨rfl, hd_X3_comeHome⟩ ⟨Nat.le_of_ble_eq_true rfl, Nat.le_of_ble_eq_true rfl⟩) (pwV (ci := 3) (q0 := 22) (C := RX3) hw hK rfl rfl rfl (rpS (AV := [.ref (M 0), .int (nI n1)]) hw hK hG rp_88)) rfl rfl hl.1 rfl (lv_room (Nat.le_of_ble_eq_true rfl)) dL_law_544 ⟨(show cells + 2 + 0 ≤ 1033879 by omega), (show slots + 12 + 0 ≤ 5994467 by omega)⟩) hw hA rp_87 (fun H locs hw => ?_)
  refine lv_istore (lv' := [(6, .int (r_home Hb a n1 (3 + 3 * n1 + 1))), (5, .int 0), (0, .ref b), (1, .ref x), (2, .ref (M 0)), (3, .ref o), (4, .int (nI i))]) hx hb dL_law_547 hl (by decide) rfl (fun ls hl => ?_)
  refine lv_aload_n hx hb dL_law_549 rfl (lv_at hl 4 rfl) ?_
  refine kr_i (ws' := wX x A T B ++ wC E A (B 0) (f_comes G S (nI n1)) ++ wC E T (B 0) U ++ wG E B G ++ [(o, aJ E 1 (vp_updL f 0 ((f_at 5 (c_ou (f_comes G S (nI n1))) (nI n1) : Int32).toInt64)))] ++ wN E M (0, Hb, r_home Hb a n1, k)) (va_runV (As := []) (rest := []) ⟨hx, hb, hml, hown, hts⟩ (c_X3_thrown l E M 0 Hb (r_home Hb a n1) k  _) (cwV 0 hts gL_law_X3_thrown rfl rfl rfl ⟨rfl, hd_X3_thrown⟩ ⟨Nat.le_of_ble_eq_true rfl, Nat.le_of_ble_eq_true rfl⟩) (pwV (ci := 3) (q0 := 22) (C := RX3) hw hK rfl rfl rfl (rpS (AV := [.ref (M 0)]) hw hK hG rp_88)) rfl rfl hl.1 rfl (lv_room (Nat.le_of_ble_eq_true rfl)) dL_law_550 ⟨(show cells + 2 + 0 ≤ 1033879 by omega), (show slots + 12 + 0 ≤ 5994467 by omega)⟩) hw hA rp_88 (fun H locs hw => ?_)
  refine lv_iload hx hb dL_law_553 (lv_at hl 1 rfl) ?_
  refine lv_icmp_eq (tgt := 560) hx hb dL_law_555 (by decide) (fun _ => ?_) (fun q8 => absurd (by decide) q8)
  refine lv_iload hx hb dL_law_560 (lv_at hl 1 rfl) ?_
  refine lv_if_ne (tgt := 577) hx hb dL_law_562 (by decide) (fun q8 => absurd (by decide) q8) (fun _ => ?_)
  refine lv_aload_n hx hb dL_law_565 rfl (lv_at hl 5 rfl) ?_
  refine lv_iconst (v := 0) hx hb dL_law_566 (by decide) ?_
  refine k_lld (v := (vp_updL f 0 ((f_at 5 (c_ou (f_comes G S (nI n1))) (nI n1) : Int32).toInt64)) 0) hx hb hK hw 21 rfl (vp_in_nI (n := 0) (N := 1) (by decide) (by decide)) rfl dL_law_567 ?_
  refine lv_iload hx hb dL_law_568 (lv_at hl 0 rfl) ?_
  refine lv_i2l (v := (r_home Hb a n1 (3 + 3 * n1 + 1) : Int32).toInt64) hx hb dL_law_570 rfl ?_
  refine k_lcmpE hx hb dL_law_571 (pk_uLs.trans hy7) ?_
  refine lv_if_eq (tgt := 577) hx hb dL_law_572 (by decide) (fun _ => ?_) (fun q8 => absurd (by decide) q8)
  refine lv_goto (tgt := 2161) hx hb dL_law_577 (by decide) ?_
  refine W.widen (k := cells + 30) (n := slots + 200) (show cells + 2 ≤ cells + 30 by omega) (show slots + 12 ≤ slots + 200 by omega) ?_
  exact kk U (vp_updL f 0 ((f_at 5 (c_ou (f_comes G S (nI n1))) (nI n1) : Int32).toInt64)) 0 k _ _ _ hw (lv_sub hl [2, 3, 4, 5, 6] rfl)

set_option maxHeartbeats 4000000 in
set_option maxRecDepth 100000 in
theorem la_sight_1 {p9 : Program} {l : Launch} {e : Env} {s9 : State} {m : MethodId} {below : List Frame} {meth : Method} {c : Code} {b L : Nat} {xs : Nat → Int32} (C0 : lw_At p9 s9 m meth c b L xs) (hflags : l.stackTraces = false) (hL : L ≤ 2048) (E : Ev) (hK : va_K E.1 vwCl (tysE E) s9) (hG : Gx s9) (hZ : Zx (aL s9) s9 s9.heap) {Q : State → Prop} (x o : Nat) (A T B M : Nat → Nat) (S U : CS) (G : HS) (th : Int32) (Hb : MH) (a k : Fn) (f : Nat → Int64) (i cells slots : Nat) (hi : i + 4 ≤ L) (z1 : Int32) (e1 : xs (i + 1) = z1) (z2 : Int32) (e2 : xs (i + 2) = z2) (hy0 : t_new G S z1 z2 = 1) (hy1 : n_ns Hb ≤ 5) (hy2 : n_np Hb ≤ 16) (hy3 : n_nw Hb ≤ 4) (hy4 : ∀ p, p < n_np Hb → n_so Hb p < 5) (hy5 : d_in z1 0 (nI (n_nw Hb) - 1) = false) (hc9 : cells + 30 ≤ 1033879) (hs9 : slots + 200 ≤ 5994467) (kk : ∀ (U1 : CS) (f1 : Nat → Int64) (t1 : Int32) (k1 : Fn) (H : Heap) (locs : List Loc) (ls : Array Slot), Wd E (aL s9) s9.heap (wX x A T B ++ wC E A (B 0) S ++ wC E T (B 0) U1 ++ wG E B G ++ [(o, aJ E 1 f1)] ++ wN E M (t1, Hb, a, k1)) H locs → lv_has ls 9 [(0, .ref b), (1, .ref x), (2, .ref (M 0)), (3, .ref o), (4, .int (nI i))] → W p9 l e room_1 s9 m #[Value.ref b] below meth c H locs (cells + 30) (slots + 200) Q (F0 m 2161 ls [])) {H : Heap} {locs : List Loc} {ls : Array Slot} (hw : Wd E (aL s9) s9.heap (wX x A T B ++ wC E A (B 0) S ++ wC E T (B 0) U ++ wG E B G ++ [(o, aJ E 1 f)] ++ wN E M (th, Hb, a, k)) H locs) (hl : lv_has ls 9 [(0, .ref b), (1, .ref x), (2, .ref (M 0)), (3, .ref o), (4, .int (nI i))]) : W p9 l e room_1 s9 m #[Value.ref b] below meth c H locs cells slots Q (F0 m 580 ls []) := by
  obtain ⟨hx, hb, hr, hml, hown, hts0, hX, hbl, hlocks, hgv⟩ := C0
  have hts : ∀ w ∈ wsL_law, w.before #[Value.ref b] s9 = true := fun w h => hts0 w (wsL_law_in w h)
  have hown : s9.vm.findClass RL = some m.cls := hown
  have hA : ∀ q, s9.heap.size ≤ q → aL s9 q := fun _ h => h
  refine lv_aload_n hx hb dL_law_580 rfl (lv_at hl 1 rfl) ?_
  refine lv_aload_n hx hb dL_law_581 rfl (lv_at hl 0 rfl) ?_
  refine lv_iload hx hb dL_law_582 (lv_at hl 4 rfl) ?_
  refine lv_iconst (v := 1) hx hb dL_law_584 (by decide) ?_
  refine k_iaddN (a := i) (b := 1) hx hb dL_law_585 ?_
  refine k_sldv (i := i + 1) (v := z1) hx hb hX hbl hw (by omega) (by omega) e1 dL_law_586 ?_
  refine lv_aload_n hx hb dL_law_587 rfl (lv_at hl 0 rfl) ?_
  refine lv_iload hx hb dL_law_588 (lv_at hl 4 rfl) ?_
  refine lv_iconst (v := 2) hx hb dL_law_590 (by decide) ?_
  refine k_iaddN (a := i) (b := 2) hx hb dL_law_591 ?_
  refine k_sldv (i := i + 2) (v := z2) hx hb hX hbl hw (by omega) (by omega) e2 dL_law_592 ?_
  refine lv_aload_n hx hb dL_law_593 rfl (lv_at hl 3 rfl) ?_
  refine krx_i (ws' := wX x A T B ++ wC E A (B 0) S ++ wC E T (B 0) U ++ wG E B G ++ [(o, aJ E 1 f)] ++ wN E M (th, Hb, a, k)) (vx_runSX (As := [.ref x, .int z1, .int z2, .ref o]) (rest := []) ⟨hx, hb, hml, hown, hts⟩ (c_L_sight_1 l hflags E x A T B S U G z1 z2 o f hy0 _) (vx_cwSW 4 hts gL_law_L_sight rfl rfl rfl hd_L_sight ⟨Nat.le_of_ble_eq_true rfl, Nat.le_of_ble_eq_true rfl⟩) (rpX (AV := [.ref x, .int z1, .int z2, .ref o]) hw hK hG hZ hA rp_86) rfl rfl hl.1 rfl (lv_room (Nat.le_of_ble_eq_true rfl)) dL_law_594 ⟨(show cells + 3 ≤ 1033879 by omega), (show slots + 18 ≤ 5994467 by omega)⟩) hw hA rp_86 rp_86 (fun H locs ce9 q9 t_1 hw hy1 hy2 hy3 => absurd rfl t_1) (fun H locs t_1 hw => ?_)
  refine lv_istore (lv' := [(5, .int 1), (0, .ref b), (1, .ref x), (2, .ref (M 0)), (3, .ref o), (4, .int (nI i))]) hx hb dL_law_597 hl (by decide) rfl (fun ls hl => ?_)
  refine lv_aload_n hx hb dL_law_599 rfl (lv_at hl 3 rfl) ?_
  refine lv_aload_n hx hb dL_law_600 rfl (lv_at hl 1 rfl) ?_
  refine lv_iload hx hb dL_law_601 (lv_at hl 5 rfl) ?_
  refine lv_iconst (v := 1) hx hb dL_law_603 (by decide) ?_
  refine k_iaddN (a := i) (b := 1) hx hb dL_law_604 ?_
  refine k_sldv (i := i + 1) (v := z1) hx hb hX hbl hw (by omega) (by omega) e1 dL_law_605 ?_
  refine lv_aload_n hx hb dL_law_606 rfl (lv_at hl 1 rfl) ?_
  refine lv_iload hx hb dL_law_607 (lv_at hl 5 rfl) ?_
  refine lv_iconst (v := 2) hx hb dL_law_609 (by decide) ?_
  refine k_iaddN (a := i) (b := 2) hx hb dL_law_610 ?_
  refine k_sldv (i := i + 2) (v := z2) hx hb hX hbl hw (by omega) (by omega) e2 dL_law_611 ?_
  refine kr_i (ws' := wX x A T B ++ wC E A (B 0) S ++ wC E T (B 0) U ++ wG E B G ++ [(o, aJ E 1 f)] ++ wN E M (1, Hb, a, k)) (va_runV (As := [.int z1, .int z2]) (rest := []) ⟨hx, hb, hml, hown, hts⟩ (c_X3_sight_1 l E M th Hb a k z1 z2 hy1 hy2 hy3 hy4 hy5 _) (cwV 2 hts gL_law_X3_sight rfl rfl rfl ⟨rfl, hd_X3_sight⟩ ⟨Nat.le_of_ble_eq_true rfl, Nat.le_of_ble_eq_true rfl⟩) (pwV (ci := 3) (q0 := 22) (C := RX3) hw hK rfl rfl rfl (rpS (AV := [.ref (M 0), .int z1, .int z2]) hw hK hG rp_88)) rfl rfl hl.1 rfl (lv_room (Nat.le_of_ble_eq_true rfl)) dL_law_612 ⟨(show cells + 3 + 0 ≤ 1033879 by omega), (show slots + 18 + 0 ≤ 5994467 by omega)⟩) hw hA rp_87 (fun H locs hw => ?_)
  refine lv_istore (lv' := [(6, .int (bI false)), (5, .int 1), (0, .ref b), (1, .ref x), (2, .ref (M 0)), (3, .ref o), (4, .int (nI i))]) hx hb dL_law_615 hl (by decide) rfl (fun ls hl => ?_)
  refine lv_aload_n hx hb dL_law_617 rfl (lv_at hl 4 rfl) ?_
  refine kr_i (ws' := wX x A T B ++ wC E A (B 0) S ++ wC E T (B 0) U ++ wG E B G ++ [(o, aJ E 1 f)] ++ wN E M (1, Hb, a, k)) (va_runV (As := []) (rest := []) ⟨hx, hb, hml, hown, hts⟩ (c_X3_thrown l E M 1 Hb a k  _) (cwV 0 hts gL_law_X3_thrown rfl rfl rfl ⟨rfl, hd_X3_thrown⟩ ⟨Nat.le_of_ble_eq_true rfl, Nat.le_of_ble_eq_true rfl⟩) (pwV (ci := 3) (q0 := 22) (C := RX3) hw hK rfl rfl rfl (rpS (AV := [.ref (M 0)]) hw hK hG rp_88)) rfl rfl hl.1 rfl (lv_room (Nat.le_of_ble_eq_true rfl)) dL_law_618 ⟨(show cells + 3 + 0 ≤ 1033879 by omega), (show slots + 18 + 0 ≤ 5994467 by omega)⟩) hw hA rp_88 (fun H locs hw => ?_)
  refine lv_iload hx hb dL_law_621 (lv_at hl 1 rfl) ?_
  refine lv_icmp_eq (tgt := 628) hx hb dL_law_623 (by decide) (fun _ => ?_) (fun q8 => absurd (by decide) q8)
  refine lv_iload hx hb dL_law_628 (lv_at hl 1 rfl) ?_
  refine lv_if_ne (tgt := 652) hx hb dL_law_630 (by decide) (fun _ => ?_) (fun q8 => absurd q8 (by decide))
  refine lv_goto (tgt := 2161) hx hb dL_law_652 (by decide) ?_
  refine W.widen (k := cells + 30) (n := slots + 200) (show cells + 3 ≤ cells + 30 by omega) (show slots + 18 ≤ slots + 200 by omega) ?_
  exact kk U f 1 k _ _ _ hw (lv_sub hl [2, 3, 4, 5, 6] rfl)

set_option maxHeartbeats 4000000 in
set_option maxRecDepth 100000 in
theorem la_sight_1b {p9 : Program} {l : Launch} {e : Env} {s9 : State} {m : MethodId} {below : List Frame} {meth : Method} {c : Code} {b L : Nat} {xs : Nat → Int32} (C0 : lw_At p9 s9 m meth c b L xs) (hflags : l.stackTraces = false) (hL : L ≤ 2048) (E : Ev) (hK : va_K E.1 vwCl (tysE E) s9) (hG : Gx s9) (hZ : Zx (aL s9) s9 s9.heap) {Q : State → Prop} (x o : Nat) (A T B M : Nat → Nat) (S U : CS) (G : HS) (th : Int32) (Hb : MH) (a k : Fn) (f : Nat → Int64) (i cells slots : Nat) (hi : i + 4 ≤ L) (n1 : Nat) (e1 : xs (i + 1) = nI n1) (z2 : Int32) (e2 : xs (i + 2) = z2) (hy0 : t_new G S (nI n1) z2 = 1) (hy1 : n_ns Hb ≤ 5) (hy2 : n_np Hb ≤ 16) (hy3 : n_nw Hb ≤ 4) (hy4 : ∀ p, p < n_np Hb → n_so Hb p < 5) (hy5 : n1 < n_nw Hb) (hy6 : d_in z2 0 (nI (n_ns Hb) - 1) = false) (hc9 : cells + 30 ≤ 1033879) (hs9 : slots + 200 ≤ 5994467) (kk : ∀ (U1 : CS) (f1 : Nat → Int64) (t1 : Int32) (k1 : Fn) (H : Heap) (locs : List Loc) (ls : Array Slot), Wd E (aL s9) s9.heap (wX x A T B ++ wC E A (B 0) S ++ wC E T (B 0) U1 ++ wG E B G ++ [(o, aJ E 1 f1)] ++ wN E M (t1, Hb, a, k1)) H locs → lv_has ls 9 [(0, .ref b), (1, .ref x), (2, .ref (M 0)), (3, .ref o), (4, .int (nI i))] → W p9 l e room_1 s9 m #[Value.ref b] below meth c H locs (cells + 30) (slots + 200) Q (F0 m 2161 ls [])) {H : Heap} {locs : List Loc} {ls : Array Slot} (hw : Wd E (aL s9) s9.heap (wX x A T B ++ wC E A (B 0) S ++ wC E T (B 0) U ++ wG E B G ++ [(o, aJ E 1 f)] ++ wN E M (th, Hb, a, k)) H locs) (hl : lv_has ls 9 [(0, .ref b), (1, .ref x), (2, .ref (M 0)), (3, .ref o), (4, .int (nI i))]) : W p9 l e room_1 s9 m #[Value.ref b] below meth c H locs cells slots Q (F0 m 580 ls []) := by
  obtain ⟨hx, hb, hr, hml, hown, hts0, hX, hbl, hlocks, hgv⟩ := C0
  have hts : ∀ w ∈ wsL_law, w.before #[Value.ref b] s9 = true := fun w h => hts0 w (wsL_law_in w h)
  have hown : s9.vm.findClass RL = some m.cls := hown
  have hA : ∀ q, s9.heap.size ≤ q → aL s9 q := fun _ h => h
  refine lv_aload_n hx hb dL_law_580 rfl (lv_at hl 1 rfl) ?_
  refine lv_aload_n hx hb dL_law_581 rfl (lv_at hl 0 rfl) ?_
  refine lv_iload hx hb dL_law_582 (lv_at hl 4 rfl) ?_
  refine lv_iconst (v := 1) hx hb dL_law_584 (by decide) ?_
  refine k_iaddN (a := i) (b := 1) hx hb dL_law_585 ?_
  refine k_sldv (i := i + 1) (v := nI n1) hx hb hX hbl hw (by omega) (by omega) e1 dL_law_586 ?_
  refine lv_aload_n hx hb dL_law_587 rfl (lv_at hl 0 rfl) ?_
  refine lv_iload hx hb dL_law_588 (lv_at hl 4 rfl) ?_
  refine lv_iconst (v := 2) hx hb dL_law_590 (by decide) ?_
  refine k_iaddN (a := i) (b := 2) hx hb dL_law_591 ?_
  refine k_sldv (i := i + 2) (v := z2) hx hb hX hbl hw (by omega) (by omega) e2 dL_law_592 ?_
  refine lv_aload_n hx hb dL_law_593 rfl (lv_at hl 3 rfl) ?_
  refine krx_i (ws' := wX x A T B ++ wC E A (B 0) S ++ wC E T (B 0) U ++ wG E B G ++ [(o, aJ E 1 f)] ++ wN E M (th, Hb, a, k)) (vx_runSX (As := [.ref x, .int (nI n1), .int z2, .ref o]) (rest := []) ⟨hx, hb, hml, hown, hts⟩ (c_L_sight_1 l hflags E x A T B S U G (nI n1) z2 o f hy0 _) (vx_cwSW 4 hts gL_law_L_sight rfl rfl rfl hd_L_sight ⟨Nat.le_of_ble_eq_true rfl, Nat.le_of_ble_eq_true rfl⟩) (rpX (AV := [.ref x, .int (nI n1), .int z2, .ref o]) hw hK hG hZ hA rp_86) rfl rfl hl.1 rfl (lv_room (Nat.le_of_ble_eq_true rfl)) dL_law_594 ⟨(show cells + 3 ≤ 1033879 by omega), (show slots + 18 ≤ 5994467 by omega)⟩) hw hA rp_86 rp_86 (fun H locs ce9 q9 t_1 hw hy1 hy2 hy3 => absurd rfl t_1) (fun H locs t_1 hw => ?_)
  refine lv_istore (lv' := [(5, .int 1), (0, .ref b), (1, .ref x), (2, .ref (M 0)), (3, .ref o), (4, .int (nI i))]) hx hb dL_law_597 hl (by decide) rfl (fun ls hl => ?_)
  refine lv_aload_n hx hb dL_law_599 rfl (lv_at hl 3 rfl) ?_
  refine lv_aload_n hx hb dL_law_600 rfl (lv_at hl 1 rfl) ?_
  refine lv_iload hx hb dL_law_601 (lv_at hl 5 rfl) ?_
  refine lv_iconst (v := 1) hx hb dL_law_603 (by decide) ?_
  refine k_iaddN (a := i) (b := 1) hx hb dL_law_604 ?_
  refine k_sldv (i := i + 1) (v := nI n1) hx hb hX hbl hw (by omega) (by omega) e1 dL_law_605 ?_
  refine lv_aload_n hx hb dL_law_606 rfl (lv_at hl 1 rfl) ?_
  refine lv_iload hx hb dL_law_607 (lv_at hl 5 rfl) ?_
  refine lv_iconst (v := 2) hx hb dL_law_609 (by decide) ?_
  refine k_iaddN (a := i) (b := 2) hx hb dL_law_610 ?_
  refine k_sldv (i := i + 2) (v := z2) hx hb hX hbl hw (by omega) (by omega) e2 dL_law_611 ?_
  refine kr_i (ws' := wX x A T B ++ wC E A (B 0) S ++ wC E T (B 0) U ++ wG E B G ++ [(o, aJ E 1 f)] ++ wN E M (1, Hb, a, k)) (va_runV (As := [.int (nI n1), .int z2]) (rest := []) ⟨hx, hb, hml, hown, hts⟩ (c_X3_sight_1b l E M th Hb a k n1 z2 hy1 hy2 hy3 hy4 hy5 hy6 _) (cwV 2 hts gL_law_X3_sight rfl rfl rfl ⟨rfl, hd_X3_sight⟩ ⟨Nat.le_of_ble_eq_true rfl, Nat.le_of_ble_eq_true rfl⟩) (pwV (ci := 3) (q0 := 22) (C := RX3) hw hK rfl rfl rfl (rpS (AV := [.ref (M 0), .int (nI n1), .int z2]) hw hK hG rp_88)) rfl rfl hl.1 rfl (lv_room (Nat.le_of_ble_eq_true rfl)) dL_law_612 ⟨(show cells + 3 + 0 ≤ 1033879 by omega), (show slots + 18 + 0 ≤ 5994467 by omega)⟩) hw hA rp_87 (fun H locs hw => ?_)
  refine lv_istore (lv' := [(6, .int (bI false)), (5, .int 1), (0, .ref b), (1, .ref x), (2, .ref (M 0)), (3, .ref o), (4, .int (nI i))]) hx hb dL_law_615 hl (by decide) rfl (fun ls hl => ?_)
  refine lv_aload_n hx hb dL_law_617 rfl (lv_at hl 4 rfl) ?_
  refine kr_i (ws' := wX x A T B ++ wC E A (B 0) S ++ wC E T (B 0) U ++ wG E B G ++ [(o, aJ E 1 f)] ++ wN E M (1, Hb, a, k)) (va_runV (As := []) (rest := []) ⟨hx, hb, hml, hown, hts⟩ (c_X3_thrown l E M 1 Hb a k  _) (cwV 0 hts gL_law_X3_thrown rfl rfl rfl ⟨rfl, hd_X3_thrown⟩ ⟨Nat.le_of_ble_eq_true rfl, Nat.le_of_ble_eq_true rfl⟩) (pwV (ci := 3) (q0 := 22) (C := RX3) hw hK rfl rfl rfl (rpS (AV := [.ref (M 0)]) hw hK hG rp_88)) rfl rfl hl.1 rfl (lv_room (Nat.le_of_ble_eq_true rfl)) dL_law_618 ⟨(show cells + 3 + 0 ≤ 1033879 by omega), (show slots + 18 + 0 ≤ 5994467 by omega)⟩) hw hA rp_88 (fun H locs hw => ?_)
  refine lv_iload hx hb dL_law_621 (lv_at hl 1 rfl) ?_
  refine lv_icmp_eq (tgt := 628) hx hb dL_law_623 (by decide) (fun _ => ?_) (fun q8 => absurd (by decide) q8)
  refine lv_iload hx hb dL_law_628 (lv_at hl 1 rfl) ?_
  refine lv_if_ne (tgt := 652) hx hb dL_law_630 (by decide) (fun _ => ?_) (fun q8 => absurd q8 (by decide))
  refine lv_goto (tgt := 2161) hx hb dL_law_652 (by decide) ?_
  refine W.widen (k := cells + 30) (n := slots + 200) (show cells + 3 ≤ cells + 30 by omega) (show slots + 18 ≤ slots + 200 by omega) ?_
  exact kk U f 1 k _ _ _ hw (lv_sub hl [2, 3, 4, 5, 6] rfl)
