set_option maxHeartbeats 4000000 in
set_option maxRecDepth 100000 in
theorem la_sight_2 {p9 : Program} {l : Launch} {e : Env} {s9 : State} {m : MethodId} {below : List Frame} {meth : Method} {c : Code} {b L : Nat} {xs : Nat → Int32} (C0 : lw_At p9 s9 m meth c b L xs) (hflags : l.stackTraces = false) (hL : L ≤ 2048) (E : Ev) (hK : va_K E.1 vwCl (tysE E) s9) (hG : Gx s9) (hZ : Zx (aL s9) s9 s9.heap) {Q : State → Prop} (x o : Nat) (A T B M : Nat → Nat) (S U : CS) (G : HS) (th : Int32) (Hb : MH) (a k : Fn) (f : Nat → Int64) (i cells slots : Nat) (hi : i + 4 ≤ L) (n1 : Nat) (e1 : xs (i + 1) = nI n1) (n2 : Nat) (e2 : xs (i + 2) = nI n2) (hy0 : t_new G S (nI n1) (nI n2) = 2) (hy1 : n_ns Hb ≤ 5) (hy2 : n_np Hb ≤ 16) (hy3 : n_nw Hb ≤ 4) (hy4 : ∀ p, p < n_np Hb → n_so Hb p < 5) (hy5 : n1 < n_nw Hb) (hy6 : n2 < n_ns Hb) (hy7 : d_out a n2 = false) (hc9 : cells + 30 ≤ 1033879) (hs9 : slots + 200 ≤ 5994467) (kk : ∀ (U1 : CS) (f1 : Nat → Int64) (t1 : Int32) (k1 : Fn) (H : Heap) (locs : List Loc) (ls : Array Slot), Wd E (aL s9) s9.heap (wX x A T B ++ wC E A (B 0) S ++ wC E T (B 0) U1 ++ wG E B G ++ [(o, aJ E 1 f1)] ++ wN E M (t1, Hb, a, k1)) H locs → lv_has ls 9 [(0, .ref b), (1, .ref x), (2, .ref (M 0)), (3, .ref o), (4, .int (nI i))] → W p9 l e room_1 s9 m #[Value.ref b] below meth c H locs (cells + 30) (slots + 200) Q (F0 m 2161 ls [])) {H : Heap} {locs : List Loc} {ls : Array Slot} (hw : Wd E (aL s9) s9.heap (wX x A T B ++ wC E A (B 0) S ++ wC E T (B 0) U ++ wG E B G ++ [(o, aJ E 1 f)] ++ wN E M (th, Hb, a, k)) H locs) (hl : lv_has ls 9 [(0, .ref b), (1, .ref x), (2, .ref (M 0)), (3, .ref o), (4, .int (nI i))]) : W p9 l e room_1 s9 m #[Value.ref b] below meth c H locs cells slots Q (F0 m 580 ls []) := by
  obtain ⟨hx, hb, hr, hml, hown, hts0, hX, hbl, hlocks, hgv⟩ := C0
  have hts : ∀ w ∈ wsL_law, w.before #[Value.ref b] s9 = true := fun w h => hts0 w (wsL_law_in w h)
  have hown : s9.vm.findClass RL = some m.cls := hown
  have hA : ∀ q, s9.heap.size ≤ q → aL s9 q := fun _ h => h
  refine lv_aload_n hx hb dL_law_580 rfl (lv_at hl 1 rfl) ?_
  refine lv_aload_n hx hb dL_law_581 rfl (lv_at hl 0 rfl) ?_
  refine lv_iload hx hb dL_law_582 (lv_at hl 4 rfl) ?_
  refine lv_iconst (v := 1) hx hb dL_law_584 (by decide) ?_
  refine k_iaddN (a := i) (b := 1) hx hb dL_law_585 ?_
  refine k_sldv (i := i + 1) (v := nI n1) hx hb hX hbl hw (by omega) (by omega) e1 dL_law_586 ?_
  refine lv_aload_n hx hb dL_law_587 rfl (lv_at hl 0 rfl) ?_
  refine lv_iload hx hb dL_law_588 (lv_at hl 4 rfl) ?_
  refine lv_iconst (v := 2) hx hb dL_law_590 (by decide) ?_
  refine k_iaddN (a := i) (b := 2) hx hb dL_law_591 ?_
  refine k_sldv (i := i + 2) (v := nI n2) hx hb hX hbl hw (by omega) (by omega) e2 dL_law_592 ?_
  refine lv_aload_n hx hb dL_law_593 rfl (lv_at hl 3 rfl) ?_
  refine krx_i (ws' := wX x A T B ++ wC E A (B 0) S ++ wC E T (B 0) U ++ wG E B G ++ [(o, aJ E 1 f)] ++ wN E M (th, Hb, a, k)) (vx_runSX (As := [.ref x, .int (nI n1), .int (nI n2), .ref o]) (rest := []) ⟨hx, hb, hml, hown, hts⟩ (c_L_sight_2 l hflags E x A T B S U G (nI n1) (nI n2) o f hy0 _) (vx_cwSW 4 hts gL_law_L_sight rfl rfl rfl hd_L_sight ⟨Nat.le_of_ble_eq_true rfl, Nat.le_of_ble_eq_true rfl⟩) (rpX (AV := [.ref x, .int (nI n1), .int (nI n2), .ref o]) hw hK hG hZ hA rp_86) rfl rfl hl.1 rfl (lv_room (Nat.le_of_ble_eq_true rfl)) dL_law_594 ⟨(show cells + 3 ≤ 1033879 by omega), (show slots + 18 ≤ 5994467 by omega)⟩) hw hA rp_86 rp_86 (fun H locs ce9 q9 t_1 hw hy1 hy2 hy3 => absurd rfl t_1) (fun H locs t_1 hw => ?_)
  refine lv_istore (lv' := [(5, .int 2), (0, .ref b), (1, .ref x), (2, .ref (M 0)), (3, .ref o), (4, .int (nI i))]) hx hb dL_law_597 hl (by decide) rfl (fun ls hl => ?_)
  refine lv_aload_n hx hb dL_law_599 rfl (lv_at hl 3 rfl) ?_
  refine lv_aload_n hx hb dL_law_600 rfl (lv_at hl 1 rfl) ?_
  refine lv_iload hx hb dL_law_601 (lv_at hl 5 rfl) ?_
  refine lv_iconst (v := 1) hx hb dL_law_603 (by decide) ?_
  refine k_iaddN (a := i) (b := 1) hx hb dL_law_604 ?_
  refine k_sldv (i := i + 1) (v := nI n1) hx hb hX hbl hw (by omega) (by omega) e1 dL_law_605 ?_
  refine lv_aload_n hx hb dL_law_606 rfl (lv_at hl 1 rfl) ?_
  refine lv_iload hx hb dL_law_607 (lv_at hl 5 rfl) ?_
  refine lv_iconst (v := 2) hx hb dL_law_609 (by decide) ?_
  refine k_iaddN (a := i) (b := 2) hx hb dL_law_610 ?_
  refine k_sldv (i := i + 2) (v := nI n2) hx hb hX hbl hw (by omega) (by omega) e2 dL_law_611 ?_
  refine kr_i (ws' := wX x A T B ++ wC E A (B 0) S ++ wC E T (B 0) U ++ wG E B G ++ [(o, aJ E 1 f)] ++ wN E M (2, Hb, a, k)) (va_runV (As := [.int (nI n1), .int (nI n2)]) (rest := []) ⟨hx, hb, hml, hown, hts⟩ (c_X3_sight_2 l E M th Hb a k n1 n2 hy1 hy2 hy3 hy4 hy5 hy6 hy7 _) (cwV 2 hts gL_law_X3_sight rfl rfl rfl ⟨rfl, hd_X3_sight⟩ ⟨Nat.le_of_ble_eq_true rfl, Nat.le_of_ble_eq_true rfl⟩) (pwV (ci := 3) (q0 := 22) (C := RX3) hw hK rfl rfl rfl (rpS (AV := [.ref (M 0), .int (nI n1), .int (nI n2)]) hw hK hG rp_88)) rfl rfl hl.1 rfl (lv_room (Nat.le_of_ble_eq_true rfl)) dL_law_612 ⟨(show cells + 3 + 0 ≤ 1033879 by omega), (show slots + 18 + 0 ≤ 5994467 by omega)⟩) hw hA rp_87 (fun H locs hw => ?_)
  refine lv_istore (lv' := [(6, .int (bI false)), (5, .int 2), (0, .ref b), (1, .ref x), (2, .ref (M 0)), (3, .ref o), (4, .int (nI i))]) hx hb dL_law_615 hl (by decide) rfl (fun ls hl => ?_)
  refine lv_aload_n hx hb dL_law_617 rfl (lv_at hl 4 rfl) ?_
  refine kr_i (ws' := wX x A T B ++ wC E A (B 0) S ++ wC E T (B 0) U ++ wG E B G ++ [(o, aJ E 1 f)] ++ wN E M (2, Hb, a, k)) (va_runV (As := []) (rest := []) ⟨hx, hb, hml, hown, hts⟩ (c_X3_thrown l E M 2 Hb a k  _) (cwV 0 hts gL_law_X3_thrown rfl rfl rfl ⟨rfl, hd_X3_thrown⟩ ⟨Nat.le_of_ble_eq_true rfl, Nat.le_of_ble_eq_true rfl⟩) (pwV (ci := 3) (q0 := 22) (C := RX3) hw hK rfl rfl rfl (rpS (AV := [.ref (M 0)]) hw hK hG rp_88)) rfl rfl hl.1 rfl (lv_room (Nat.le_of_ble_eq_true rfl)) dL_law_618 ⟨(show cells + 3 + 0 ≤ 1033879 by omega), (show slots + 18 + 0 ≤ 5994467 by omega)⟩) hw hA rp_88 (fun H locs hw => ?_)
  refine lv_iload hx hb dL_law_621 (lv_at hl 1 rfl) ?_
  refine lv_icmp_eq (tgt := 628) hx hb dL_law_623 (by decide) (fun _ => ?_) (fun q8 => absurd (by decide) q8)
  refine lv_iload hx hb dL_law_628 (lv_at hl 1 rfl) ?_
  refine lv_if_ne (tgt := 652) hx hb dL_law_630 (by decide) (fun _ => ?_) (fun q8 => absurd q8 (by decide))
  refine lv_goto (tgt := 2161) hx hb dL_law_652 (by decide) ?_
  refine W.widen (k := cells + 30) (n := slots + 200) (show cells + 3 ≤ cells + 30 by omega) (show slots + 18 ≤ slots + 200 by omega) ?_
  exact kk U f 2 k _ _ _ hw (lv_sub hl [2, 3, 4, 5, 6] rfl)

set_option maxHeartbeats 4000000 in
set_option maxRecDepth 100000 in
theorem la_sight_2b {p9 : Program} {l : Launch} {e : Env} {s9 : State} {m : MethodId} {below : List Frame} {meth : Method} {c : Code} {b L : Nat} {xs : Nat → Int32} (C0 : lw_At p9 s9 m meth c b L xs) (hflags : l.stackTraces = false) (hL : L ≤ 2048) (E : Ev) (hK : va_K E.1 vwCl (tysE E) s9) (hG : Gx s9) (hZ : Zx (aL s9) s9 s9.heap) {Q : State → Prop} (x o : Nat) (A T B M : Nat → Nat) (S U : CS) (G : HS) (th : Int32) (Hb : MH) (a k : Fn) (f : Nat → Int64) (i cells slots : Nat) (hi : i + 4 ≤ L) (n1 : Nat) (e1 : xs (i + 1) = nI n1) (n2 : Nat) (e2 : xs (i + 2) = nI n2) (hy0 : t_new G S (nI n1) (nI n2) = 2) (hy1 : n_ns Hb ≤ 5) (hy2 : n_np Hb ≤ 16) (hy3 : n_nw Hb ≤ 4) (hy4 : ∀ p, p < n_np Hb → n_so Hb p < 5) (hy5 : n1 < n_nw Hb) (hy6 : n2 < n_ns Hb) (hy7 : d_out a n2 = true) (hy8 : ¬ a (54 + 5 * n1 + n2) = -1) (hc9 : cells + 30 ≤ 1033879) (hs9 : slots + 200 ≤ 5994467) (kk : ∀ (U1 : CS) (f1 : Nat → Int64) (t1 : Int32) (k1 : Fn) (H : Heap) (locs : List Loc) (ls : Array Slot), Wd E (aL s9) s9.heap (wX x A T B ++ wC E A (B 0) S ++ wC E T (B 0) U1 ++ wG E B G ++ [(o, aJ E 1 f1)] ++ wN E M (t1, Hb, a, k1)) H locs → lv_has ls 9 [(0, .ref b), (1, .ref x), (2, .ref (M 0)), (3, .ref o), (4, .int (nI i))] → W p9 l e room_1 s9 m #[Value.ref b] below meth c H locs (cells + 30) (slots + 200) Q (F0 m 2161 ls [])) {H : Heap} {locs : List Loc} {ls : Array Slot} (hw : Wd E (aL s9) s9.heap (wX x A T B ++ wC E A (B 0) S ++ wC E T (B 0) U ++ wG E B G ++ [(o, aJ E 1 f)] ++ wN E M (th, Hb, a, k)) H locs) (hl : lv_has ls 9 [(0, .ref b), (1, .ref x), (2, .ref (M 0)), (3, .ref o), (4, .int (nI i))]) : W p9 l e room_1 s9 m #[Value.ref b] below meth c H locs cells slots Q (F0 m 580 ls []) := by
  obtain ⟨hx, hb, hr, hml, hown, hts0, hX, hbl, hlocks, hgv⟩ := C0
  have hts : ∀ w ∈ wsL_law, w.before #[Value.ref b] s9 = true := fun w h => hts0 w (wsL_law_in w h)
  have hown : s9.vm.findClass RL = some m.cls := hown
  have hA : ∀ q, s9.heap.size ≤ q → aL s9 q := fun _ h => h
  refine lv_aload_n hx hb dL_law_580 rfl (lv_at hl 1 rfl) ?_
  refine lv_aload_n hx hb dL_law_581 rfl (lv_at hl 0 rfl) ?_
  refine lv_iload hx hb dL_law_582 (lv_at hl 4 rfl) ?_
  refine lv_iconst (v := 1) hx hb dL_law_584 (by decide) ?_
  refine k_iaddN (a := i) (b := 1) hx hb dL_law_585 ?_
  refine k_sldv (i := i + 1) (v := nI n1) hx hb hX hbl hw (by omega) (by omega) e1 dL_law_586 ?_
  refine lv_aload_n hx hb dL_law_587 rfl (lv_at hl 0 rfl) ?_
  refine lv_iload hx hb dL_law_588 (lv_at hl 4 rfl) ?_
  refine lv_iconst (v := 2) hx hb dL_law_590 (by decide) ?_
  refine k_iaddN (a := i) (b := 2) hx hb dL_law_591 ?_
  refine k_sldv (i := i + 2) (v := nI n2) hx hb hX hbl hw (by omega) (by omega) e2 dL_law_592 ?_
  refine lv_aload_n hx hb dL_law_593 rfl (lv_at hl 3 rfl) ?_
  refine krx_i (ws' := wX x A T B ++ wC E A (B 0) S ++ wC E T (B 0) U ++ wG E B G ++ [(o, aJ E 1 f)] ++ wN E M (th, Hb, a, k)) (vx_runSX (As := [.ref x, .int (nI n1), .int (nI n2), .ref o]) (rest := []) ⟨hx, hb, hml, hown, hts⟩ (c_L_sight_2 l hflags E x A T B S U G (nI n1) (nI n2) o f hy0 _) (vx_cwSW 4 hts gL_law_L_sight rfl rfl rfl hd_L_sight ⟨Nat.le_of_ble_eq_true rfl, Nat.le_of_ble_eq_true rfl⟩) (rpX (AV := [.ref x, .int (nI n1), .int (nI n2), .ref o]) hw hK hG hZ hA rp_86) rfl rfl hl.1 rfl (lv_room (Nat.le_of_ble_eq_true rfl)) dL_law_594 ⟨(show cells + 3 ≤ 1033879 by omega), (show slots + 18 ≤ 5994467 by omega)⟩) hw hA rp_86 rp_86 (fun H locs ce9 q9 t_1 hw hy1 hy2 hy3 => absurd rfl t_1) (fun H locs t_1 hw => ?_)
  refine lv_istore (lv' := [(5, .int 2), (0, .ref b), (1, .ref x), (2, .ref (M 0)), (3, .ref o), (4, .int (nI i))]) hx hb dL_law_597 hl (by decide) rfl (fun ls hl => ?_)
  refine lv_aload_n hx hb dL_law_599 rfl (lv_at hl 3 rfl) ?_
  refine lv_aload_n hx hb dL_law_600 rfl (lv_at hl 1 rfl) ?_
  refine lv_iload hx hb dL_law_601 (lv_at hl 5 rfl) ?_
  refine lv_iconst (v := 1) hx hb dL_law_603 (by decide) ?_
  refine k_iaddN (a := i) (b := 1) hx hb dL_law_604 ?_
  refine k_sldv (i := i + 1) (v := nI n1) hx hb hX hbl hw (by omega) (by omega) e1 dL_law_605 ?_
  refine lv_aload_n hx hb dL_law_606 rfl (lv_at hl 1 rfl) ?_
  refine lv_iload hx hb dL_law_607 (lv_at hl 5 rfl) ?_
  refine lv_iconst (v := 2) hx hb dL_law_609 (by decide) ?_
  refine k_iaddN (a := i) (b := 2) hx hb dL_law_610 ?_
  refine k_sldv (i := i + 2) (v := nI n2) hx hb hX hbl hw (by omega) (by omega) e2 dL_law_611 ?_
  refine kr_i (ws' := wX x A T B ++ wC E A (B 0) S ++ wC E T (B 0) U ++ wG E B G ++ [(o, aJ E 1 f)] ++ wN E M (2, Hb, a, k)) (va_runV (As := [.int (nI n1), .int (nI n2)]) (rest := []) ⟨hx, hb, hml, hown, hts⟩ (c_X3_sight_2b l E M th Hb a k n1 n2 hy1 hy2 hy3 hy4 hy5 hy6 hy7 hy8 _) (cwV 2 hts gL_law_X3_sight rfl rfl rfl ⟨rfl, hd_X3_sight⟩ ⟨Nat.le_of_ble_eq_true rfl, Nat.le_of_ble_eq_true rfl⟩) (pwV (ci := 3) (q0 := 22) (C := RX3) hw hK rfl rfl rfl (rpS (AV := [.ref (M 0), .int (nI n1), .int (nI n2)]) hw hK hG rp_88)) rfl rfl hl.1 rfl (lv_room (Nat.le_of_ble_eq_true rfl)) dL_law_612 ⟨(show cells + 3 + 0 ≤ 1033879 by omega), (show slots + 18 + 0 ≤ 5994467 by omega)⟩) hw hA rp_87 (fun H locs hw => ?_)
  refine lv_istore (lv' := [(6, .int (bI false)), (5, .int 2), (0, .ref b), (1, .ref x), (2, .ref (M 0)), (3, .ref o), (4, .int (nI i))]) hx hb dL_law_615 hl (by decide) rfl (fun ls hl => ?_)
  refine lv_aload_n hx hb dL_law_617 rfl (lv_at hl 4 rfl) ?_
  refine kr_i (ws' := wX x A T B ++ wC E A (B 0) S ++ wC E T (B 0) U ++ wG E B G ++ [(o, aJ E 1 f)] ++ wN E M (2, Hb, a, k)) (va_runV (As := []) (rest := []) ⟨hx, hb, hml, hown, hts⟩ (c_X3_thrown l E M 2 Hb a k  _) (cwV 0 hts gL_law_X3_thrown rfl rfl rfl ⟨rfl, hd_X3_thrown⟩ ⟨Nat.le_of_ble_eq_true rfl, Nat.le_of_ble_eq_true rfl⟩) (pwV (ci := 3) (q0 := 22) (C := RX3) hw hK rfl rfl rfl (rpS (AV := [.ref (M 0)]) hw hK hG rp_88)) rfl rfl hl.1 rfl (lv_room (Nat.le_of_ble_eq_true rfl)) dL_law_618 ⟨(show cells + 3 + 0 ≤ 1033879 by omega), (show slots + 18 + 0 ≤ 5994467 by omega)⟩) hw hA rp_88 (fun H locs hw => ?_)
  refine lv_iload hx hb dL_law_621 (lv_at hl 1 rfl) ?_
  refine lv_icmp_eq (tgt := 628) hx hb dL_law_623 (by decide) (fun _ => ?_) (fun q8 => absurd (by decide) q8)
  refine lv_iload hx hb dL_law_628 (lv_at hl 1 rfl) ?_
  refine lv_if_ne (tgt := 652) hx hb dL_law_630 (by decide) (fun _ => ?_) (fun q8 => absurd q8 (by decide))
  refine lv_goto (tgt := 2161) hx hb dL_law_652 (by decide) ?_
  refine W.widen (k := cells + 30) (n := slots + 200) (show cells + 3 ≤ cells + 30 by omega) (show slots + 18 ≤ slots + 200 by omega) ?_
  exact kk U f 2 k _ _ _ hw (lv_sub hl [2, 3, 4, 5, 6] rfl)

set_option maxHeartbeats 4000000 in
set_option maxRecDepth 100000 in
theorem la_sight {p9 : Program} {l : Launch} {e : Env} {s9 : State} {m : MethodId} {below : List Frame} {meth : Method} {c : Code} {b L : Nat} {xs : Nat → Int32} (C0 : lw_At p9 s9 m meth c b L xs) (hflags : l.stackTraces = false) (hL : L ≤ 2048) (E : Ev) (hK : va_K E.1 vwCl (tysE E) s9) (hG : Gx s9) (hZ : Zx (aL s9) s9 s9.heap) {Q : State → Prop} (x o : Nat) (A T B M : Nat → Nat) (S U : CS) (G : HS) (th : Int32) (Hb : MH) (a k : Fn) (f : Nat → Int64) (i cells slots : Nat) (hi : i + 4 ≤ L) (n1 : Nat) (e1 : xs (i + 1) = nI n1) (n2 : Nat) (e2 : xs (i + 2) = nI n2) (hy0 : t_new G S (nI n1) (nI n2) = 0) (hy1 : n_ns Hb ≤ 5) (hy2 : n_np Hb ≤ 16) (hy3 : n_nw Hb ≤ 4) (hy4 : ∀ p, p < n_np Hb → n_so Hb p < 5) (hy5 : n1 < n_nw Hb) (hy6 : n2 < n_ns Hb) (hy7 : d_out a n2 = true) (hy8 : a (54 + 5 * n1 + n2) = -1) (hy9 : f_is 5 (c_ru (f_enter S (nI n1) (nI n2))) (nI n2) = (r_sigB Hb a n1 n2)) (hc9 : cells + 30 ≤ 1033879) (hs9 : slots + 200 ≤ 5994467) (kk : ∀ (U1 : CS) (f1 : Nat → Int64) (t1 : Int32) (k1 : Fn) (H : Heap) (locs : List Loc) (ls : Array Slot), Wd E (aL s9) s9.heap (wX x A T B ++ wC E A (B 0) (f_enter S (nI n1) (nI n2)) ++ wC E T (B 0) U1 ++ wG E B G ++ [(o, aJ E 1 f1)] ++ wN E M (t1, Hb, r_sig Hb a n1 n2, k1)) H locs → lv_has ls 9 [(0, .ref b), (1, .ref x), (2, .ref (M 0)), (3, .ref o), (4, .int (nI i))] → W p9 l e room_1 s9 m #[Value.ref b] below meth c H locs (cells + 30) (slots + 200) Q (F0 m 2161 ls [])) {H : Heap} {locs : List Loc} {ls : Array Slot} (hw : Wd E (aL s9) s9.heap (wX x A T B ++ wC E A (B 0) S ++ wC E T (B 0) U ++ wG E B G ++ [(o, aJ E 1 f)] ++ wN E M (th, Hb, a, k)) H locs) (hl : lv_has ls 9 [(0, .ref b), (1, .ref x), (2, .ref (M 0)), (3, .ref o), (4, .int (nI i))]) : W p9 l e room_1 s9 m #[Value.ref b] below meth c H locs cells slots Q (F0 m 580 ls []) := by
  obtain ⟨hx, hb, hr, hml, hown, hts0, hX, hbl, hlocks, hgv⟩ := C0
  have hts : ∀ w ∈ wsL_law, w.before #[Value.ref b] s9 = true := fun w h => hts0 w (wsL_law_in w h)
  have hown : s9.vm.findClass RL = some m.cls := hown
  have hA : ∀ q, s9.heap.size ≤ q → aL s9 q := fun _ h => h
  refine lv_aload_n hx hb dL_law_580 rfl (lv_at hl 1 rfl) ?_
  refine lv_aload_n hx hb dL_law_581 rfl (lv_at hl 0 rfl) ?_
  refine lv_iload hx hb dL_law_582 (lv_at hl 4 rfl) ?_
  refine lv_iconst (v := 1) hx hb dL_law_584 (by decide) ?_
  refine k_iaddN (a := i) (b := 1) hx hb dL_law_585 ?_
  refine k_sldv (i := i + 1) (v := nI n1) hx hb hX hbl hw (by omega) (by omega) e1 dL_law_586 ?_
  refine lv_aload_n hx hb dL_law_587 rfl (lv_at hl 0 rfl) ?_
  refine lv_iload hx hb dL_law_588 (lv_at hl 4 rfl) ?_
  refine lv_iconst (v := 2) hx hb dL_law_590 (by decide) ?_
  refine k_iaddN (a := i) (b := 2) hx hb dL_law_591 ?_
  refine k_sldv (i := i + 2) (v := nI n2) hx hb hX hbl hw (by omega) (by omega) e2 dL_law_592 ?_
  refine lv_aload_n hx hb dL_law_593 rfl (lv_at hl 3 rfl) ?_
  refine krx_i (ws' := wX x A T B ++ wC E A (B 0) (f_enter S (nI n1) (nI n2)) ++ wC E T (B 0) U ++ wG E B G ++ [(o, aJ E 1 (vp_updL f 0 (if f_is 5 (c_ru (f_enter S (nI n1) (nI n2))) (nI n2) = true then 1 else 0)))] ++ wN E M (th, Hb, a, k)) (vx_runSX (As := [.ref x, .int (nI n1), .int (nI n2), .ref o]) (rest := []) ⟨hx, hb, hml, hown, hts⟩ (c_L_sight l hflags E x A T B S U G (nI n1) (nI n2) o f hy0 _) (vx_cwSW 4 hts gL_law_L_sight rfl rfl rfl hd_L_sight ⟨Nat.le_of_ble_eq_true rfl, Nat.le_of_ble_eq_true rfl⟩) (rpX (AV := [.ref x, .int (nI n1), .int (nI n2), .ref o]) hw hK hG hZ hA rp_86) rfl rfl hl.1 rfl (lv_room (Nat.le_of_ble_eq_true rfl)) dL_law_594 ⟨(show cells + 3 ≤ 1033879 by omega), (show slots + 18 ≤ 5994467 by omega)⟩) hw hA rp_91 rp_86 (fun H locs ce9 q9 t_1 hw hy1 hy2 hy3 => absurd rfl t_1) (fun H locs t_1 hw => ?_)
  refine lv_istore (lv' := [(5, .int 0), (0, .ref b), (1, .ref x), (2, .ref (M 0)), (3, .ref o), (4, .int (nI i))]) hx hb dL_law_597 hl (by decide) rfl (fun ls hl => ?_)
  refine lv_aload_n hx hb dL_law_599 rfl (lv_at hl 3 rfl) ?_
  refine lv_aload_n hx hb dL_law_600 rfl (lv_at hl 1 rfl) ?_
  refine lv_iload hx hb dL_law_601 (lv_at hl 5 rfl) ?_
  refine lv_iconst (v := 1) hx hb dL_law_603 (by decide) ?_
  refine k_iaddN (a := i) (b := 1) hx hb dL_law_604 ?_
  refine k_sldv (i := i + 1) (v := nI n1) hx hb hX hbl hw (by omega) (by omega) e1 dL_law_605 ?_
  refine lv_aload_n hx hb dL_law_606 rfl (lv_at hl 1 rfl) ?_
  refine lv_iload hx hb dL_law_607 (lv_at hl 5 rfl) ?_
  refine lv_iconst (v := 2) hx hb dL_law_609 (by decide) ?_
  refine k_iaddN (a := i) (b := 2) hx hb dL_law_610 ?_
  refine k_sldv (i := i + 2) (v := nI n2) hx hb hX hbl hw (by omega) (by omega) e2 dL_law_611 ?_
  refine kr_i (ws' := wX x A T B ++ wC E A (B 0) (f_enter S (nI n1) (nI n2)) ++ wC E T (B 0) U ++ wG E B G ++ [(o, aJ E 1 (vp_updL f 0 (if f_is 5 (c_ru (f_enter S (nI n1) (nI n2))) (nI n2) = true then 1 else 0)))] ++ wN E M (0, Hb, r_sig Hb a n1 n2, k)) (va_runV (As := [.int (nI n1), .int (nI n2)]) (rest := []) ⟨hx, hb, hml, hown, hts⟩ (c_X3_sight l E M th Hb a k n1 n2 hy1 hy2 hy3 hy4 hy5 hy6 hy7 hy8 _) (cwV 2 hts gL_law_X3_sight rfl rfl rfl ⟨rfl, hd_X3_sight⟩ ⟨Nat.le_of_ble_eq_true rfl, Nat.le_of_ble_eq_true rfl⟩) (pwV (ci := 3) (q0 := 22) (C := RX3) hw hK rfl rfl rfl (rpS (AV := [.ref (M 0), .int (nI n1), .int (nI n2)]) hw hK hG rp_88)) rfl rfl hl.1 rfl (lv_room (Nat.le_of_ble_eq_true rfl)) dL_law_612 ⟨(show cells + 3 + 0 ≤ 1033879 by omega), (show slots + 18 + 0 ≤ 5994467 by omega)⟩) hw hA rp_87 (fun H locs hw => ?_)
  refine lv_istore (lv' := [(6, .int (bI (r_sigB Hb a n1 n2))), (5, .int 0), (0, .ref b), (1, .ref x), (2, .ref (M 0)), (3, .ref o), (4, .int (nI i))]) hx hb dL_law_615 hl (by decide) rfl (fun ls hl => ?_)
  refine lv_aload_n hx hb dL_law_617 rfl (lv_at hl 4 rfl) ?_
  refine kr_i (ws' := wX x A T B ++ wC E A (B 0) (f_enter S (nI n1) (nI n2)) ++ wC E T (B 0) U ++ wG E B G ++ [(o, aJ E 1 (vp_updL f 0 (if f_is 5 (c_ru (f_enter S (nI n1) (nI n2))) (nI n2) = true then 1 else 0)))] ++ wN E M (0, Hb, r_sig Hb a n1 n2, k)) (va_runV (As := []) (rest := []) ⟨hx, hb, hml, hown, hts⟩ (c_X3_thrown l E M 0 Hb (r_sig Hb a n1 n2) k  _) (cwV 0 hts gL_law_X3_thrown rfl rfl rfl ⟨rfl, hd_X3_thrown⟩ ⟨Nat.le_of_ble_eq_true rfl, Nat.le_of_ble_eq_true rfl⟩) (pwV (ci := 3) (q0 := 22) (C := RX3) hw hK rfl rfl rfl (rpS (AV := [.ref (M 0)]) hw hK hG rp_88)) rfl rfl hl.1 rfl (lv_room (Nat.le_of_ble_eq_true rfl)) dL_law_618 ⟨(show cells + 3 + 0 ≤ 1033879 by omega), (show slots + 18 + 0 ≤ 5994467 by omega)⟩) hw hA rp_88 (fun H locs hw => ?_)
  refine lv_iload hx hb dL_law_621 (lv_at hl 1 rfl) ?_
  refine lv_icmp_eq (tgt := 628) hx hb dL_law_623 (by decide) (fun _ => ?_) (fun q8 => absurd (by decide) q8)
  refine lv_iload hx hb dL_law_628 (lv_at hl 1 rfl) ?_
  refine lv_if_ne (tgt := 652) hx hb dL_law_630 (by decide) (fun q8 => absurd (by decide) q8) (fun _ => ?_)
  refine lv_aload_n hx hb dL_law_633 rfl (lv_at hl 5 rfl) ?_
  refine lv_iconst (v := 0) hx hb dL_law_634 (by decide) ?_
  refine k_lld (v := (vp_updL f 0 (if f_is 5 (c_ru (f_enter S (nI n1) (nI n2))) (nI n2) = true then 1 else 0)) 0) hx hb hK hw 21 rfl (vp_in_nI (n := 0) (N := 1) (by decide) (by decide)) rfl dL_law_635 ?_
  refine lv_iload hx hb dL_law_636 (lv_at hl 0 rfl) ?_
  refine lv_if_eq (tgt := 645) hx hb dL_law_638 (by decide) (fun c_2 => ?_) (fun c_2 => ?_)
  · have c_2 := bI_z c_2
    refine lv_lconst (v := 0) hx hb dL_law_645 (by decide) ?_
    refine k_lcmpE hx hb dL_law_646 (pk_uLs.trans (by rw [hy9, c_2]; rfl)) ?_
    refine lv_if_eq (tgt := 652) hx hb dL_law_647 (by decide) (fun _ => ?_) (fun q8 => absurd (by decide) q8)
    refine lv_goto (tgt := 2161) hx hb dL_law_652 (by decide) ?_
    refine W.widen (k := cells + 30) (n := slots + 200) (show cells + 3 ≤ cells + 30 by omega) (show slots + 18 ≤ slots + 200 by omega) ?_
    exact kk U (vp_updL f 0 (if f_is 5 (c_ru (f_enter S (nI n1) (nI n2))) (nI n2) = true then 1 else 0)) 0 k _ _ _ hw (lv_sub hl [2, 3, 4, 5, 6] rfl)
  · have c_2 := bI_nz c_2
    refine lv_lconst (v := 1) hx hb dL_law_641 (by decide) ?_
    refine lv_goto (tgt := 646) hx hb dL_law_642 (by decide) ?_
    refine k_lcmpE hx hb dL_law_646 (pk_uLs.trans (by rw [hy9, c_2]; rfl)) ?_
    refine lv_if_eq (tgt := 652) hx hb dL_law_647 (by decide) (fun _ => ?_) (fun q8 => absurd (by decide) q8)
    refine lv_goto (tgt := 2161) hx hb dL_law_652 (by decide) ?_
    refine W.widen (k := cells + 30) (n := slots + 200) (show cells + 3 ≤ cells + 30 by omega) (show slots + 18 ≤ slots + 200 by omega) ?_
    exact kk U (vp_updL f 0 (if f_is 5 (c_ru (f_enter S (nI n1) (nI n2))) (nI n2) = true then 1 else 0)) 0 k _ _ _ hw (lv_sub hl [2, 3, 4, 5, 6] rfl)

set_option maxHeartbeats 4000000 in
set_option maxRecDepth 100000 in
theorem la_vote_1_t {p9 : Program} {l : Launch} {e : Env} {s9 : State} {m : MethodId} {below : List Frame} {meth : Method} {c : Code} {b L : Nat} {xs : Nat → Int32} (C0 : lw_At p9 s9 m meth c b L xs) (hflags : l.stackTraces = false) (hL : L ≤ 2048) (E : Ev) (hK : va_K E.1 vwCl (tysE E) s9) (hG : Gx s9) (hZ : Zx (aL s9) s9 s9.heap) {Q : State → Prop} (x o : Nat) (A T B M : Nat → Nat) (S U : CS) (G : HS) (th : Int32) (Hb : MH) (a k : Fn) (f : Nat → Int64) (i cells slots : Nat) (hi : i + 4 ≤ L) (z1 : Int32) (e1 : xs (i + 1) = z1) (z2 : Int32) (e2 : xs (i + 2) = z2) (hz : ¬ z2 = 0) (hy0 : t_vote G S z1 = 1) (hy1 : n_ns Hb ≤ 5) (hy2 : n_np Hb ≤ 16) (hy3 : n_nw Hb ≤ 4) (hy4 : ∀ z1, z1 < n_np Hb → n_so Hb z1 < 5) (hy5 : d_in z1 0 (nI (n_np Hb) - 1) = false) (hc9 : cells + 30 ≤ 1033879) (hs9 : slots + 200 ≤ 5994467) (kk : ∀ (U1 : CS) (f1 : Nat → Int64) (t1 : Int32) (k1 : Fn) (H : Heap) (locs : List Loc) (ls : Array Slot), Wd E (aL s9) s9.heap (wX x A T B ++ wC E A (B 0) S ++ wC E T (B 0) U1 ++ wG E B G ++ [(o, aJ E 1 f1)] ++ wN E M (t1, Hb, a, k1)) H locs → lv_has ls 9 [(0, .ref b), (1, .ref x), (2, .ref (M 0)), (3, .ref o), (4, .int (nI i))] → W p9 l e room_1 s9 m #[Value.ref b] below meth c H locs (cells + 30) (slots + 200) Q (F0 m 2161 ls [])) {H : Heap} {locs : List Loc} {ls : Array Slot} (hw : Wd E (aL s9) s9.heap (wX x A T B ++ wC E A (B 0) S ++ wC E T (B 0) U ++ wG E B G ++ [(o, aJ E 1 f)] ++ wN E M (th, Hb, a, k)) H locs) (hl : lv_has ls 9 [(0, .ref b), (1, .ref x), (2, .ref (M 0)), (3, .ref o), (4, .int (nI i))]) : W p9 l e room_1 s9 m #[Value.ref b] below meth c H locs cells slots Q (F0 m 655 ls []) := by
  obtain ⟨hx, hb, hr, hml, hown, hts0, hX, hbl, hlocks, hgv⟩ := C0
  have hts : ∀ w ∈ wsL_law, w.before #[Value.ref b] s9 = true := fun w h => hts0 w (wsL_law_in w h)
  have hown : s9.vm.findClass RL = some m.cls := hown
  have hA : ∀ q, s9.heap.size ≤ q → aL s9 q := fun _ h => h
  refine lv_aload_n hx hb dL_law_655 rfl (lv_at hl 1 rfl) ?_
  refine lv_aload_n hx hb dL_law_656 rfl (lv_at hl 0 rfl) ?_
  refine lv_iload hx hb dL_law_657 (lv_at hl 4 rfl) ?_
  refine lv_iconst (v := 1) hx hb dL_law_659 (by decide) ?_
  refine k_iaddN (a := i) (b := 1) hx hb dL_law_660 ?_
  refine k_sldv (i := i + 1) (v := z1) hx hb hX hbl hw (by omega) (by omega) e1 dL_law_661 ?_
  refine lv_aload_n hx hb dL_law_662 rfl (lv_at hl 0 rfl) ?_
  refine lv_iload hx hb dL_law_663 (lv_at hl 4 rfl) ?_
  refine lv_iconst (v := 2) hx hb dL_law_665 (by decide) ?_
  refine k_iaddN (a := i) (b := 2) hx hb dL_law_666 ?_
  refine k_sldv (i := i + 2) (v := z2) hx hb hX hbl hw (by omega) (by omega) e2 dL_law_667 ?_
  refine lv_if_eq (tgt := 675) hx hb dL_law_668 (by decide) (fun q8 => absurd q8 hz) (fun _ => ?_)
  refine lv_iconst (v := 1) hx hb dL_law_671 (by decide) ?_
  refine lv_goto (tgt := 676) hx hb dL_law_672 (by decide) ?_
  refine lv_aload_n hx hb dL_law_676 rfl (lv_at hl 3 rfl) ?_
  refine krx_i (ws' := wX x A T B ++ wC E A (B 0) S ++ wC E T (B 0) U ++ wG E B G ++ [(o, aJ E 1 f)] ++ wN E M (th, Hb, a, k)) (vx_runSX (As := [.ref x, .int z1, .int 1, .ref o]) (rest := []) ⟨hx, hb, hml, hown, hts⟩ (c_L_vote_1 l hflags E x A T B S U G z1 true o f hy0 _) (vx_cwSW 4 hts gL_law_L_vote rfl rfl rfl hd_L_vote ⟨Nat.le_of_ble_eq_true rfl, Nat.le_of_ble_eq_true rfl⟩) (rpX (AV := [.ref x, .int z1, .int 1, .ref o]) hw hK hG hZ hA rp_86) rfl rfl hl.1 rfl (lv_room (Nat.le_of_ble_eq_true rfl)) dL_law_677 ⟨(show cells + 2 ≤ 1033879 by omega), (show slots + 12 ≤ 5994467 by omega)⟩) hw hA rp_86 rp_86 (fun H locs ce9 q9 t_1 hw hy1 hy2 hy3 => absurd rfl t_1) (fun H locs t_1 hw => ?_)
  refine lv_istore (lv' := [(5, .int 1), (0, .ref b), (1, .ref x), (2, .ref (M 0)), (3, .ref o), (4, .int (nI i))]) hx hb dL_law_680 hl (by decide) rfl (fun ls hl => ?_)
  refine lv_aload_n hx hb dL_law_682 rfl (lv_at hl 3 rfl) ?_
  refine lv_aload_n hx hb dL_law_683 rfl (lv_at hl 1 rfl) ?_
  refine lv_iload hx hb dL_law_684 (lv_at hl 5 rfl) ?_
  refine lv_iconst (v := 1) hx hb dL_law_686 (by decide) ?_
  refine k_iaddN (a := i) (b := 1) hx hb dL_law_687 ?_
  refine k_sldv (i := i + 1) (v := z1) hx hb hX hbl hw (by omega) (by omega) e1 dL_law_688 ?_
  refine lv_aload_n hx hb dL_law_689 rfl (lv_at hl 1 rfl) ?_
  refine lv_iload hx hb dL_law_690 (lv_at hl 5 rfl) ?_
  refine lv_iconst (v := 2) hx hb dL_law_692 (by decide) ?_
  refine k_iaddN (a := i) (b := 2) hx hb dL_law_693 ?_
  refine k_sldv (i := i + 2) (v := z2) hx hb hX hbl hw (by omega) (by omega) e2 dL_law_694 ?_
  refine lv_if_eq (tgt := 702) hx hb dL_law_695 (by decide) (fun q8 => absurd q8 hz) (fun _ => ?_)
  refine lv_iconst (v := 1) hx hb dL_law_698 (by decide) ?_
  refine lv_goto (tgt := 703) hx hb dL_law_699 (by decide) ?_
  refine kr_i (ws' := wX x A T B ++ wC E A (B 0) S ++ wC E T (B 0) U ++ wG E B G ++ [(o, aJ E 1 f)] ++ wN E M (1, Hb, a, k)) (va_runV (As := [.int z1, .int 1]) (rest := []) ⟨hx, hb, hml, hown, hts⟩ (c_X3_vote_1 l E M th Hb a k z1 true hy1 hy2 hy3 hy4 hy5 _) (cwV 2 hts gL_law_X3_vote rfl rfl rfl ⟨rfl, hd_X3_vote⟩ ⟨Nat.le_of_ble_eq_true rfl, Nat.le_of_ble_eq_true rfl⟩) (pwV (ci := 3) (q0 := 22) (C := RX3) hw hK rfl rfl rfl (rpS (AV := [.ref (M 0), .int z1, .int 1]) hw hK hG rp_88)) rfl rfl hl.1 rfl (lv_room (Nat.le_of_ble_eq_true rfl)) dL_law_703 ⟨(show cells + 2 + 0 ≤ 1033879 by omega), (show slots + 12 + 0 ≤ 5994467 by omega)⟩) hw hA rp_87 (fun H locs hw => ?_)
  refine lv_istore (lv' := [(6, .int 0), (5, .int 1), (0, .ref b), (1, .ref x), (2, .ref (M 0)), (3, .ref o), (4, .int (nI i))]) hx hb dL_law_706 hl (by decide) rfl (fun ls hl => ?_)
  refine lv_aload_n hx hb dL_law_708 rfl (lv_at hl 4 rfl) ?_
  refine kr_i (ws' := wX x A T B ++ wC E A (B 0) S ++ wC E T (B 0) U ++ wG E B G ++ [(o, aJ E 1 f)] ++ wN E M (1, Hb, a, k)) (va_runV (As := []) (rest := []) ⟨hx, hb, hml, hown, hts⟩ (c_X3_thrown l E M 1 Hb a k  _) (cwV 0 hts gL_law_X3_thrown rfl rfl rfl ⟨rfl, hd_X3_thrown⟩ ⟨Nat.le_of_ble_eq_true rfl, Nat.le_of_ble_eq_true rfl⟩) (pwV (ci := 3) (q0 := 22) (C := RX3) hw hK rfl rfl rfl (rpS (AV := [.ref (M 0)]) hw hK hG rp_88)) rfl rfl hl.1 rfl (lv_room (Nat.le_of_ble_eq_true rfl)) dL_law_709 ⟨(show cells + 2 + 0 ≤ 1033879 by omega), (show slots + 12 + 0 ≤ 5994467 by omega)⟩) hw hA rp_88 (fun H locs hw => ?_)
  refine lv_iload hx hb dL_law_712 (lv_at hl 1 rfl) ?_
  refine lv_icmp_eq (tgt := 719) hx hb dL_law_714 (by decide) (fun _ => ?_) (fun q8 => absurd (by decide) q8)
  refine lv_iload hx hb dL_law_719 (lv_at hl 1 rfl) ?_
  refine lv_if_ne (tgt := 736) hx hb dL_law_721 (by decide) (fun _ => ?_) (fun q8 => absurd q8 (by decide))
  refine lv_goto (tgt := 2161) hx hb dL_law_736 (by decide) ?_
  refine W.widen (k := cells + 30) (n := slots + 200) (show cells + 2 ≤ cells + 30 by omega) (show slots + 12 ≤ slots + 200 by omega) ?_
  exact kk U f 1 k _ _ _ hw (lv_sub hl [2, 3, 4, 5, 6] rfl)

set_option maxHeartbeats 4000000 in
set_option maxRecDepth 100000 in
theorem la_vote_1_f {p9 : Program} {l : Launch} {e : Env} {s9 : State} {m : MethodId} {below : List Frame} {meth : Method} {c : Code} {b L : Nat} {xs : Nat → Int32} (C0 : lw_At p9 s9 m meth c b L xs) (hflags : l.stackTraces = false) (hL : L ≤ 2048) (E : Ev) (hK : va_K E.1 vwCl (tysE E) s9) (hG : Gx s9) (hZ : Zx (aL s9) s9 s9.heap) {Q : State → Prop} (x o : Nat) (A T B M : Nat → Nat) (S U : CS) (G : HS) (th : Int32) (Hb : MH) (a k : Fn) (f : Nat → Int64) (i cells slots : Nat) (hi : i + 4 ≤ L) (z1 : Int32) (e1 : xs (i + 1) = z1) (z2 : Int32) (e2 : xs (i + 2) = z2) (hz : z2 = 0) (hy0 : t_vote G S z1 = 1) (hy1 : n_ns Hb ≤ 5) (hy2 : n_np Hb ≤ 16) (hy3 : n_nw Hb ≤ 4) (hy4 : ∀ z1, z1 < n_np Hb → n_so Hb z1 < 5) (hy5 : d_in z1 0 (nI (n_np Hb) - 1) = false) (hc9 : cells + 30 ≤ 1033879) (hs9 : slots + 200 ≤ 5994467) (kk : ∀ (U1 : CS) (f1 : Nat → Int64) (t1 : Int32) (k1 : Fn) (H : Heap) (locs : List Loc) (ls : Array Slot), Wd E (aL s9) s9.heap (wX x A T B ++ wC E A (B 0) S ++ wC E T (B 0) U1 ++ wG E B G ++ [(o, aJ E 1 f1)] ++ wN E M (t1, Hb, a, k1)) H locs → lv_has ls 9 [(0, .ref b), (1, .ref x), (2, .ref (M 0)), (3, .ref o), (4, .int (nI i))] → W p9 l e room_1 s9 m #[Value.ref b] below meth c H locs (cells + 30) (slots + 200) Q (F0 m 2161 ls [])) {H : Heap} {locs : List Loc} {ls : Array Slot} (hw : Wd E (aL s9) s9.heap (wX x A T B ++ wC E A (B 0) S ++ wC E T (B 0) U ++ wG E B G ++ [(o, aJ E 1 f)] ++ wN E M (th, Hb, a, k)) H locs) (hl : lv_has ls 9 [(0, .ref b), (1, .ref x), (2, .ref (M 0)), (3, .ref o), (4, .int (nI i))]) : W p9 l e room_1 s9 m #[Value.ref b] below meth c H locs cells slots Q (F0 m 655 ls []) := by
  obtain ⟨hx, hb, hr, hml, hown, hts0, hX, hbl, hlocks, hgv⟩ := C0
  have hts : ∀ w ∈ wsL_law, w.before #[Value.ref b] s9 = true := fun w h => hts0 w (wsL_law_in w h)
  have hown : s9.vm.findClass RL = some m.cls := hown
  have hA : ∀ q, s9.heap.size ≤ q → aL s9 q := fun _ h => h
  refine lv_aload_n hx hb dL_law_655 rfl (lv_at hl 1 rfl) ?_
  refine lv_aload_n hx hb dL_law_656 rfl (lv_at hl 0 rfl) ?_
  refine lv_iload hx hb dL_law_657 (lv_at hl 4 rfl) ?_
  refine lv_iconst (v := 1) hx hb dL_law_659 (by decide) ?_
  refine k_iaddN (a := i) (b := 1) hx hb dL_law_660 ?_
  refine k_sldv (i := i + 1) (v := z1) hx hb hX hbl hw (by omega) (by omega) e1 dL_law_661 ?_
  refine lv_aload_n hx hb dL_law_662 rfl (lv_at hl 0 rfl) ?_
  refine lv_iload hx hb dL_law_663 (lv_at hl 4 rfl) ?_
  refine lv_iconst (v := 2) hx hb dL_law_665 (by decide) ?_
  refine k_iaddN (a := i) (b := 2) hx hb dL_law_666 ?_
  refine k_sldv (i := i + 2) (v := z2) hx hb hX hbl hw (by omega) (by omega) e2 dL_law_667 ?_
  refine lv_if_eq (tgt := 675) hx hb dL_law_668 (by decide) (fun _ => ?_) (fun q8 => absurd hz q8)
  refine lv_iconst (v := 0) hx hb dL_law_675 (by decide) ?_
  refine lv_aload_n hx hb dL_law_676 rfl (lv_at hl 3 rfl) ?_
  refine krx_i (ws' := wX x A T B ++ wC E A (B 0) S ++ wC E T (B 0) U ++ wG E B G ++ [(o, aJ E 1 f)] ++ wN E M (th, Hb, a, k)) (vx_runSX (As := [.ref x, .int z1, .int 0, .ref o]) (rest := []) ⟨hx, hb, hml, hown, hts⟩ (c_L_vote_1 l hflags E x A T B S U G z1 false o f hy0 _) (vx_cwSW 4 hts gL_law_L_vote rfl rfl rfl hd_L_vote ⟨Nat.le_of_ble_eq_true rfl, Nat.le_of_ble_eq_true rfl⟩) (rpX (AV := [.ref x, .int z1, .int 0, .ref o]) hw hK hG hZ hA rp_86) rfl rfl hl.1 rfl (lv_room (Nat.le_of_ble_eq_true rfl)) dL_law_677 ⟨(show cells + 2 ≤ 1033879 by omega), (show slots + 12 ≤ 5994467 by omega)⟩) hw hA rp_86 rp_86 (fun H locs ce9 q9 t_1 hw hy1 hy2 hy3 => absurd rfl t_1) (fun H locs t_1 hw => ?_)
  refine lv_istore (lv' := [(5, .int 1), (0, .ref b), (1, .ref x), (2, .ref (M 0)), (3, .ref o), (4, .int (nI i))]) hx hb dL_law_680 hl (by decide) rfl (fun ls hl => ?_)
  refine lv_aload_n hx hb dL_law_682 rfl (lv_at hl 3 rfl) ?_
  refine lv_aload_n hx hb dL_law_683 rfl (lv_at hl 1 rfl) ?_
  refine lv_iload hx hb dL_law_684 (lv_at hl 5 rfl) ?_
  refine lv_iconst (v := 1) hx hb dL_law_686 (by decide) ?_
  refine k_iaddN (a := i) (b := 1) hx hb dL_law_687 ?_
  refine k_sldv (i := i + 1) (v := z1) hx hb hX hbl hw (by omega) (by omega) e1 dL_law_688 ?_
  refine lv_aload_n hx hb dL_law_689 rfl (lv_at hl 1 rfl) ?_
  refine lv_iload hx hb dL_law_690 (lv_at hl 5 rfl) ?_
  refine lv_iconst (v := 2) hx hb dL_law_692 (by decide) ?_
  refine k_iaddN (a := i) (b := 2) hx hb dL_law_693 ?_
  refine k_sldv (i := i + 2) (v := z2) hx hb hX hbl hw (by omega) (by omega) e2 dL_law_694 ?_
  refine lv_if_eq (tgt := 702) hx hb dL_law_695 (by decide) (fun _ => ?_) (fun q8 => absurd hz q8)
  refine lv_iconst (v := 0) hx hb dL_law_702 (by decide) ?_
  refine kr_i (ws' := wX x A T B ++ wC E A (B 0) S ++ wC E T (B 0) U ++ wG E B G ++ [(o, aJ E 1 f)] ++ wN E M (1, Hb, a, k)) (va_runV (As := [.int z1, .int 0]) (rest := []) ⟨hx, hb, hml, hown, hts⟩ (c_X3_vote_1 l E M th Hb a k z1 false hy1 hy2 hy3 hy4 hy5 _) (cwV 2 hts gL_law_X3_vote rfl rfl rfl ⟨rfl, hd_X3_vote⟩ ⟨Nat.le_of_ble_eq_true rfl, Nat.le_of_ble_eq_true rfl⟩) (pwV (ci := 3) (q0 := 22) (C := RX3) hw hK rfl rfl rfl (rpS (AV := [.ref (M 0), .int z1, .int 0]) hw hK hG rp_88)) rfl rfl hl.1 rfl (lv_room (Nat.le_of_ble_eq_true rfl)) dL_law_703 ⟨(show cells + 2 + 0 ≤ 1033879 by omega), (show slots + 12 + 0 ≤ 5994467 by omega)⟩) hw hA rp_87 (fun H locs hw => ?_)
  refine lv_istore (lv' := [(6, .int 0), (5, .int 1), (0, .ref b), (1, .ref x), (2, .ref (M 0)), (3, .ref o), (4, .int (nI i))]) hx hb dL_law_706 hl (by decide) rfl (fun ls hl => ?_)
  refine lv_aload_n hx hb dL_law_708 rfl (lv_at hl 4 rfl) ?_
  refine kr_i (ws' := wX x A T B ++ wC E A (B 0) S ++ wC E T (B 0) U ++ wG E B G ++ [(o, aJ E 1 f)] ++ wN E M (1, Hb, a, k)) (va_runV (As := []) (rest := []) ⟨hx, hb, hml, hown, hts⟩ (c_X3_thrown l E M 1 Hb a k  _) (cwV 0 hts gL_law_X3_thrown rfl rfl rfl ⟨rfl, hd_X3_thrown⟩ ⟨Nat.le_of_ble_eq_true rfl, Nat.le_of_ble_eq_true rfl⟩) (pwV (ci := 3) (q0 := 22) (C := RX3) hw hK rfl rfl rfl (rpS (AV := [.ref (M 0)]) hw hK hG rp_88)) rfl rfl hl.1 rfl (lv_room (Nat.le_of_ble_eq_true rfl)) dL_law_709 ⟨(show cells + 2 + 0 ≤ 1033879 by omega), (show slots + 12 + 0 ≤ 5994467 by omega)⟩) hw hA rp_88 (fun H locs hw => ?_)
  refine lv_iload hx hb dL_law_712 (lv_at hl 1 rfl) ?_
  refine lv_icmp_eq (tgt := 719) hx hb dL_law_714 (by decide) (fun _ => ?_) (fun q8 => absurd (by decide) q8)
  refine lv_iload hx hb dL_law_719 (lv_at hl 1 rfl) ?_
  refine lv_if_ne (tgt := 736) hx hb dL_law_721 (by decide) (fun _ => ?_) (fun q8 => absurd q8 (by decide))
  refine lv_goto (tgt := 2161) hx hb dL_law_736 (by decide) ?_
  refine W.widen (k := cells + 30) (n := slots + 200) (show cells + 2 ≤ cells + 30 by omega) (show slots + 12 ≤ slots + 200 by omega) ?_
  exact kk U f 1 k _ _ _ hw (lv_sub hl [2, 3, 4, 5, 6] rfl)

set_option maxHeartbeats 4000000 in
set_option maxRecDepth 100000 in
theorem la_vote_2_t {p9 : Program} {l : Launch} {e : Env} {s9 : State} {m : MethodId} {below : List Frame} {meth : Method} {c : Code} {b L : Nat} {xs : Nat → Int32} (C0 : lw_At p9 s9 m meth c b L xs) (hflags : l.stackTraces = false) (hL : L ≤ 2048) (E : Ev) (hK : va_K E.1 vwCl (tysE E) s9) (hG : Gx s9) (hZ : Zx (aL s9) s9 s9.heap) {Q : State → Prop} (x o : Nat) (A T B M : Nat → Nat) (S U : CS) (G : HS) (th : Int32) (Hb : MH) (a k : Fn) (f : Nat → Int64) (i cells slots : Nat) (hi : i + 4 ≤ L) (n1 : Nat) (e1 : xs (i + 1) = nI n1) (z2 : Int32) (e2 : xs (i + 2) = z2) (hz : ¬ z2 = 0) (hy0 : t_vote G S (nI n1) = 2) (hy1 : n_ns Hb ≤ 5) (hy2 : n_np Hb ≤ 16) (hy3 : n_nw Hb ≤ 4) (hy4 : ∀ n1, n1 < n_np Hb → n_so Hb n1 < 5) (hy5 : n1 < n_np Hb) (hy6 : n_vo Hb n1 = false) (hc9 : cells + 30 ≤ 1033879) (hs9 : slots + 200 ≤ 5994467) (kk : ∀ (U1 : CS) (f1 : Nat → Int64) (t1 : Int32) (k1 : Fn) (H : Heap) (locs : List Loc) (ls : Array Slot), Wd E (aL s9) s9.heap (wX x A T B ++ wC E A (B 0) S ++ wC E T (B 0) U1 ++ wG E B G ++ [(o, aJ E 1 f1)] ++ wN E M (t1, Hb, a, k1)) H locs → lv_has ls 9 [(0, .ref b), (1, .ref x), (2, .ref (M 0)), (3, .ref o), (4, .int (nI i))] → W p9 l e room_1 s9 m #[Value.ref b] below meth c H locs (cells + 30) (slots + 200) Q (F0 m 2161 ls [])) {H : Heap} {locs : List Loc} {ls : Array Slot} (hw : Wd E (aL s9) s9.heap (wX x A T B ++ wC E A (B 0) S ++ wC E T (B 0) U ++ wG E B G ++ [(o, aJ E 1 f)] ++ wN E M (th, Hb, a, k)) H locs) (hl : lv_has ls 9 [(0, .ref b), (1, .ref x), (2, .ref (M 0)), (3, .ref o), (4, .int (nI i))]) : W p9 l e room_1 s9 m #[Value.ref b] below meth c H locs cells slots Q (F0 m 655 ls []) := by
  obtain ⟨hx, hb, hr, hml, hown, hts0, hX, hbl, hlocks, hgv⟩ := C0
  have hts : ∀ w ∈ wsL_law, w.before #[Value.ref b] s9 = true := fun w h => hts0 w (wsL_law_in w h)
  have hown : s9.vm.findClass RL = some m.cls := hown
  have hA : ∀ q, s9.heap.size ≤ q → aL s9 q := fun _ h => h
  refine lv_aload_n hx hb dL_law_655 rfl (lv_at hl 1 rfl) ?_
  refine lv_aload_n hx hb dL_law_656 rfl (lv_at hl 0 rfl) ?_
  refine lv_iload hx hb dL_law_657 (lv_at hl 4 rfl) ?_
  refine lv_iconst (v := 1) hx hb dL_law_659 (by decide) ?_
  refine k_iaddN (a := i) (b := 1) hx hb dL_law_660 ?_
  refine k_sldv (i := i + 1) (v := nI n1) hx hb hX hbl hw (by omega) (by omega) e1 dL_law_661 ?_
  refine lv_aload_n hx hb dL_law_662 rfl (lv_at hl 0 rfl) ?_
  refine lv_iload hx hb dL_law_663 (lv_at hl 4 rfl) ?_
  refine lv_iconst (v := 2) hx hb dL_law_665 (by decide) ?_
  refine k_iaddN (a := i) (b := 2) hx hb dL_law_666 ?_
  refine k_sldv (i := i + 2) (v := z2) hx hb hX hbl hw (by omega) (by omega) e2 dL_law_667 ?_
  refine lv_if_eq (tgt := 675) hx hb dL_law_668 (by decide) (fun q8 => absurd q8 hz) (fun _ => ?_)
  refine lv_iconst (v := 1) hx hb dL_law_671 (by decide) ?_
  refine lv_goto (tgt := 676) hx hb dL_law_672 (by decide) ?_
  refine lv_aload_n hx hb dL_law_676 rfl (lv_at hl 3 rfl) ?_
  refine krx_i (ws' := wX x A T B ++ wC E A (B 0) S ++ wC E T (B 0) U ++ wG E B G ++ [(o, aJ E 1 f)] ++ wN E M (th, Hb, a, k)) (vx_runSX (As := [.ref x, .int (nI n1), .int 1, .ref o]) (rest := []) ⟨hx, hb, hml, hown, hts⟩ (c_L_vote_2 l hflags E x A T B S U G (nI n1) true o f hy0 _) (vx_cwSW 4 hts gL_law_L_vote rfl rfl rfl hd_L_vote ⟨Nat.le_of_ble_eq_true rfl, Nat.le_of_ble_eq_true rfl⟩) (rpX (AV := [.ref x, .int (nI n1), .int 1, .ref o]) hw hK hG hZ hA rp_86) rfl rfl hl.1 rfl (lv_room (Nat.le_of_ble_eq_true rfl)) dL_law_677 ⟨(show cells + 2 ≤ 1033879 by omega), (show slots + 12 ≤ 5994467 by omega)⟩) hw hA rp_86 rp_86 (fun H locs ce9 q9 t_1 hw hy1 hy2 hy3 => absurd rfl t_1) (fun H locs t_1 hw => ?_)
  refine lv_istore (lv' := [(5, .int 2), (0, .ref b), (1, .ref x), (2, .ref (M 0)), (3, .ref o), (4, .int (nI i))]) hx hb dL_law_680 hl (by decide) rfl (fun ls hl => ?_)
  refine lv_aload_n hx hb dL_law_682 rfl (lv_at hl 3 rfl) ?_
  refine lv_aload_n hx hb dL_law_683 rfl (lv_at hl 1 rfl) ?_
  refine lv_iload hx hb dL_law_684 (lv_at hl 5 rfl) ?_
  refine lv_iconst (v := 1) hx hb dL_law_686 (by decide) ?_
  refine k_iaddN (a := i) (b := 1) hx hb dL_law_687 ?_
  refine k_sldv (i := i + 1) (v := nI n1) hx hb hX hbl hw (by omega) (by omega) e1 dL_law_688 ?_
  refine lv_aload_n hx hb dL_law_689 rfl (lv_at hl 1 rfl) ?_
  refine lv_iload hx hb dL_law_690 (lv_at hl 5 rfl) ?_
  refine lv_iconst (v := 2) hx hb dL_law_692 (by decide) ?_
  refine k_iaddN (a := i) (b := 2) hx hb dL_law_693 ?_
  refine k_sldv (i := i + 2) (v := z2) hx hb hX hbl hw (by omega) (by omega) e2 dL_law_694 ?_
  refine lv_if_eq (tgt := 702) hx hb dL_law_695 (by decide) (fun q8 => absurd q8 hz) (fun _ => ?_)
  refine lv_iconst (v := 1) hx hb dL_law_698 (by decide) ?_
  refine lv_goto (tgt := 703) hx hb dL_law_699 (by decide) ?_
  refine kr_i (ws' := wX x A T B ++ wC E A (B 0) S ++ wC E T (B 0) U ++ wG E B G ++ [(o, aJ E 1 f)] ++ wN E M (2, Hb, a, k)) (va_runV (As := [.int (nI n1), .int 1]) (rest := []) ⟨hx, hb, hml, hown, hts⟩ (c_X3_vote_2 l E M th Hb a k n1 true hy1 hy2 hy3 hy4 hy5 hy6 _) (cwV 2 hts gL_law_X3_vote rfl rfl rfl ⟨rfl, hd_X3_vote⟩ ⟨Nat.le_of_ble_eq_true rfl, Nat.le_of_ble_eq_true rfl⟩) (pwV (ci := 3) (q0 := 22) (C := RX3) hw hK rfl rfl rfl (rpS (AV := [.ref (M 0), .int (nI n1), .int 1]) hw hK hG rp_88)) rfl rfl hl.1 rfl (lv_room (Nat.le_of_ble_eq_true rfl)) dL_law_703 ⟨(show cells + 2 + 0 ≤ 1033879 by omega), (show slots + 12 + 0 ≤ 5994467 by omega)⟩) hw hA rp_87 (fun H locs hw => ?_)
  refine lv_istore (lv' := [(6, .int 0), (5, .int 2), (0, .ref b), (1, .ref x), (2, .ref (M 0)), (3, .ref o), (4, .int (nI i))]) hx hb dL_law_706 hl (by decide) rfl (fun ls hl => ?_)
  refine lv_aload_n hx hb dL_law_708 rfl (lv_at hl 4 rfl) ?_
  refine kr_i (ws' := wX x A T B ++ wC E A (B 0) S ++ wC E T (B 0) U ++ wG E B G ++ [(o, aJ E 1 f)] ++ wN E M (2, Hb, a, k)) (va_runV (As := []) (rest := []) ⟨hx, hb, hml, hown, hts⟩ (c_X3_thrown l E M 2 Hb a k  _) (cwV 0 hts gL_law_X3_thrown rfl rfl rfl ⟨rfl, hd_X3_thrown⟩ ⟨Nat.le_of_ble_eq_true rfl, Nat.le_of_ble_eq_true rfl⟩) (pwV (ci := 3) (q0 := 22) (C := RX3) hw hK rfl rfl rfl (rpS (AV := [.ref (M 0)]) hw hK hG rp_88)) rfl rfl hl.1 rfl (lv_room (Nat.le_of_ble_eq_true rfl)) dL_law_709 ⟨(show cells + 2 + 0 ≤ 1033879 by omega), (show slots + 12 + 0 ≤ 5994467 by omega)⟩) hw hA rp_88 (fun H locs hw => ?_)
  refine lv_iload hx hb dL_law_712 (lv_at hl 1 rfl) ?_
  refine lv_icmp_eq (tgt := 719) hx hb dL_law_714 (by decide) (fun _ => ?_) (fun q8 => absurd (by decide) q8)
  refine lv_iload hx hb dL_law_719 (lv_at hl 1 rfl) ?_
  refine lv_if_ne (tgt := 736) hx hb dL_law_721 (by decide) (fun _ => ?_) (fun q8 => absurd q8 (by decide))
  refine lv_goto (tgt := 2161) hx hb dL_law_736 (by decide) ?_
  refine W.widen (k := cells + 30) (n := slots + 200) (show cells + 2 ≤ cells + 30 by omega) (show slots + 12 ≤ slots + 200 by omega) ?_
  exact kk U f 2 k _ _ _ hw (lv_sub hl [2, 3, 4, 5, 6] rfl)

set_option maxHeartbeats 4000000 in
set_option maxRecDepth 100000 in
theorem la_vote_2_f {p9 : Program} {l : Launch} {e : Env} {s9 : State} {m : MethodId} {below : List Frame} {meth : Method} {c : Code} {b L : Nat} {xs : Nat → Int32} (C0 : lw_At p9 s9 m meth c b L xs) (hflags : l.stackTraces = false) (hL : L ≤ 2048) (E : Ev) (hK : va_K E.1 vwCl (tysE E) s9) (hG : Gx s9) (hZ : Zx (aL s9) s9 s9.heap) {Q : State → Prop} (x o : Nat) (A T B M : Nat → Nat) (S U : CS) (G : HS) (th : Int32) (Hb : MH) (a k : Fn) (f : Nat → Int64) (i cells slots : Nat) (hi : i + 4 ≤ L) (n1 : Nat) (e1 : xs (i + 1) = nI n1) (z2 : Int32) (e2 : xs (i + 2) = z2) (hz : z2 = 0) (hy0 : t_vote G S (nI n1) = 2) (hy1 : n_ns Hb ≤ 5) (hy2 : n_np Hb ≤ 16) (hy3 : n_nw Hb ≤ 4) (hy4 : ∀ n1, n1 < n_np Hb → n_so Hb n1 < 5) (hy5 : n1 < n_np Hb) (hy6 : n_vo Hb n1 = false) (hc9 : cells + 30 ≤ 1033879) (hs9 : slots + 200 ≤ 5994467) (kk : ∀ (U1 : CS) (f1 : Nat → Int64) (t1 : Int32) (k1 : Fn) (H : Heap) (locs : List Loc) (ls : Array Slot), Wd E (aL s9) s9.heap (wX x A T B ++ wC E A (B 0) S ++ wC E T (B 0) U1 ++ wG E B G ++ [(o, aJ E 1 f1)] ++ wN E M (t1, Hb, a, k1)) H locs → lv_has ls 9 [(0, .ref b), (1, .ref x), (2, .ref (M 0)), (3, .ref o), (4, .int (nI i))] → W p9 l e room_1 s9 m #[Value.ref b] below meth c H locs (cells + 30) (slots + 200) Q (F0 m 2161 ls [])) {H : Heap} {locs : List Loc} {ls : Array Slot} (hw : Wd E (aL s9) s9.heap (wX x A T B ++ wC E A (B 0) S ++ wC E T (B 0) U ++ wG E B G ++ [(o, aJ E 1 f)] ++ wN E M (th, Hb, a, k)) H locs) (hl : lv_has ls 9 [(0, .ref b), (1, .ref x), (2, .ref (M 0)), (3, .ref o), (4, .int (nI i))]) : W p9 l e room_1 s9 m #[Value.ref b] below meth c H locs cells slots Q (F0 m 655 ls []) := by
  obtain ⟨hx, hb, hr, hml, hown, hts0, hX, hbl, hlocks, hgv⟩ := C0
  have hts : ∀ w ∈ wsL_law, w.before #[Value.ref b] s9 = true := fun w h => hts0 w (wsL_law_in w h)
  have hown : s9.vm.findClass RL = some m.cls := hown
  have hA : ∀ q, s9.heap.size ≤ q → aL s9 q := fun _ h => h
  refine lv_aload_n hx hb dL_law_655 rfl (lv_at hl 1 rfl) ?_
  refine lv_aload_n hx hb dL_law_656 rfl (lv_at hl 0 rfl) ?_
  refine lv_iload hx hb dL_law_657 (lv_at hl 4 rfl) ?_
  refine lv_iconst (v := 1) hx hb dL_law_659 (by decide) ?_
  refine k_iaddN (a := i) (b := 1) hx hb dL_law_660 ?_
  refine k_sldv (i := i + 1) (v := nI n1) hx hb hX hbl hw (by omega) (by omega) e1 dL_law_661 ?_
  refine lv_aload_n hx hb dL_law_662 rfl (lv_at hl 0 rfl) ?_
  refine lv_iload hx hb dL_law_663 (lv_at hl 4 rfl) ?_
  refine lv_iconst (v := 2) hx hb dL_law_665 (by decide) ?_
  refine k_iaddN (a := i) (b := 2) hx hb dL_law_666 ?_
  refine k_sldv (i := i + 2) (v := z2) hx hb hX hbl hw (by omega) (by omega) e2 dL_law_667 ?_
  refine lv_if_eq (tgt := 675) hx hb dL_law_668 (by decide) (fun _ => ?_) (fun q8 => absurd hz q8)
  refine lv_iconst (v := 0) hx hb dL_law_675 (by decide) ?_
  refine lv_aload_n hx hb dL_law_676 rfl (lv_at hl 3 rfl) ?_
  refine krx_i (ws' := wX x A T B ++ wC E A (B 0) S ++ wC E T (B 0) U ++ wG E B G ++ [(o, aJ E 1 f)] ++ wN E M (th, Hb, a, k)) (vx_runSX (As := [.ref x, .int (nI n1), .int 0, .ref o]) (rest := []) ⟨hx, hb, hml, hown, hts⟩ (c_L_vote_2 l hflags E x A T B S U G (nI n1) false o f hy0 _) (vx_cwSW 4 hts gL_law_L_vote rfl rfl rfl hd_L_vote ⟨Nat.le_of_ble_eq_true rfl, Nat.le_of_ble_eq_true rfl⟩) (rpX (AV := [.ref x, .int (nI n1), .int 0, .ref o]) hw hK hG hZ hA rp_86) rfl rfl hl.1 rfl (lv_room (Nat.le_of_ble_eq_true rfl)) dL_law_677 ⟨(show cells + 2 ≤ 1033879 by omega), (show slots + 12 ≤ 5994467 by omega)⟩) hw hA rp_86 rp_86 (fun H locs ce9 q9 t_1 hw hy1 hy2 hy3 => absurd rfl t_1) (fun H locs t_1 hw => ?_)
  refine lv_istore (lv' := [(5, .int 2), (0, .ref b), (1, .ref x), (2, .ref (M 0)), (3, .ref o), (4, .int (nI i))]) hx hb dL_law_680 hl (by decide) rfl (fun ls hl => ?_)
  refine lv_aload_n hx hb dL_law_682 rfl (lv_at hl 3 rfl) ?_
  refine lv_aload_n hx hb dL_law_683 rfl (lv_at hl 1 rfl) ?_
  refine lv_iload hx hb dL_law_684 (lv_at hl 5 rfl) ?_
  refine lv_iconst (v := 1) hx hb dL_law_686 (by decide) ?_
  refine k_iaddN (a := i) (b := 1) hx hb dL_law_687 ?_
  refine k_sldv (i := i + 1) (v := nI n1) hx hb hX hbl hw (by omega) (by omega) e1 dL_law_688 ?_
  refine lv_aload_n hx hb dL_law_689 rfl (lv_at hl 1 rfl) ?_
  refine lv_iload hx hb dL_law_690 (lv_at hl 5 rfl) ?_
  refine lv_iconst (v := 2) hx hb dL_law_692 (by decide) ?_
  refine k_iaddN (a := i) (b := 2) hx hb dL_law_693 ?_
  refine k_sldv (i := i + 2) (v := z2) hx hb hX hbl hw (by omega) (by omega) e2 dL_law_694 ?_
  refine lv_if_eq (tgt := 702) hx hb dL_law_695 (by decide) (fun _ => ?_) (fun q8 => absurd hz q8)
  refine lv_iconst (v := 0) hx hb dL_law_702 (by decide) ?_
  refine kr_i (ws' := wX x A T B ++ wC E A (B 0) S ++ wC E T (B 0) U ++ wG E B G ++ [(o, aJ E 1 f)] ++ wN E M (2, Hb, a, k)) (va_runV (As := [.int (nI n1), .int 0]) (rest := []) ⟨hx, hb, hml, hown, hts⟩ (c_X3_vote_2 l E M th Hb a k n1 false hy1 hy2 hy3 hy4 hy5 hy6 _) (cwV 2 hts gL_law_X3_vote rfl rfl rfl ⟨rfl, hd_X3_vote⟩ ⟨Nat.le_of_ble_eq_true rfl, Nat.le_of_ble_eq_true rfl⟩) (pwV (ci := 3) (q0 := 22) (C := RX3) hw hK rfl rfl rfl (rpS (AV := [.ref (M 0), .int (nI n1), .int 0]) hw hK hG rp_88)) rfl rfl hl.1 rfl (lv_room (Nat.le_of_ble_eq_true rfl)) dL_law_703 ⟨(show cells + 2 + 0 ≤ 1033879 by omega), (show slots + 12 + 0 ≤ 5994467 by omega)⟩) hw hA rp_87 (fun H locs hw => ?_)
  refine lv_istore (lv' := [(6, .int 0), (5, .int 2), (0, .ref b), (1, .ref x), (2, .ref (M 0)), (3, .ref o), (4, .int (nI i))]) hx hb dL_law_706 hl (by decide) rfl (fun ls hl => ?_)
  refine lv_aload_n hx hb dL_law_708 rfl (lv_at hl 4 rfl) ?_
  refine kr_i (ws' := wX x A T B ++ wC E A (B 0) S ++ wC E T (B 0) U ++ wG E B G ++ [(o, aJ E 1 f)] ++ wN E M (2, Hb, a, k)) (va_runV (As := []) (rest := []) ⟨hx, hb, hml, hown, hts⟩ (c_X3_thrown l E M 2 Hb a k  _) (cwV 0 hts gL_law_X3_thrown rfl rfl rfl ⟨rfl, hd_X3_thrown⟩ ⟨Nat.le_of_ble_eq_true rfl, Nat.le_of_ble_eq_true rfl⟩) (pwV (ci := 3) (q0 := 22) (C := RX3) hw hK rfl rfl rfl (rpS (AV := [.ref (M 0)]) hw hK hG rp_88)) rfl rfl hl.1 rfl (lv_room (Nat.le_of_ble_eq_true rfl)) dL_law_709 ⟨(show cells + 2 + 0 ≤ 1033879 by omega), (show slots + 12 + 0 ≤ 5994467 by omega)⟩) hw hA rp_88 (fun H locs hw => ?_)
  refine lv_iload hx hb dL_law_712 (lv_at hl 1 rfl) ?_
  refine lv_icmp_eq (tgt := 719) hx hb dL_law_714 (by decide) (fun _ => ?_) (fun q8 => absurd (by decide) q8)
  refine lv_iload hx hb dL_law_719 (lv_at hl 1 rfl) ?_
  refine lv_if_ne (tgt := 736) hx hb dL_law_721 (by decide) (fun _ => ?_) (fun q8 => absurd q8 (by decide))
  refine lv_goto (tgt := 2161) hx hb dL_law_736 (by decide) ?_
  refine W.widen (k := cells + 30) (n := slots + 200) (show cells + 2 ≤ cells + 30 by omega) (show slots + 12 ≤ slots + 200 by omega) ?_
  exact kk U f 2 k _ _ _ hw (lv_sub hl [2, 3, 4, 5, 6] rfl)

set_option maxHeartbeats 4000000 in
set_option maxRecDepth 100000 in
theorem la_vote_2b_t {p9 : Program} {l : Launch} {e : Env} {s9 : State} {m : MethodId} {below : List Frame} {meth : Method} {c : Code} {b L : Nat} {xs : Nat → Int32} (C0 : lw_At p9 s9 m meth c b L xs) (hflags : l.stackTraces = false) (hL : L ≤ 2048) (E : Ev) (hK : va_K E.1 vwCl (tysE E) s9) (hG : Gx s9) (hZ : Zx (aL s9) s9 s9.heap) {Q : State → Prop} (x o : Nat) (A T B M : Nat → Nat) (S U : CS) (G : HS) (th : Int32) (Hb : MH) (a k : Fn) (f : Nat → Int64) (i cells slots : Nat) (hi : i + 4 ≤ L) (n1 : Nat) (e1 : xs (i + 1) = nI n1) (z2 : Int32) (e2 : xs (i + 2) = z2) (hz : ¬ z2 = 0) (hy0 : t_vote G S (nI n1) = 2) (hy1 : n_ns Hb ≤ 5) (hy2 : n_np Hb ≤ 16) (hy3 : n_nw Hb ≤ 4) (hy4 : ∀ n1, n1 < n_np Hb → n_so Hb n1 < 5) (hy5 : n1 < n_np Hb) (hy6 : n_vo Hb n1 = true) (hy7 : d_out a (n_so Hb n1) = false) (hc9 : cells + 30 ≤ 1033879) (hs9 : slots + 200 ≤ 5994467) (kk : ∀ (U1 : CS) (f1 : Nat → Int64) (t1 : Int32) (k1 : Fn) (H : Heap) (locs : List Loc) (ls : Array Slot), Wd E (aL s9) s9.heap (wX x A T B ++ wC E A (B 0) S ++ wC E T (B 0) U1 ++ wG E B G ++ [(o, aJ E 1 f1)] ++ wN E M (t1, Hb, a, k1)) H locs → lv_has ls 9 [(0, .ref b), (1, .ref x), (2, .ref (M 0)), (3, .ref o), (4, .int (nI i))] → W p9 l e room_1 s9 m #[Value.ref b] below meth c H locs (cells + 30) (slots + 200) Q (F0 m 2161 ls [])) {H : Heap} {locs : List Loc} {ls : Array Slot} (hw : Wd E (aL s9) s9.heap (wX x A T B ++ wC E A (B 0) S ++ wC E T (B 0) U ++ wG E B G ++ [(o, aJ E 1 f)] ++ wN E M (th, Hb, a, k)) H locs) (hl : lv_has ls 9 [(0, .ref b), (1, .ref x), (2, .ref (M 0)), (3, .ref o), (4, .int (nI i))]) : W p9 l e room_1 s9 m #[Value.ref b] below meth c H locs cells slots Q (F0 m 655 ls []) := by
  obtain ⟨hx, hb, hr, hml, hown, hts0, hX, hbl, hlocks, hgv⟩ := C0
  have hts : ∀ w ∈ wsL_law, w.before #[Value.ref b] s9 = true := fun w h => hts0 w (wsL_law_in w h)
  have hown : s9.vm.findClass RL = some m.cls := hown
  have hA : ∀ q, s9.heap.size ≤ q → aL s9 q := fun _ h => h
  refine lv_aload_n hx hb dL_law_655 rfl (lv_at hl 1 rfl) ?_
  refine lv_aload_n hx hb dL_law_656 rfl (lv_at hl 0 rfl) ?_
  refine lv_iload hx hb dL_law_657 (lv_at hl 4 rfl) ?_
  refine lv_iconst (v := 1) hx hb dL_law_659 (by decide) ?_
  refine k_iaddN (a := i) (b := 1) hx hb dL_law_660 ?_
  refine k_sldv (i := i + 1) (v := nI n1) hx hb hX hbl hw (by omega) (by omega) e1 dL_law_661 ?_
  refine lv_aload_n hx hb dL_law_662 rfl (lv_at hl 0 rfl) ?_
  refine lv_iload hx hb dL_law_663 (lv_at hl 4 rfl) ?_
  refine lv_iconst (v := 2) hx hb dL_law_665 (by decide) ?_
  refine k_iaddN (a := i) (b := 2) hx hb dL_law_666 ?_
  refine k_sldv (i := i + 2) (v := z2) hx hb hX hbl hw (by omega) (by omega) e2 dL_law_667 ?_
  refine lv_if_eq (tgt := 675) hx hb dL_law_668 (by decide) (fun q8 => absurd q8 hz) (fun _ => ?_)
  refine lv_iconst (v := 1) hx hb dL_law_671 (by decide) ?_
  refine lv_goto (tgt := 676) hx hb dL_law_672 (by decide) ?_
  refine lv_aload_n hx hb dL_law_676 rfl (lv_at hl 3 rfl) ?_
  refine krx_i (ws' := wX x A T B ++ wC E A (B 0) S ++ wC E T (B 0) U ++ wG E B G ++ [(o, aJ E 1 f)] ++ wN E M (th, Hb, a, k)) (vx_runSX (As := [.ref x, .int (nI n1), .int 1, .ref o]) (rest := []) ⟨hx, hb, hml, hown, hts⟩ (c_L_vote_2 l hflags E x A T B S U G (nI n1) true o f hy0 _) (vx_cwSW 4 hts gL_law_L_vote rfl rfl rfl hd_L_vote ⟨Nat.le_of_ble_eq_true rfl, Nat.le_of_ble_eq_true rfl⟩) (rpX (AV := [.ref x, .int (nI n1), .int 1, .ref o]) hw hK hG hZ hA rp_86) rfl rfl hl.1 rfl (lv_room (Nat.le_of_ble_eq_true rfl)) dL_law_677 ⟨(show cells + 2 ≤ 1033879 by omega), (show slots + 12 ≤ 5994467 by omega)⟩) hw hA rp_86 rp_86 (fun H locs ce9 q9 t_1 hw hy1 hy2 hy3 => absurd rfl t_1) (fun H locs t_1 hw => ?_)
  refine lv_istore (lv' := [(5, .int 2), (0, .ref b), (1, .ref x), (2, .ref (M 0)), (3, .ref o), (4, .int (nI i))]) hx hb dL_law_680 hl (by decide) rfl (fun ls hl => ?_)
  refine lv_aload_n hx hb dL_law_682 rfl (lv_at hl 3 rfl) ?_
  refine lv_aload_n hx hb dL_law_683 rfl (lv_at hl 1 rfl) ?_
  refine lv_iload hx hb dL_law_684 (lv_at hl 5 rfl) ?_
  refine lv_iconst (v := 1) hx hb dL_law_686 (by decide) ?_
  refine k_iaddN (a := i) (b := 1) hx hb dL_law_687 ?_
  refine k_sldv (i := i + 1) (v := nI n1) hx hb hX hbl hw (by omega) (by omega) e1 dL_law_688 ?_
  refine lv_aload_n hx hb dL_law_689 rfl (lv_at hl 1 rfl) ?_
  refine lv_iload hx hb dL_law_690 (lv_at hl 5 rfl) ?_
  refine lv_iconst (v := 2) hx hb dL_law_692 (by decide) ?_
  refine k_iaddN (a := i) (b := 2) hx hb dL_law_693 ?_
  refine k_sldv (i := i + 2) (v := z2) hx hb hX hbl hw (by omega) (by omega) e2 dL_law_694 ?_
  refine lv_if_eq (tgt := 702) hx hb dL_law_695 (by decide) (fun q8 => absurd q8 hz) (fun _ => ?_)
  refine lv_iconst (v := 1) hx hb dL_law_698 (by decide) ?_
  refine lv_goto (tgt := 703) hx hb dL_law_699 (by decide) ?_
  refine kr_i (ws' := wX x A T B ++ wC E A (B 0) S ++ wC E T (B 0) U ++ wG E B G ++ [(o, aJ E 1 f)] ++ wN E M (2, Hb, a, k)) (va_runV (As := [.int (nI n1), .int 1]) (rest := []) ⟨hx, hb, hml, hown, hts⟩ (c_X3_vote_2b l E M th Hb a k n1 true hy1 hy2 hy3 hy4 hy5 hy6 hy7 _) (cwV 2 hts gL_law_X3_vote rfl rfl rfl ⟨rfl, hd_X3_vote⟩ ⟨Nat.le_of_ble_eq_true rfl, Nat.le_of_ble_eq_true rfl⟩) (pwV (ci := 3) (q0 := 22) (C := RX3) hw hK rfl rfl rfl (rpS (AV := [.ref (M 0), .int (nI n1), .int 1]) hw hK hG rp_88)) rfl rfl hl.1 rfl (lv_room (Nat.le_of_ble_eq_true rfl)) dL_law_703 ⟨(show cells + 2 + 0 ≤ 1033879 by omega), (show slots + 12 + 0 ≤ 5994467 by omega)⟩) hw hA rp_87 (fun H locs hw => ?_)
  refine lv_istore (lv' := [(6, .int 0), (5, .int 2), (0, .ref b), (1, .ref x), (2, .ref (M 0)), (3, .ref o), (4, .int (nI i))]) hx hb dL_law_706 hl (by decide) rfl (fun ls hl => ?_)
  refine lv_aload_n hx hb dL_law_708 rfl (lv_at hl 4 rfl) ?_
  refine kr_i (ws' := wX x A T B ++ wC E A (B 0) S ++ wC E T (B 0) U ++ wG E B G ++ [(o, aJ E 1 f)] ++ wN E M (2, Hb, a, k)) (va_runV (As := []) (rest := []) ⟨hx, hb, hml, hown, hts⟩ (c_X3_thrown l E M 2 Hb a k  _) (cwV 0 hts gL_law_X3_thrown rfl rfl rfl ⟨rfl, hd_X3_thrown⟩ ⟨Nat.le_of_ble_eq_true rfl, Nat.le_of_ble_eq_true rfl⟩) (pwV (ci := 3) (q0 := 22) (C := RX3) hw hK rfl rfl rfl (rpS (AV := [.ref (M 0)]) hw hK hG rp_88)) rfl rfl hl.1 rfl (lv_room (Nat.le_of_ble_eq_true rfl)) dL_law_709 ⟨(show cells + 2 + 0 ≤ 1033879 by omega), (show slots + 12 + 0 ≤ 5994467 by omega)⟩) hw hA rp_88 (fun H locs hw => ?_)
  refine lv_iload hx hb dL_law_712 (lv_at hl 1 rfl) ?_
  refine lv_icmp_eq (tgt := 719) hx hb dL_law_714 (by decide) (fun _ => ?_) (fun q8 => absurd (by decide) q8)
  refine lv_iload hx hb dL_law_719 (lv_at hl 1 rfl) ?_
  refine lv_if_ne (tgt := 736) hx hb dL_law_721 (by decide) (fun _ => ?_) (fun q8 => absurd q8 (by decide))
  refine lv_goto (tgt := 2161) hx hb dL_law_736 (by decide) ?_
  refine W.widen (k := cells + 30) (n := slots + 200) (show cells + 2 ≤ cells + 30 by omega) (show slots + 12 ≤ slots + 200 by omega) ?_
  exact kk U f 2 k _ _ _ hw (lv_sub hl [2, 3, 4, 5, 6] rfl)

set_option maxHeartbeats 4000000 in
set_option maxRecDepth 100000 in
theorem la_vote_2b_f {p9 : Program} {l : Launch} {e : Env} {s9 : State} {m : MethodId} {below : List Frame} {meth : Method} {c : Code} {b L : Nat} {xs : Nat → Int32} (C0 : lw_At p9 s9 m meth c b L xs) (hflags : l.stackTraces = false) (hL : L ≤ 2048) (E : Ev) (hK : va_K E.1 vwCl (tysE E) s9) (hG : Gx s9) (hZ : Zx (aL s9) s9 s9.heap) {Q : State → Prop} (x o : Nat) (A T B M : Nat → Nat) (S U : CS) (G : HS) (th : Int32) (Hb : MH) (a k : Fn) (f : Nat → Int64) (i cells slots : Nat) (hi : i + 4 ≤ L) (n1 : Nat) (e1 : xs (i + 1) = nI n1) (z2 : Int32) (e2 : xs (i + 2) = z2) (hz : z2 = 0) (hy0 : t_vote G S (nI n1) = 2) (hy1 : n_ns Hb ≤ 5) (hy2 : n_np Hb ≤ 16) (hy3 : n_nw Hb ≤ 4) (hy4 : ∀ n1, n1 < n_np Hb → n_so Hb n1 < 5) (hy5 : n1 < n_np Hb) (hy6 : n_vo Hb n1 = true) (hy7 : d_out a (n_so Hb n1) = false) (hc9 : cells + 30 ≤ 1033879) (hs9 : slots + 200 ≤ 5994467) (kk : ∀ (U1 : CS) (f1 : Nat → Int64) (t1 : Int32) (k1 : Fn) (H : Heap) (locs : List Loc) (ls : Array Slot), Wd E (aL s9) s9.heap (wX x A T B ++ wC E A (B 0) S ++ wC E T (B 0) U1 ++ wG E B G ++ [(o, aJ E 1 f1)] ++ wN E M (t1, Hb, a, k1)) H locs → lv_has ls 9 [(0, .ref b), (1, .ref x), (2, .ref (M 0)), (3, .ref o), (4, .int (nI i))] → W p9 l e room_1 s9 m #[Value.ref b] below meth c H locs (cells + 30) (slots + 200) Q (F0 m 2161 ls [])) {H : Heap} {locs : List Loc} {ls : Array Slot} (hw : Wd E (aL s9) s9.heap (wX x A T B ++ wC E A (B 0) S ++ wC E T (B 0) U ++ wG E B G ++ [(o, aJ E 1 f)] ++ wN E M (th, Hb, a, k)) H locs) (hl : lv_has ls 9 [(0, .ref b), (1, .ref x), (2, .ref (M 0)), (3, .ref o), (4, .int (nI i))]) : W p9 l e room_1 s9 m #[Value.ref b] below meth c H locs cells slots Q (F0 m 655 ls []) := by
  obtain ⟨hx, hb, hr, hml, hown, hts0, hX, hbl, hlocks, hgv⟩ := C0
  have hts : ∀ w ∈ wsL_law, w.before #[Value.ref b] s9 = true := fun w h => hts0 w (wsL_law_in w h)
  have hown : s9.vm.findClass RL = some m.cls := hown
  have hA : ∀ q, s9.heap.size ≤ q → aL s9 q := fun _ h => h
  refine lv_aload_n hx hb dL_law_655 rfl (lv_at hl 1 rfl) ?_
  refine lv_aload_n hx hb dL_law_656 rfl (lv_at hl 0 rfl) ?_
  refine lv_iload hx hb dL_law_657 (lv_at hl 4 rfl) ?_
  refine lv_iconst (v := 1) hx hb dL_law_659 (by decide) ?_
  refine k_iaddN (a := i) (b := 1) hx hb dL_law_660 ?_
  refine k_sldv (i := i + 1) (v := nI n1) hx hb hX hbl hw (by omega) (by omega) e1 dL_law_661 ?_
  refine lv_aload_n hx hb dL_law_662 rfl (lv_at hl 0 rfl) ?_
  refine lv_iload hx hb dL_law_663 (lv_at hl 4 rfl) ?_
  refine lv_iconst (v := 2) hx hb dL_law_665 (by decide) ?_
  refine k_iaddN (a := i) (b := 2) hx hb dL_law_666 ?_
  refine k_sldv (i := i + 2) (v := z2) hx hb hX hbl hw (by omega) (by omega) e2 dL_law_667 ?_
  refine lv_if_eq (tgt := 675) hx hb dL_law_668 (by decide) (fun _ => ?_) (fun q8 => absurd hz q8)
  refine lv_iconst (v := 0) hx hb dL_law_675 (by decide) ?_
  refine lv_aload_n hx hb dL_law_676 rfl (lv_at hl 3 rfl) ?_
  refine krx_i (ws' := wX x A T B ++ wC E A (B 0) S ++ wC E T (B 0) U ++ wG E B G ++ [(o, aJ E 1 f)] ++ wN E M (th, Hb, a, k)) (vx_runSX (As := [.ref x, .int (nI n1), .int 0, .ref o]) (rest := []) ⟨hx, hb, hml, hown, hts⟩ (c_L_vote_2 l hflags E x A T B S U G (nI n1) false o f hy0 _) (vx_cwSW 4 hts gL_law_L_vote rfl rfl rfl hd_L_vote ⟨Nat.le_of_ble_eq_true rfl, Nat.le_of_ble_eq_true rfl⟩) (rpX (AV := [.ref x, .int (nI n1), .int 0, .ref o]) hw hK hG hZ hA rp_86) rfl rfl hl.1 rfl (lv_room (Nat.le_of_ble_eq_true rfl)) dL_law_677 ⟨(show cells + 2 ≤ 1033879 by omega), (show slots + 12 ≤ 5994467 by omega)⟩) hw hA rp_86 rp_86 (fun H locs ce9 q9 t_1 hw hy1 hy2 hy3 => absurd rfl t_1) (fun H locs t_1 hw => ?_)
  refine lv_istore (lv' := [(5, .int 2), (0, .ref b), (1, .ref x), (2, .ref (M 0)), (3, .ref o), (4, .int (nI i))]) hx hb dL_law_680 hl (by decide) rfl (fun ls hl => ?_)
  refine lv_aload_n hx hb dL_law_682 rfl (lv_at hl 3 rfl) ?_
  refine lv_aload_n hx hb dL_law_683 rfl (lv_at hl 1 rfl) ?_
  refine lv_iload hx hb dL_law_684 (lv_at hl 5 rfl) ?_
  refine lv_iconst (v := 1) hx hb dL_law_686 (by decide) ?_
  refine k_iaddN (a := i) (b := 1) hx hb dL_law_687 ?_
  refine k_sldv (i := i + 1) (v := nI n1) hx hb hX hbl hw (by omega) (by omega) e1 dL_law_688 ?_
  refine lv_aload_n hx hb dL_law_689 rfl (lv_at hl 1 rfl) ?_
  refine lv_iload hx hb dL_law_690 (lv_at hl 5 rfl) ?_
  refine lv_iconst (v := 2) hx hb dL_law_692 (by decide) ?_
  refine k_iaddN (a := i) (b := 2) hx hb dL_law_693 ?_
  refine k_sldv (i := i + 2) (v := z2) hx hb hX hbl hw (by omega) (by omega) e2 dL_law_694 ?_
  refine lv_if_eq (tgt := 702) hx hb dL_law_695 (by decide) (fun _ => ?_) (fun q8 => absurd hz q8)
  refine lv_iconst (v := 0) hx hb dL_law_702 (by decide) ?_
  refine kr_i (ws' := wX x A T B ++ wC E A (B 0) S ++ wC E T (B 0) U ++ wG E B G ++ [(o, aJ E 1 f)] ++ wN E M (2, Hb, a, k)) (va_runV (As := [.int (nI n1), .int 0]) (rest := []) ⟨hx, hb, hml, hown, hts⟩ (c_X3_vote_2b l E M th Hb a k n1 false hy1 hy2 hy3 hy4 hy5 hy6 hy7 _) (cwV 2 hts gL_law_X3_vote rfl rfl rfl ⟨rfl, hd_X3_vote⟩ ⟨Nat.le_of_ble_eq_true rfl, Nat.le_of_ble_eq_true rfl⟩) (pwV (ci := 3) (q0 := 22) (C := RX3) hw hK rfl rfl rfl (rpS (AV := [.ref (M 0), .int (nI n1), .int 0]) hw hK hG rp_88)) rfl rfl hl.1 rfl (lv_room (Nat.le_of_ble_eq_true rfl)) dL_law_703 ⟨(show cells + 2 + 0 ≤ 1033879 by omega), (show slots + 12 + 0 ≤ 5994467 by omega)⟩) hw hA rp_87 (fun H locs hw => ?_)
  refine lv_istore (lv' := [(6, .int 0), (5, .int 2), (0, .ref b), (1, .ref x), (2, .ref (M 0)), (3, .ref o), (4, .int (nI i))]) hx hb dL_law_706 hl (by decide) rfl (fun ls hl => ?_)
  refine lv_aload_n hx hb dL_law_708 rfl (lv_at hl 4 rfl) ?_
  refine kr_i (ws' := wX x A T B ++ wC E A (B 0) S ++ wC E T (B 0) U ++ wG E B G ++ [(o, aJ E 1 f)] ++ wN E M (2, Hb, a, k)) (va_runV (As := []) (rest := []) ⟨hx, hb, hml, hown, hts⟩ (c_X3_thrown l E M 2 Hb a k  _) (cwV 0 hts gL_law_X3_thrown rfl rfl rfl ⟨rfl, hd_X3_thrown⟩ ⟨Nat.le_of_ble_eq_true rfl, Nat.le_of_ble_eq_true rfl⟩) (pwV (ci := 3) (q0 := 22) (C := RX3) hw hK rfl rfl rfl (rpS (AV := [.ref (M 0)]) hw hK hG rp_88)) rfl rfl hl.1 rfl (lv_room (Nat.le_of_ble_eq_true rfl)) dL_law_709 ⟨(show cells + 2 + 0 ≤ 1033879 by omega), (show slots + 12 + 0 ≤ 5994467 by omega)⟩) hw hA rp_88 (fun H locs hw => ?_)
  refine lv_iload hx hb dL_law_712 (lv_at hl 1 rfl) ?_
  refine lv_icmp_eq (tgt := 719) hx hb dL_law_714 (by decide) (fun _ => ?_) (fun q8 => absurd (by decide) q8)
  refine lv_iload hx hb dL_law_719 (lv_at hl 1 rfl) ?_
  refine lv_if_ne (tgt := 736) hx hb dL_law_721 (by decide) (fun _ => ?_) (fun q8 => absurd q8 (by decide))
  refine lv_goto (tgt := 2161) hx hb dL_law_736 (by decide) ?_
  refine W.widen (k := cells + 30) (n := slots + 200) (show cells + 2 ≤ cells + 30 by omega) (show slots + 12 ≤ slots + 200 by omega) ?_
  exact kk U f 2 k _ _ _ hw (lv_sub hl [2, 3, 4, 5, 6] rfl)

set_option maxHeartbeats 4000000 in
set_option maxRecDepth 100000 in
theorem la_vote_t {p9 : Program} {l : Launch} {e : Env} {s9 : State} {m : MethodId} {below : List Frame} {meth : Method} {c : Code} {b L : Nat} {xs : Nat → Int32} (C0 : lw_At p9 s9 m meth c b L xs) (hflags : l.stackTraces = false) (hL : L ≤ 2048) (E : Ev) (hK : va_K E.1 vwCl (tysE E) s9) (hG : Gx s9) (hZ : Zx (aL s9) s9 s9.heap) {Q : State → Prop} (x o : Nat) (A T B M : Nat → Nat) (S U : CS) (G : HS) (th : Int32) (Hb : MH) (a k : Fn) (f : Nat → Int64) (i cells slots : Nat) (hi : i + 4 ≤ L) (n1 : Nat) (e1 : xs (i + 1) = nI n1) (z2 : Int32) (e2 : xs (i + 2) = z2) (hz : ¬ z2 = 0) (hy0 : t_vote G S (nI n1) = 0) (hy1 : n_ns Hb ≤ 5) (hy2 : n_np Hb ≤ 16) (hy3 : n_nw Hb ≤ 4) (hy4 : ∀ n1, n1 < n_np Hb → n_so Hb n1 < 5) (hy5 : n1 < n_np Hb) (hy6 : n_vo Hb n1 = true) (hy7 : d_out a (n_so Hb n1) = true) (hy8 : (f_votes (f_vote G (nI n1) true) (f_ship G (nI n1)) : Int32).toInt64 = (l_mvo Hb (r_vote a n1 true) (n_so Hb n1) true (n_np Hb) : Int32).toInt64) (hc9 : cells + 30 ≤ 1033879) (hs9 : slots + 200 ≤ 5994467) (kk : ∀ (U1 : CS) (f1 : Nat → Int64) (t1 : Int32) (k1 : Fn) (H : Heap) (locs : List Loc) (ls : Array Slot), Wd E (aL s9) s9.heap (wX x A T B ++ wC E A (B 0) S ++ wC E T (B 0) U1 ++ wG E B (f_vote G (nI n1) true) ++ [(o, aJ E 1 f1)] ++ wN E M (t1, Hb, r_vote a n1 true, k1)) H locs → lv_has ls 9 [(0, .ref b), (1, .ref x), (2, .ref (M 0)), (3, .ref o), (4, .int (nI i))] → W p9 l e room_1 s9 m #[Value.ref b] below meth c H locs (cells + 30) (slots + 200) Q (F0 m 2161 ls [])) {H : Heap} {locs : List Loc} {ls : Array Slot} (hw : Wd E (aL s9) s9.heap (wX x A T B ++ wC E A (B 0) S ++ wC E T (B 0) U ++ wG E B G ++ [(o, aJ E 1 f)] ++ wN E M (th, Hb, a, k)) H locs) (hl : lv_has ls 9 [(0, .ref b), (1, .ref x), (2, .ref (M 0)), (3, .ref o), (4, .int (nI i))]) : W p9 l e room_1 s9 m #[Value.ref b] below meth c H locs cells slots Q (F0 m 655 ls []) := by
  obtain ⟨hx, hb, hr, hml, hown, hts0, hX, hbl, hlocks, hgv⟩ := C0
  have hts : ∀ w ∈ wsL_law, w.before #[Value.ref b] s9 = true := fun w h => hts0 w (wsL_law_in w h)
  have hown : s9.vm.findClass RL = some m.cls := hown
  have hA : ∀ q, s9.heap.size ≤ q → aL s9 q := fun _ h => h
  refine lv_aload_n hx hb dL_law_655 rfl (lv_at hl 1 rfl) ?_
  refine lv_aload_n hx hb dL_law_656 rfl (lv_at hl 0 rfl) ?_
  refine lv_iload hx hb dL_law_657 (lv_at hl 4 rfl) ?_
  refine lv_iconst (v := 1) hx hb dL_law_659 (by decide) ?_
  refine k_iaddN (a := i) (b := 1) hx hb dL_law_660 ?_
  refine k_sldv (i := i + 1) (v := nI n1) hx hb hX hbl hw (by omega) (by omega) e1 dL_law_661 ?_
  refine lv_aload_n hx hb dL_law_662 rfl (lv_at hl 0 rfl) ?_
  refine lv_iload hx hb dL_law_663 (lv_at hl 4 rfl) ?_
  refine lv_iconst (v := 2) hx hb dL_law_665 (by decide) ?_
  refine k_iaddN (a := i) (b := 2) hx hb dL_law_666 ?_
  refine k_sldv (i := i + 2) (v := z2) hx hb hX hbl hw (by omega) (by omega) e2 dL_law_667 ?_
  refine lv_if_eq (tgt := 675) hx hb dL_law_668 (by decide) (fun q8 => absurd q8 hz) (fun _ => ?_)
  refine lv_iconst (v := 1) hx hb dL_law_671 (by decide) ?_
  refine lv_goto (tgt := 676) hx hb dL_law_672 (by decide) ?_
  refine lv_aload_n hx hb dL_law_676 rfl (lv_at hl 3 rfl) ?_
  refine krx_i (ws' := wX x A T B ++ wC E A (B 0) S ++ wC E T (B 0) U ++ wG E B (f_vote G (nI n1) true) ++ [(o, aJ E 1 (vp_updL f 0 ((f_votes (f_vote G (nI n1) true) (f_ship G (nI n1)) : Int32).toInt64)))] ++ wN E M (th, Hb, a, k)) (vx_runSX (As := [.ref x, .int (nI n1), .int 1, .ref o]) (rest := []) ⟨hx, hb, hml, hown, hts⟩ (c_L_vote l hflags E x A T B S U G (nI n1) true o f hy0 _) (vx_cwSW 4 hts gL_law_L_vote rfl rfl rfl hd_L_vote ⟨Nat.le_of_ble_eq_true rfl, Nat.le_of_ble_eq_true rfl⟩) (rpX (AV := [.ref x, .int (nI n1), .int 1, .ref o]) hw hK hG hZ hA rp_86) rfl rfl hl.1 rfl (lv_room (Nat.le_of_ble_eq_true rfl)) dL_law_677 ⟨(show cells + 2 ≤ 1033879 by omega), (show slots + 12 ≤ 5994467 by omega)⟩) hw hA rp_89 rp_86 (fun H locs ce9 q9 t_1 hw hy1 hy2 hy3 => absurd rfl t_1) (fun H locs t_1 hw => ?_)
  refine lv_istore (lv' := [(5, .int 0), (0, .ref b), (1, .ref x), (2, .ref (M 0)), (3, .ref o), (4, .int (nI i))]) hx hb dL_law_680 hl (by decide) rfl (fun ls hl => ?_)
  refine lv_aload_n hx hb dL_law_682 rfl (lv_at hl 3 rfl) ?_
  refine lv_aload_n hx hb dL_law_683 rfl (lv_at hl 1 rfl) ?_
  refine lv_iload hx hb dL_law_684 (lv_at hl 5 rfl) ?_
  refine lv_iconst (v := 1) hx hb dL_law_686 (by decide) ?_
  refine k_iaddN (a := i) (b := 1) hx hb dL_law_687 ?_
  refine k_sldv (i := i + 1) (v := nI n1) hx hb hX hbl hw (by omega) (by omega) e1 dL_law_688 ?_
  refine lv_aload_n hx hb dL_law_689 rfl (lv_at hl 1 rfl) ?_
  refine lv_iload hx hb dL_law_690 (lv_at hl 5 rfl) ?_
  refine lv_iconst (v := 2) hx hb dL_law_692 (by decide) ?_
  refine k_iaddN (a := i) (b := 2) hx hb dL_law_693 ?_
  refine k_sldv (i := i + 2) (v := z2) hx hb hX hbl hw (by omega) (by omega) e2 dL_law_694 ?_
  refine lv_if_eq (tgt := 702) hx hb dL_law_695 (by decide) (fun q8 => absurd q8 hz) (fun _ => ?_)
  refine lv_iconst (v := 1) hx hb dL_law_698 (by decide) ?_
  refine lv_goto (tgt := 703) hx hb dL_law_699 (by decide) ?_
  refine kr_i (ws' := wX x A T B ++ wC E A (B 0) S ++ wC E T (B 0) U ++ wG E B (f_vote G (nI n1) true) ++ [(o, aJ E 1 (vp_updL f 0 ((f_votes (f_vote G (nI n1) true) (f_ship G (nI n1)) : Int32).toInt64)))] ++ wN E M (0, Hb, r_vote a n1 true, k)) (va_runV (As := [.int (nI n1), .int 1]) (rest := []) ⟨hx, hb, hml, hown, hts⟩ (c_X3_vote l E M th Hb a k n1 true hy1 hy2 hy3 hy4 hy5 hy6 hy7 _) (cwV 2 hts gL_law_X3_vote rfl rfl rfl ⟨rfl, hd_X3_vote⟩ ⟨Nat.le_of_ble_eq_true rfl, Nat.le_of_ble_eq_true rfl⟩) (pwV (ci := 3) (q0 := 22) (C := RX3) hw hK rfl rfl rfl (rpS (AV := [.ref (M 0), .int (nI n1), .int 1]) hw hK hG rp_88)) rfl rfl hl.1 rfl (lv_room (Nat.le_of_ble_eq_true rfl)) dL_law_703 ⟨(show cells + 2 + 0 ≤ 1033879 by omega), (show slots + 12 + 0 ≤ 5994467 by omega)⟩) hw hA rp_87 (fun H locs hw => ?_)
  refine lv_istore (lv' := [(6, .int (l_mvo Hb (r_vote a n1 true) (n_so Hb n1) true (n_np Hb))), (5, .int 0), (0, .ref b), (1, .ref x), (2, .ref (M 0)), (3, .ref o), (4, .int (nI i))]) hx hb dL_law_706 hl (by decide) rfl (fun ls hl => ?_)
  refine lv_aload_n hx hb dL_law_708 rfl (lv_at hl 4 rfl) ?_
  refine kr_i (ws' := wX x A T B ++ wC E A (B 0) S ++ wC E T (B 0) U ++ wG E B (f_vote G (nI n1) true) ++ [(o, aJ E 1 (vp_updL f 0 ((f_votes (f_vote G (nI n1) true) (f_ship G (nI n1)) : Int32).toInt64)))] ++ wN E M (0, Hb, r_vote a n1 true, k)) (va_runV (As := []) (rest := []) ⟨hx, hb, hml, hown, hts⟩ (c_X3_thrown l E M 0 Hb (r_vote a n1 true) k  _) (cwV 0 hts gL_law_X3_thrown rfl rfl rfl ⟨rfl, hd_X3_thrown⟩ ⟨Nat.le_of_ble_eq_true rfl, Nat.le_of_ble_eq_true rfl⟩) (pwV (ci := 3) (q0 := 22) (C := RX3) hw hK rfl rfl rfl (rpS (AV := [.ref (M 0)]) hw hK hG rp_88)) rfl rfl hl.1 rfl (lv_room (Nat.le_of_ble_eq_true rfl)) dL_law_709 ⟨(show cells + 2 + 0 ≤ 1033879 by omega), (show slots + 12 + 0 ≤ 5994467 by omega)⟩) hw hA rp_88 (fun H locs hw => ?_)
  refine lv_iload hx hb dL_law_712 (lv_at hl 1 rfl) ?_
  refine lv_icmp_eq (tgt := 719) hx hb dL_law_714 (by decide) (fun _ => ?_) (fun q8 => absurd (by decide) q8)
  refine lv_iload hx hb dL_law_719 (lv_at hl 1 rfl) ?_
  refine lv_if_ne (tgt := 736) hx hb dL_law_721 (by decide) (fun q8 => absurd (by decide) q8) (fun _ => ?_)
  refine lv_aload_n hx hb dL_law_724 rfl (lv_at hl 5 rfl) ?_
  refine lv_iconst (v := 0) hx hb dL_law_725 (by decide) ?_
  refine k_lld (v := (vp_updL f 0 ((f_votes (f_vote G (nI n1) true) (f_ship G (nI n1)) : Int32).toInt64)) 0) hx hb hK hw 21 rfl (vp_in_nI (n := 0) (N := 1) (by decide) (by decide)) rfl dL_law_726 ?_
  refine lv_iload hx hb dL_law_727 (lv_at hl 0 rfl) ?_
  refine lv_i2l (v := (l_mvo Hb (r_vote a n1 true) (n_so Hb n1) true (n_np Hb) : Int32).toInt64) hx hb dL_law_729 rfl ?_
  refine k_lcmpE hx hb dL_law_730 (pk_uLs.trans hy8) ?_
  refine lv_if_eq (tgt := 736) hx hb dL_law_731 (by decide) (fun _ => ?_) (fun q8 => absurd (by decide) q8)
  refine lv_goto (tgt := 2161) hx hb dL_law_736 (by decide) ?_
  refine W.widen (k := cells + 30) (n := slots + 200) (show cells + 2 ≤ cells + 30 by omega) (show slots + 12 ≤ slots + 200 by omega) ?_
  exact kk U (vp_updL f 0 ((f_votes (f_vote G (nI n1) true) (f_ship G (nI n1)) : Int32).toInt64)) 0 k _ _ _ hw (lv_sub hl [2, 3, 4, 5, 6] rfl)

set_option maxHeartbeats 4000000 in
set_option maxRecDepth 100000 in
theorem la_vote_f {p9 : Program} {l : Launch} {e : Env} {s9 : State} {m : MethodId} {below : List Frame} {meth : Method} {c : Code} {b L : Nat} {xs : Nat → Int32} (C0 : lw_At p9 s9 m meth c b L xs) (hflags : l.stackTraces = false) (hL : L ≤ 2048) (E : Ev) (hK : va_K E.1 vwCl (tysE E) s9) (hG : Gx s9) (hZ : Zx (aL s9) s9 s9.heap) {Q : State → Prop} (x o : Nat) (A T B M : Nat → Nat) (S U : CS) (G : HS) (th : Int32) (Hb : MH) (a k : Fn) (f : Nat → Int64) (i cells slots : Nat) (hi : i + 4 ≤ L) (n1 : Nat) (e1 : xs (i + 1) = nI n1) (z2 : Int32) (e2 : xs (i + 2) = z2) (hz : z2 = 0) (hy0 : t_vote G S (nI n1) = 0) (hy1 : n_ns Hb ≤ 5) (hy2 : n_np Hb ≤ 16) (hy3 : n_nw Hb ≤ 4) (hy4 : ∀ n1, n1 < n_np Hb → n_so Hb n1 < 5) (hy5 : n1 < n_np Hb) (hy6 : n_vo Hb n1 = true) (hy7 : d_out a (n_so Hb n1) = true) (hy8 : (f_votes (f_vote G (nI n1) false) (f_ship G (nI n1)) : Int32).toInt64 = (l_mvo Hb (r_vote a n1 false) (n_so Hb n1) true (n_np Hb) : Int32).toInt64) (hc9 : cells + 30 ≤ 1033879) (hs9 : slots + 200 ≤ 5994467) (kk : ∀ (U1 : CS) (f1 : Nat → Int64) (t1 : Int32) (k1 : Fn) (H : Heap) (locs : List Loc) (ls : Array Slot), Wd E (aL s9) s9.heap (wX x A T B ++ wC E A (B 0) S ++ wC E T (B 0) U1 ++ wG E B (f_vote G (nI n1) false) ++ [(o, aJ E 1 f1)] ++ wN E M (t1, Hb, r_vote a n1 false, k1)) H locs → lv_has ls 9 [(0, .ref b), (1, .ref x), (2, .ref (M 0)), (3, .ref o), (4, .int (nI i))] → W p9 l e room_1 s9 m #[Value.ref b] below meth c H locs (cells + 30) (slots + 200) Q (F0 m 2161 ls [])) {H : Heap} {locs : List Loc} {ls : Array Slot} (hw : Wd E (aL s9) s9.heap (wX x A T B ++ wC E A (B 0) S ++ wC E T (B 0) U ++ wG E B G ++ [(o, aJ E 1 f)] ++ wN E M (th, Hb, a, k)) H locs) (hl : lv_has ls 9 [(0, .ref b), (1, .ref x), (2, .ref (M 0)), (3, .ref o), (4, .int (nI i))]) : W p9 l e room_1 s9 m #[Value.ref b] below meth c H locs cells slots Q (F0 m 655 ls []) := by
  obtain ⟨hx, hb, hr, hml, hown, hts0, hX, hbl, hlocks, hgv⟩ := C0
  have hts : ∀ w ∈ wsL_law, w.before #[Value.ref b] s9 = true := fun w h => hts0 w (wsL_law_in w h)
  have hown : s9.vm.findClass RL = some m.cls := hown
  have hA : ∀ q, s9.heap.size ≤ q → aL s9 q := fun _ h => h
  refine lv_aload_n hx hb dL_law_655 rfl (lv_at hl 1 rfl) ?_
  refine lv_aload_n hx hb dL_law_656 rfl (lv_at hl 0 rfl) ?_
  refine lv_iload hx hb dL_law_657 (lv_at hl 4 rfl) ?_
  refine lv_iconst (v := 1) hx hb dL_law_659 (by decide) ?_
  refine k_iaddN (a := i) (b := 1) hx hb dL_law_660 ?_
  refine k_sldv (i := i + 1) (v := nI n1) hx hb hX hbl hw (by omega) (by omega) e1 dL_law_661 ?_
  refine lv_aload_n hx hb dL_law_662 rfl (lv_at hl 0 rfl) ?_
  refine lv_iload hx hb dL_law_663 (lv_at hl 4 rfl) ?_
  refine lv_iconst (v := 2) hx hb dL_law_665 (by decide) ?_
  refine k_iaddN (a := i) (b := 2) hx hb dL_law_666 ?_
  refine k_sldv (i := i + 2) (v := z2) hx hb hX hbl hw (by omega) (by omega) e2 dL_law_667 ?_
  refine lv_if_eq (tgt := 675) hx hb dL_law_668 (by decide) (fun _ => ?_) (fun q8 => absurd hz q8)
  refine lv_iconst (v := 0) hx hb dL_law_675 (by decide) ?_
  refine lv_aload_n hx hb dL_law_676 rfl (lv_at hl 3 rfl) ?_
  refine krx_i (ws' := wX x A T B ++ wC E A (B 0) S ++ wC E T (B 0) U ++ wG E B (f_vote G (nI n1) false) ++ [(o, aJ E 1 (vp_updL f 0 ((f_votes (f_vote G (nI n1) false) (f_ship G (nI n1)) : Int32).toInt64)))] ++ wN E M (th, Hb, a, k)) (vx_runSX (As := [.ref x, .int (nI n1), .int 0, .ref o]) (rest := []) ⟨hx, hb, hml, hown, hts⟩ (c_L_vote l hflags E x A T B S U G (nI n1) false o f hy0 _) (vx_cwSW 4 hts gL_law_L_vote rfl rfl rfl hd_L_vote ⟨Nat.le_of_ble_eq_true rfl, Nat.le_of_ble_eq_true rfl⟩) (rpX (AV := [.ref x, .int (nI n1), .int 0, .ref o]) hw hK hG hZ hA rp_86) rfl rfl hl.1 rfl (lv_room (Nat.le_of_ble_eq_true rfl)) dL_law_677 ⟨(show cells + 2 ≤ 1033879 by omega), (show slots + 12 ≤ 5994467 by omega)⟩) hw hA rp_89 rp_86 (fun H locs ce9 q9 t_1 hw hy1 hy2 hy3 => absurd rfl t_1) (fun H locs t_1 hw => ?_)
  refine lv_istore (lv' := [(5, .int 0), (0, .ref b), (1, .ref x), (2, .ref (M 0)), (3, .ref o), (4, .int (nI i))]) hx hb dL_law_680 hl (by decide) rfl (fun ls hl => ?_)
  refine lv_aload_n hx hb dL_law_682 rfl (lv_at hl 3 rfl) ?_
  refine lv_aload_n hx hb dL_law_683 rfl (lv_at hl 1 rfl) ?_
  refine lv_iload hx hb dL_law_684 (lv_at hl 5 rfl) ?_
  refine lv_iconst (v := 1) hx hb dL_law_686 (by decide) ?_
  refine k_iaddN (a := i) (b := 1) hx hb dL_law_687 ?_
  refine k_sldv (i := i + 1) (v := nI n1) hx hb hX hbl hw (by omega) (by omega) e1 dL_law_688 ?_
  refine lv_aload_n hx hb dL_law_689 rfl (lv_at hl 1 rfl) ?_
  refine lv_iload hx hb dL_law_690 (lv_at hl 5 rfl) ?_
  refine lv_iconst (v := 2) hx hb dL_law_692 (by decide) ?_
  refine k_iaddN (a := i) (b := 2) hx hb dL_law_693 ?_
  refine k_sldv (i := i + 2) (v := z2) hx hb hX hbl hw (by omega) (by omega) e2 dL_law_694 ?_
  refine lv_if_eq (tgt := 702) hx hb dL_law_695 (by decide) (fun _ => ?_) (fun q8 => absurd hz q8)
  refine lv_iconst (v := 0) hx hb dL_law_702 (by decide) ?_
  refine kr_i (ws' := wX x A T B ++ wC E A (B 0) S ++ wC E T (B 0) U ++ wG E B (f_vote G (nI n1) false) ++ [(o, aJ E 1 (vp_updL f 0 ((f_votes (f_vote G (nI n1) false) (f_ship G (nI n1)) : Int32).toInt64)))] ++ wN E M (0, Hb, r_vote a n1 false, k)) (va_runV (As := [.int (nI n1), .int 0]) (rest := []) ⟨hx, hb, hml, hown, hts⟩ (c_X3_vote l E M th Hb a k n1 false hy1 hy2 hy3 hy4 hy5 hy6 hy7 _) (cwV 2 hts gL_law_X3_vote rfl rfl rfl ⟨rfl, hd_X3_vote⟩ ⟨Nat.le_of_ble_eq_true rfl, Nat.le_of_ble_eq_true rfl⟩) (pwV (ci := 3) (q0 := 22) (C := RX3) hw hK rfl rfl rfl (rpS (AV := [.ref (M 0), .int (nI n1), .int 0]) hw hK hG rp_88)) rfl rfl hl.1 rfl (lv_room (Nat.le_of_ble_eq_true rfl)) dL_law_703 ⟨(show cells + 2 + 0 ≤ 1033879 by omega), (show slots + 12 + 0 ≤ 5994467 by omega)⟩) hw hA rp_87 (fun H locs hw => ?_)
  refine lv_istore (lv' := [(6, .int (l_mvo Hb (r_vote a n1 false) (n_so Hb n1) true (n_np Hb))), (5, .int 0), (0, .ref b), (1, .ref x), (2, .ref (M 0)), (3, .ref o), (4, .int (nI i))]) hx hb dL_law_706 hl (by decide) rfl (fun ls hl => ?_)
  refine lv_aload_n hx hb dL_law_708 rfl (lv_at hl 4 rfl) ?_
  refine kr_i (ws' := wX x A T B ++ wC E A (B 0) S ++ wC E T (B 0) U ++ wG E B (f_vote G (nI n1) false) ++ [(o, aJ E 1 (vp_updL f 0 ((f_votes (f_vote G (nI n1) false) (f_ship G (nI n1)) : Int32).toInt64)))] ++ wN E M (0, Hb, r_vote a n1 false, k)) (va_runV (As := []) (rest := []) ⟨hx, hb, hml, hown, hts⟩ (c_X3_thrown l E M 0 Hb (r_vote a n1 false) k  _) (cwV 0 hts gL_law_X3_thrown rfl rfl rfl ⟨rfl, hd_X3_thrown⟩ ⟨Nat.le_of_ble_eq_true rfl, Nat.le_of_ble_eq_true rfl⟩) (pwV (ci := 3) (q0 := 22) (C := RX3) hw hK rfl rfl rfl (rpS (AV := [.ref (M 0)]) hw hK hG rp_88)) rfl rfl hl.1 rfl (lv_room (Nat.le_of_ble_eq_true rfl)) dL_law_709 ⟨(show cells + 2 + 0 ≤ 1033879 by omega), (show slots + 12 + 0 ≤ 5994467 by omega)⟩) hw hA rp_88 (fun H locs hw => ?_)
  refine lv_iload hx hb dL_law_712 (lv_at hl 1 rfl) ?_
  refine lv_icmp_eq (tgt := 719) hx hb dL_law_714 (by decide) (fun _ => ?_) (fun q8 => absurd (by decide) q8)
  refine lv_iload hx hb dL_law_719 (lv_at hl 1 rfl) ?_
  refine lv_if_ne (tgt := 736) hx hb dL_law_721 (by decide) (fun q8 => absurd (by decide) q8) (fun _ => ?_)
  refine lv_aload_n hx hb dL_law_724 rfl (lv_at hl 5 rfl) ?_
  refine lv_iconst (v := 0) hx hb dL_law_725 (by decide) ?_
  refine k_lld (v := (vp_updL f 0 ((f_votes (f_vote G (nI n1) false) (f_ship G (nI n1)) : Int32).toInt64)) 0) hx hb hK hw 21 rfl (vp_in_nI (n := 0) (N := 1) (by decide) (by decide)) rfl dL_law_726 ?_
  refine lv_iload hx hb dL_law_727 (lv_at hl 0 rfl) ?_
  refine lv_i2l (v := (l_mvo Hb (r_vote a n1 false) (n_so Hb n1) true (n_np Hb) : Int32).toInt64) hx hb dL_law_729 rfl ?_
  refine k_lcmpE hx hb dL_law_730 (pk_uLs.trans hy8) ?_
  refine lv_if_eq (tgt := 736) hx hb dL_law_731 (by decide) (fun _ => ?_) (fun q8 => absurd (by decide) q8)
  refine lv_goto (tgt := 2161) hx hb dL_law_736 (by decide) ?_
  refine W.widen (k := cells + 30) (n := slots + 200) (show cells + 2 ≤ cells + 30 by omega) (show slots + 12 ≤ slots + 200 by omega) ?_
  exact kk U (vp_updL f 0 ((f_votes (f_vote G (nI n1) false) (f_ship G (nI n1)) : Int32).toInt64)) 0 k _ _ _ hw (lv_sub hl [2, 3, 4, 5, 6] rfl)

set_option maxHeartbeats 4000000 in
set_option maxRecDepth 100000 in
theorem la_burnNights_1 {p9 : Program} {l : Launch} {e : Env} {s9 : State} {m : MethodId} {below : List Frame} {meth : Method} {c : Code} {b L : Nat} {xs : Nat → Int32} (C0 : lw_At p9 s9 m meth c b L xs) (hflags : l.stackTraces = false) (hL : L ≤ 2048) (E : Ev) (hK : va_K E.1 vwCl (tysE E) s9) (hG : Gx s9) (hZ : Zx (aL s9) s9 s9.heap) {Q : State → Prop} (x o : Nat) (A T B M : Nat → Nat) (S U : CS) (G : HS) (th : Int32) (Hb : MH) (a k : Fn) (f : Nat → Int64) (i cells slots : Nat) (hi : i + 4 ≤ L) (z1 : Int32) (e1 : xs (i + 1) = z1) (hy0 : t_nights z1 60 = 3) (hy1 : n_ns Hb ≤ 5) (hy2 : n_np Hb ≤ 16) (hy3 : n_nw Hb ≤ 4) (hy4 : ∀ p, p < n_np Hb → n_so Hb p < 5) (hy5 : d_in z1 1 60 = false) (hc9 : cells + 30 ≤ 1033879) (hs9 : slots + 200 ≤ 5994467) (kk : ∀ (U1 : CS) (f1 : Nat → Int64) (t1 : Int32) (k1 : Fn) (H : Heap) (locs : List Loc) (ls : Array Slot), Wd E (aL s9) s9.heap (wX x A T B ++ wC E A (B 0) S ++ wC E T (B 0) U1 ++ wG E B G ++ [(o, aJ E 1 f1)] ++ wN E M (t1, Hb, a, k1)) H locs → lv_has ls 9 [(0, .ref b), (1, .ref x), (2, .ref (M 0)), (3, .ref o), (4, .int (nI i))] → W p9 l e room_1 s9 m #[Value.ref b] below meth c H locs (cells + 30) (slots + 200) Q (F0 m 2161 ls [])) {H : Heap} {locs : List Loc} {ls : Array Slot} (hw : Wd E (aL s9) s9.heap (wX x A T B ++ wC E A (B 0) S ++ wC E T (B 0) U ++ wG E B G ++ [(o, aJ E 1 f)] ++ wN E M (th, Hb, a, k)) H locs) (hl : lv_has ls 9 [(0, .ref b), (1, .ref x), (2, .ref (M 0)), (3, .ref o), (4, .int (nI i))]) : W p9 l e room_1 s9 m #[Value.ref b] below meth c H locs cells slots Q (F0 m 739 ls []) := by
  obtain ⟨hx, hb, hr, hml, hown, hts0, hX, hbl, hlocks, hgv⟩ := C0
  have hts : ∀ w ∈ wsL_law, w.before #[Value.ref b] s9 = true := fun w h => hts0 w (wsL_law_in w h)
  have hown : s9.vm.findClass RL = some m.cls := hown
  have hA : ∀ q, s9.heap.size ≤ q → aL s9 q := fun _ h => h
  refine lv_aload_n hx hb dL_law_739 rfl (lv_at hl 1 rfl) ?_
  refine lv_aload_n hx hb dL_law_740 rfl (lv_at hl 0 rfl) ?_
  refine lv_iload hx hb dL_law_741 (lv_at hl 4 rfl) ?_
  refine lv_iconst (v := 1) hx hb dL_law_743 (by decide) ?_
  refine k_iaddN (a := i) (b := 1) hx hb dL_law_744 ?_
  refine k_sldv (i := i + 1) (v := z1) hx hb hX hbl hw (by omega) (by omega) e1 dL_law_745 ?_
  refine lv_aload_n hx hb dL_law_746 rfl (lv_at hl 3 rfl) ?_
  refine krx_i (ws' := wX x A T B ++ wC E A (B 0) S ++ wC E T (B 0) U ++ wG E B G ++ [(o, aJ E 1 f)] ++ wN E M (th, Hb, a, k)) (vx_runSX (As := [.ref x, .int z1, .ref o]) (rest := []) ⟨hx, hb, hml, hown, hts⟩ (c_L_burnNights_3 l hflags E x A T B S U G z1 o f hy0 _) (vx_cwSW 3 hts gL_law_L_burnNights rfl rfl rfl hd_L_burnNights ⟨Nat.le_of_ble_eq_true rfl, Nat.le_of_ble_eq_true rfl⟩) (rpX (AV := [.ref x, .int z1, .ref o]) hw hK hG hZ hA rp_86) rfl rfl hl.1 rfl (lv_room (Nat.le_of_ble_eq_true rfl)) dL_law_747 ⟨(show cells + 1 ≤ 1033879 by omega), (show slots + 6 ≤ 5994467 by omega)⟩) hw hA rp_86 rp_86 (fun H locs ce9 q9 t_1 hw hy1 hy2 hy3 => absurd rfl t_1) (fun H locs t_1 hw => ?_)
  refine lv_istore (lv' := [(5, .int 1), (0, .ref b), (1, .ref x), (2, .ref (M 0)), (3, .ref o), (4, .int (nI i))]) hx hb dL_law_750 hl (by decide) rfl (fun ls hl => ?_)
  refine lv_aload_n hx hb dL_law_752 rfl (lv_at hl 3 rfl) ?_
  refine lv_aload_n hx hb dL_law_753 rfl (lv_at hl 1 rfl) ?_
  refine lv_iload hx hb dL_law_754 (lv_at hl 5 rfl) ?_
  refine lv_iconst (v := 1) hx hb dL_law_756 (by decide) ?_
  refine k_iaddN (a := i) (b := 1) hx hb dL_law_757 ?_
  refine k_sldv (i := i + 1) (v := z1) hx hb hX hbl hw (by omega) (by omega) e1 dL_law_758 ?_
  refine kr_i (ws' := wX x A T B ++ wC E A (B 0) S ++ wC E T (B 0) U ++ wG E B G ++ [(o, aJ E 1 f)] ++ wN E M (1, Hb, a, k)) (va_runV (As := [.int z1]) (rest := []) ⟨hx, hb, hml, hown, hts⟩ (c_X3_burnNights_1 l E M th Hb a k z1 hy1 hy2 hy3 hy4 hy5 _) (cwV 1 hts gL_law_X3_burnNights rfl rfl rfl ⟨rfl, hd_X3_burnNights⟩ ⟨Nat.le_of_ble_eq_true rfl, Nat.le_of_ble_eq_true rfl⟩) (pwV (ci := 3) (q0 := 22) (C := RX3) hw hK rfl rfl rfl (rpS (AV := [.ref (M 0), .int z1]) hw hK hG rp_88)) rfl rfl hl.1 rfl (lv_room (Nat.le_of_ble_eq_true rfl)) dL_law_759 ⟨(show cells + 1 + 0 ≤ 1033879 by omega), (show slots + 6 + 0 ≤ 5994467 by omega)⟩) hw hA rp_87 (fun H locs hw => ?_)
  refine lv_istore (lv' := [(6, .int 0), (5, .int 1), (0, .ref b), (1, .ref x), (2, .ref (M 0)), (3, .ref o), (4, .int (nI i))]) hx hb dL_law_762 hl (by decide) rfl (fun ls hl => ?_)
  refine lv_aload_n hx hb dL_law_764 rfl (lv_at hl 4 rfl) ?_
  refine kr_i (ws' := wX x A T B ++ wC E A (B 0) S ++ wC E T (B 0) U ++ wG E B G ++ [(o, aJ E 1 f)] ++ wN E M (1, Hb, a, k)) (va_runV (As := []) (rest := []) ⟨hx, hb, hml, hown, hts⟩ (c_X3_thrown l E M 1 Hb a k  _) (cwV 0 hts gL_law_X3_thrown rfl rfl rfl ⟨rfl, hd_X3_thrown⟩ ⟨Nat.le_of_ble_eq_true rfl, Nat.le_of_ble_eq_true rfl⟩) (pwV (ci := 3) (q0 := 22) (C := RX3) hw hK rfl rfl rfl (rpS (AV := [.ref (M 0)]) hw hK hG rp_88)) rfl rfl hl.1 rfl (lv_room (Nat.le_of_ble_eq_true rfl)) dL_law_765 ⟨(show cells + 1 + 0 ≤ 1033879 by omega), (show slots + 6 + 0 ≤ 5994467 by omega)⟩) hw hA rp_88 (fun H locs hw => ?_)
  refine lv_iload hx hb dL_law_768 (lv_at hl 1 rfl) ?_
  refine lv_icmp_eq (tgt := 775) hx hb dL_law_770 (by decide) (fun _ => ?_) (fun q8 => absurd (by decide) q8)
  refine lv_iload hx hb dL_law_775 (lv_at hl 1 rfl) ?_
  refine lv_if_ne (tgt := 792) hx hb dL_law_777 (by decide) (fun _ => ?_) (fun q8 => absurd q8 (by decide))
  refine lv_goto (tgt := 2161) hx hb dL_law_792 (by decide) ?_
  refine W.widen (k := cells + 30) (n := slots + 200) (show cells + 1 ≤ cells + 30 by omega) (show slots + 6 ≤ slots + 200 by omega) ?_
  exact kk U f 1 k _ _ _ hw (lv_sub hl [2, 3, 4, 5, 6] rfl)

set_option maxHeartbeats 4000000 in
set_option maxRecDepth 100000 in
theorem la_burnNights {p9 : Program} {l : Launch} {e : Env} {s9 : State} {m : MethodId} {below : List Frame} {meth : Method} {c : Code} {b L : Nat} {xs : Nat → Int32} (C0 : lw_At p9 s9 m meth c b L xs) (hflags : l.stackTraces = false) (hL : L ≤ 2048) (E : Ev) (hK : va_K E.1 vwCl (tysE E) s9) (hG : Gx s9) (hZ : Zx (aL s9) s9 s9.heap) {Q : State → Prop} (x o : Nat) (A T B M : Nat → Nat) (S U : CS) (G : HS) (th : Int32) (Hb : MH) (a k : Fn) (f : Nat → Int64) (i cells slots : Nat) (hi : i + 4 ≤ L) (n1 : Nat) (e1 : xs (i + 1) = nI n1) (hy0 : t_nights (nI n1) 60 = 0) (hy1 : n_ns Hb ≤ 5) (hy2 : n_np Hb ≤ 16) (hy3 : n_nw Hb ≤ 4) (hy4 : ∀ p, p < n_np Hb → n_so Hb p < 5) (hy5 : 1 ≤ n1) (hy6 : n1 ≤ 60) (hy7 : (l_passN G S (nI n1).toNatClampNeg : Int32).toInt64 = (l_mpassN Hb a n1 : Int32).toInt64) (hc9 : cells + 30 ≤ 1033879) (hs9 : slots + 200 ≤ 5994467) (kk : ∀ (U1 : CS) (f1 : Nat → Int64) (t1 : Int32) (k1 : Fn) (H : Heap) (locs : List Loc) (ls : Array Slot), Wd E (aL s9) s9.heap (wX x A T B ++ wC E A (B 0) (l_passS G S (nI n1).toNatClampNeg) ++ wC E T (B 0) U1 ++ wG E B G ++ [(o, aJ E 1 f1)] ++ wN E M (t1, Hb, l_mpass Hb a n1, k1)) H locs → lv_has ls 9 [(0, .ref b), (1, .ref x), (2, .ref (M 0)), (3, .ref o), (4, .int (nI i))] → W p9 l e room_1 s9 m #[Value.ref b] below meth c H locs (cells + 30) (slots + 200) Q (F0 m 2161 ls [])) {H : Heap} {locs : List Loc} {ls : Array Slot} (hw : Wd E (aL s9) s9.heap (wX x A T B ++ wC E A (B 0) S ++ wC E T (B 0) U ++ wG E B G ++ [(o, aJ E 1 f)] ++ wN E M (th, Hb, a, k)) H locs) (hl : lv_has ls 9 [(0, .ref b), (1, .ref x), (2, .ref (M 0)), (3, .ref o), (4, .int (nI i))]) : W p9 l e room_1 s9 m #[Value.ref b] below meth c H locs cells slots Q (F0 m 739 ls []) := by
  obtain ⟨hx, hb, hr, hml, hown, hts0, hX, hbl, hlocks, hgv⟩ := C0
  have hts : ∀ w ∈ wsL_law, w.before #[Value.ref b] s9 = true := fun w h => hts0 w (wsL_law_in w h)
  have hown : s9.vm.findClass RL = some m.cls := hown
  have hA : ∀ q, s9.heap.size ≤ q → aL s9 q := fun _ h => h
  refine lv_aload_n hx hb dL_law_739 rfl (lv_at hl 1 rfl) ?_
  refine lv_aload_n hx hb dL_law_740 rfl (lv_at hl 0 rfl) ?_
  refine lv_iload hx hb dL_law_741 (lv_at hl 4 rfl) ?_
  refine lv_iconst (v := 1) hx hb dL_law_743 (by decide) ?_
  refine k_iaddN (a := i) (b := 1) hx hb dL_law_744 ?_
  refine k_sldv (i := i + 1) (v := nI n1) hx hb hX hbl hw (by omega) (by omega) e1 dL_law_745 ?_
  refine lv_aload_n hx hb dL_law_746 rfl (lv_at hl 3 rfl) ?_
  refine krx_i (ws' := wX x A T B ++ wC E A (B 0) (l_passS G S (nI n1).toNatClampNeg) ++ wC E T (B 0) U ++ wG E B G ++ [(o, aJ E 1 (vp_updL f 0 ((l_passN G S (nI n1).toNatClampNeg : Int32).toInt64)))] ++ wN E M (th, Hb, a, k)) (vx_runSX (As := [.ref x, .int (nI n1), .ref o]) (rest := []) ⟨hx, hb, hml, hown, hts⟩ (c_L_burnNights l hflags E x A T B S U G (nI n1) o f hy0 _) (vx_cwSW 3 hts gL_law_L_burnNights rfl rfl rfl hd_L_burnNights ⟨Nat.le_of_ble_eq_true rfl, Nat.le_of_ble_eq_true rfl⟩) (rpX (AV := [.ref x, .int (nI n1), .ref o]) hw hK hG hZ hA rp_86) rfl rfl hl.1 rfl (lv_room (Nat.le_of_ble_eq_true rfl)) dL_law_747 ⟨(show cells + 1 ≤ 1033879 by omega), (show slots + 6 ≤ 5994467 by omega)⟩) hw hA rp_91 rp_86 (fun H locs ce9 q9 t_1 hw hy1 hy2 hy3 => absurd rfl t_1) (fun H locs t_1 hw => ?_)
  refine lv_istore (lv' := [(5, .int 0), (0, .ref b), (1, .ref x), (2, .ref (M 0)), (3, .ref o), (4, .int (nI i))]) hx hb dL_law_750 hl (by decide) rfl (fun ls hl => ?_)
  refine lv_aload_n hx hb dL_law_752 rfl (lv_at hl 3 rfl) ?_
  refine lv_aload_n hx hb dL_law_753 rfl (lv_at hl 1 rfl) ?_
  refine lv_iload hx hb dL_law_754 (lv_at hl 5 rfl) ?_
  refine lv_iconst (v := 1) hx hb dL_law_756 (by decide) ?_
  refine k_iaddN (a := i) (b := 1) hx hb dL_law_757 ?_
  refine k_sldv (i := i + 1) (v := nI n1) hx hb hX hbl hw (by omega) (by omega) e1 dL_law_758 ?_
  refine kr_i (ws' := wX x A T B ++ wC E A (B 0) (l_passS G S (nI n1).toNatClampNeg) ++ wC E T (B 0) U ++ wG E B G ++ [(o, aJ E 1 (vp_updL f 0 ((l_passN G S (nI n1).toNatClampNeg : Int32).toInt64)))] ++ wN E M (0, Hb, l_mpass Hb a n1, k)) (va_runV (As := [.int (nI n1)]) (rest := []) ⟨hx, hb, hml, hown, hts⟩ (c_X3_burnNights l E M th Hb a k n1 hy1 hy2 hy3 hy4 hy5 hy6 _) (cwV 1 hts gL_law_X3_burnNights rfl rfl rfl ⟨rfl, hd_X3_burnNights⟩ ⟨Nat.le_of_ble_eq_true rfl, Nat.le_of_ble_eq_true rfl⟩) (pwV (ci := 3) (q0 := 22) (C := RX3) hw hK rfl rfl rfl (rpS (AV := [.ref (M 0), .int (nI n1)]) hw hK hG rp_88)) rfl rfl hl.1 rfl (lv_room (Nat.le_of_ble_eq_true rfl)) dL_law_759 ⟨(show cells + 1 + 0 ≤ 1033879 by omega), (show slots + 6 + 0 ≤ 5994467 by omega)⟩) hw hA rp_87 (fun H locs hw => ?_)
  refine lv_istore (lv' := [(6, .int (l_mpassN Hb a n1)), (5, .int 0), (0, .ref b), (1, .ref x), (2, .ref (M 0)), (3, .ref o), (4, .int (nI i))]) hx hb dL_law_762 hl (by decide) rfl (fun ls hl => ?_)
  refine lv_aload_n hx hb dL_law_764 rfl (lv_at hl 4 rfl) ?_
  refine kr_i (ws' := wX x A T B ++ wC E A (B 0) (l_passS G S (nI n1).toNatClampNeg) ++ wC E T (B 0) U ++ wG E B G ++ [(o, aJ E 1 (vp_updL f 0 ((l_passN G S (nI n1).toNatClampNeg : Int32).toInt64)))] ++ wN E M (0, Hb, l_mpass Hb a n1, k)) (va_runV (As := []) (rest := []) ⟨hx, hb, hml, hown, hts⟩ (c_X3_thrown l E M 0 Hb (l_mpass Hb a n1) k  _) (cwV 0 hts gL_law_X3_thrown rfl rfl rfl ⟨rfl, hd_X3_thrown⟩ ⟨Nat.le_of_ble_eq_true rfl, Nat.le_of_ble_eq_true rfl⟩) (pwV (ci := 3) (q0 := 22) (C := RX3) hw hK rfl rfl rfl (rpS (AV := [.ref (M 0)]) hw hK hG rp_88)) rfl rfl hl.1 rfl (lv_room (Nat.le_of_ble_eq_true rfl)) dL_law_765 ⟨(show cells + 1 + 0 ≤ 1033879 by omega), (show slots + 6 + 0 ≤ 5994467 by omega)⟩) hw hA rp_88 (fun H locs hw => ?_)
  refine lv_iload hx hb dL_law_768 (lv_at hl 1 rfl) ?_
  refine lv_icmp_eq (tgt := 775) hx hb dL_law_770 (by decide) (fun _ => ?_) (fun q8 => absurd (by decide) q8)
  refine lv_iload hx hb dL_law_775 (lv_at hl 1 rfl) ?_
  refine lv_if_ne (tgt := 792) hx hb dL_law_777 (by decide) (fun q8 => absurd (by decide) q8) (fun _ => ?_)
  refine lv_aload_n hx hb dL_law_780 rfl (lv_at hl 5 rfl) ?_
  refine lv_iconst (v := 0) hx hb dL_law_781 (by decide) ?_
  refine k_lld (v := (vp_updL f 0 ((l_passN G S (nI n1).toNatClampNeg : Int32).toInt64)) 0) hx hb hK hw 21 rfl (vp_in_nI (n := 0) (N := 1) (by decide) (by decide)) rfl dL_law_782 ?_
  refine lv_iload hx hb dL_law_783 (lv_at hl 0 rfl) ?_
  refine lv_i2l (v := (l_mpassN Hb a n1 : Int32).toInt64) hx hb dL_law_785 rfl ?_
  refine k_lcmpE hx hb dL_law_786 (pk_uLs.trans hy7) ?_
  refine lv_if_eq (tgt := 792) hx hb dL_law_787 (by decide) (fun _ => ?_) (fun q8 => absurd (by decide) q8)
  refine lv_goto (tgt := 2161) hx hb dL_law_792 (by decide) ?_
  refine W.widen (k := cells + 30) (n := slots + 200) (show cells + 1 ≤ cells + 30 by omega) (show slots + 6 ≤ slots + 200 by omega) ?_
  exact kk U (vp_updL f 0 ((l_passN G S (nI n1).toNatClampNeg : Int32).toInt64)) 0 k _ _ _ hw (lv_sub hl [2, 3, 4, 5, 6] rfl)

set_option maxHeartbeats 4000000 in
set_option maxRecDepth 100000 in
theorem la_ships {p9 : Program} {l : Launch} {e : Env} {s9 : State} {m : MethodId} {below : List Frame} {meth : Method} {c : Code} {b L : Nat} {xs : Nat → Int32} (C0 : lw_At p9 s9 m meth c b L xs) (hflags : l.stackTraces = false) (hL : L ≤ 2048) (E : Ev) (hK : va_K E.1 vwCl (tysE E) s9) (hG : Gx s9) (hZ : Zx (aL s9) s9 s9.heap) {Q : State → Prop} (x o : Nat) (A T B M : Nat → Nat) (S U : CS) (G : HS) (th : Int32) (Hb : MH) (a k : Fn) (f : Nat → Int64) (i cells slots : Nat) (hi : i + 4 ≤ L) (hy0 : n_ns Hb ≤ 5) (hy1 : n_np Hb ≤ 16) (hy2 : n_nw Hb ≤ 4) (hy3 : ∀ p, p < n_np Hb → n_so Hb p < 5) (hy4 : nI (g_sc G) = nI (n_ns Hb)) (hc9 : cells + 30 ≤ 1033879) (hs9 : slots + 200 ≤ 5994467) (kk : ∀ (U1 : CS) (f1 : Nat → Int64) (t1 : Int32) (k1 : Fn) (H : Heap) (locs : List Loc) (ls : Array Slot), Wd E (aL s9) s9.heap (wX x A T B ++ wC E A (B 0) S ++ wC E T (B 0) U1 ++ wG E B G ++ [(o, aJ E 1 f1)] ++ wN E M (t1, Hb, a, k1)) H locs → lv_has ls 9 [(0, .ref b), (1, .ref x), (2, .ref (M 0)), (3, .ref o), (4, .int (nI i))] → W p9 l e room_1 s9 m #[Value.ref b] below meth c H locs (cells + 30) (slots + 200) Q (F0 m 2161 ls [])) {H : Heap} {locs : List Loc} {ls : Array Slot} (hw : Wd E (aL s9) s9.heap (wX x A T B ++ wC E A (B 0) S ++ wC E T (B 0) U ++ wG E B G ++ [(o, aJ E 1 f)] ++ wN E M (th, Hb, a, k)) H locs) (hl : lv_has ls 9 [(0, .ref b), (1, .ref x), (2, .ref (M 0)), (3, .ref o), (4, .int (nI i))]) : W p9 l e room_1 s9 m #[Value.ref b] below meth c H locs cells slots Q (F0 m 795 ls []) := by
  obtain ⟨hx, hb, hr, hml, hown, hts0, hX, hbl, hlocks, hgv⟩ := C0
  have hts : ∀ w ∈ wsL_law, w.before #[Value.ref b] s9 = true := fun w h => hts0 w (wsL_law_in w h)
  have hown : s9.vm.findClass RL = some m.cls := hown
  have hA : ∀ q, s9.heap.size ≤ q → aL s9 q := fun _ h => h
  refine lv_aload_n hx hb dL_law_795 rfl (lv_at hl 1 rfl) ?_
  refine kr_i (ws' := wX x A T B ++ wC E A (B 0) S ++ wC E T (B 0) U ++ wG E B G ++ [(o, aJ E 1 f)] ++ wN E M (th, Hb, a, k)) (va_runV (As := []) (rest := []) ⟨hx, hb, hml, hown, hts⟩ (c_X2_ships l E x A T B S U G  _) (cwV 0 hts gL_law_X2_ships rfl rfl rfl ⟨rfl, hd_X2_ships⟩ ⟨Nat.le_of_ble_eq_true rfl, Nat.le_of_ble_eq_true rfl⟩) (pwV (ci := 2) (q0 := 0) (C := RX2) hw hK rfl rfl rfl (rpS (AV := [.ref x]) hw hK hG rp_92)) rfl rfl hl.1 rfl (lv_room (Nat.le_of_ble_eq_true rfl)) dL_law_796 ⟨(show cells + 0 ≤ 1033879 by omega), (show slots + 0 ≤ 5994467 by omega)⟩) hw hA rp_92 (fun H locs hw => ?_)
  refine lv_aload_n hx hb dL_law_799 rfl (lv_at hl 2 rfl) ?_
  refine kr_i (ws' := wX x A T B ++ wC E A (B 0) S ++ wC E T (B 0) U ++ wG E B G ++ [(o, aJ E 1 f)] ++ wN E M (0, Hb, a, k)) (va_runV (As := []) (rest := [.int (nI (g_sc G))]) ⟨hx, hb, hml, hown, hts⟩ (c_X3_ships l E M th Hb a k hy0 hy1 hy2 hy3 _) (cwV 0 hts gL_law_X3_ships rfl rfl rfl ⟨rfl, hd_X3_ships⟩ ⟨Nat.le_of_ble_eq_true rfl, Nat.le_of_ble_eq_true rfl⟩) (pwV (ci := 3) (q0 := 22) (C := RX3) hw hK rfl rfl rfl (rpS (AV := [.ref (M 0)]) hw hK hG rp_88)) rfl rfl hl.1 rfl (lv_room (Nat.le_of_ble_eq_true rfl)) dL_law_800 ⟨(show cells + 0 ≤ 1033879 by omega), (show slots + 0 ≤ 5994467 by omega)⟩) hw hA rp_87 (fun H locs hw => ?_)
  refine lv_icmp_eq (tgt := 2161) hx hb dL_law_803 (by decide) (fun _ => ?_) (fun q8 => absurd hy4 q8)
  refine W.widen (k := cells + 30) (n := slots + 200) (show cells ≤ cells + 30 by omega) (show slots ≤ slots + 200 by omega) ?_
  exact kk U f 0 k _ _ _ hw (lv_sub hl [0, 1, 2, 3, 4] rfl)

set_option maxHeartbeats 4000000 in
set_option maxRecDepth 100000 in
theorem la_mastsOf_1 {p9 : Program} {l : Launch} {e : Env} {s9 : State} {m : MethodId} {below : List Frame} {meth : Method} {c : Code} {b L : Nat} {xs : Nat → Int32} (C0 : lw_At p9 s9 m meth c b L xs) (hflags : l.stackTraces = false) (hL : L ≤ 2048) (E : Ev) (hK : va_K E.1 vwCl (tysE E) s9) (hG : Gx s9) (hZ : Zx (aL s9) s9 s9.heap) {Q : State → Prop} (x o : Nat) (A T B M : Nat → Nat) (S U : CS) (G : HS) (th : Int32) (Hb : MH) (a k : Fn) (f : Nat → Int64) (i cells slots : Nat) (hi : i + 4 ≤ L) (z1 : Int32) (e1 : xs (i + 1) = z1) (hy0 : t_ship G z1 = 1) (hy1 : n_ns Hb ≤ 5) (hy2 : n_np Hb ≤ 16) (hy3 : n_nw Hb ≤ 4) (hy4 : ∀ p, p < n_np Hb → n_so Hb p < 5) (hy5 : d_in z1 0 (nI (n_ns Hb) - 1) = false) (hc9 : cells + 30 ≤ 1033879) (hs9 : slots + 200 ≤ 5994467) (kk : ∀ (U1 : CS) (f1 : Nat → Int64) (t1 : Int32) (k1 : Fn) (H : Heap) (locs : List Loc) (ls : Array Slot), Wd E (aL s9) s9.heap (wX x A T B ++ wC E A (B 0) S ++ wC E T (B 0) U1 ++ wG E B G ++ [(o, aJ E 1 f1)] ++ wN E M (t1, Hb, a, k1)) H locs → lv_has ls 9 [(0, .ref b), (1, .ref x), (2, .ref (M 0)), (3, .ref o), (4, .int (nI i))] → W p9 l e room_1 s9 m #[Value.ref b] below meth c H locs (cells + 30) (slots + 200) Q (F0 m 2161 ls [])) {H : Heap} {locs : List Loc} {ls : Array Slot} (hw : Wd E (aL s9) s9.heap (wX x A T B ++ wC E A (B 0) S ++ wC E T (B 0) U ++ wG E B G ++ [(o, aJ E 1 f)] ++ wN E M (th, Hb, a, k)) H locs) (hl : lv_has ls 9 [(0, .ref b), (1, .ref x), (2, .ref (M 0)), (3, .ref o), (4, .int (nI i))]) : W p9 l e room_1 s9 m #[Value.ref b] below meth c H locs cells slots Q (F0 m 808 ls []) := by
  obtain ⟨hx, hb, hr, hml, hown, hts0, hX, hbl, hlocks, hgv⟩ := C0
  have hts : ∀ w ∈ wsL_law, w.before #[Value.ref b] s9 = true := fun w h => hts0 w (wsL_law_in w h)
  have hown : s9.vm.findClass RL = some m.cls := hown
  have hA : ∀ q, s9.heap.size ≤ q → aL s9 q := fun _ h => h
  refine lv_aload_n hx hb dL_law_808 rfl (lv_at hl 1 rfl) ?_
  refine lv_aload_n hx hb dL_law_809 rfl (lv_at hl 0 rfl) ?_
  refine lv_iload hx hb dL_law_810 (lv_at hl 4 rfl) ?_
  refine lv_iconst (v := 1) hx hb dL_law_812 (by decide) ?_
  refine k_iaddN (a := i) (b := 1) hx hb dL_law_813 ?_
  refine k_sldv (i := i + 1) (v := z1) hx hb hX hbl hw (by omega) (by omega) e1 dL_law_814 ?_
  refine lv_aload_n hx hb dL_law_815 rfl (lv_at hl 3 rfl) ?_
  refine krx_i (ws' := wX x A T B ++ wC E A (B 0) S ++ wC E T (B 0) U ++ wG E B G ++ [(o, aJ E 1 f)] ++ wN E M (th, Hb, a, k)) (vx_runSX (As := [.ref x, .int z1, .ref o]) (rest := []) ⟨hx, hb, hml, hown, hts⟩ (c_L_mastsOf_1 l hflags E x A T B S U G z1 o f hy0 _) (vx_cwSW 3 hts gL_law_L_mastsOf rfl rfl rfl hd_L_mastsOf ⟨Nat.le_of_ble_eq_true rfl, Nat.le_of_ble_eq_true rfl⟩) (rpX (AV := [.ref x, .int z1, .ref o]) hw hK hG hZ hA rp_86) rfl rfl hl.1 rfl (lv_room (Nat.le_of_ble_eq_true rfl)) dL_law_816 ⟨(show cells + 1 ≤ 1033879 by omega), (show slots + 6 ≤ 5994467 by omega)⟩) hw hA rp_86 rp_86 (fun H locs ce9 q9 t_1 hw hy1 hy2 hy3 => absurd rfl t_1) (fun H locs t_1 hw => ?_)
  refine lv_istore (lv' := [(5, .int 1), (0, .ref b), (1, .ref x), (2, .ref (M 0)), (3, .ref o), (4, .int (nI i))]) hx hb dL_law_819 hl (by decide) rfl (fun ls hl => ?_)
  refine lv_aload_n hx hb dL_law_821 rfl (lv_at hl 3 rfl) ?_
  refine lv_aload_n hx hb dL_law_822 rfl (lv_at hl 1 rfl) ?_
  refine lv_iload hx hb dL_law_823 (lv_at hl 5 rfl) ?_
  refine lv_iconst (v := 1) hx hb dL_law_825 (by decide) ?_
  refine k_iaddN (a := i) (b := 1) hx hb dL_law_826 ?_
  refine k_sldv (i := i + 1) (v := z1) hx hb hX hbl hw (by omega) (by omega) e1 dL_law_827 ?_
  refine kr_i (ws' := wX x A T B ++ wC E A (B 0) S ++ wC E T (B 0) U ++ wG E B G ++ [(o, aJ E 1 f)] ++ wN E M (1, Hb, a, k)) (va_runV (As := [.int z1]) (rest := []) ⟨hx, hb, hml, hown, hts⟩ (c_X3_mastsOf_1 l E M th Hb a k z1 hy1 hy2 hy3 hy4 hy5 _) (cwV 1 hts gL_law_X3_mastsOf rfl rfl rfl ⟨rfl, hd_X3_mastsOf⟩ ⟨Nat.le_of_ble_eq_true rfl, Nat.le_of_ble_eq_true rfl⟩) (pwV (ci := 3) (q0 := 22) (C := RX3) hw hK rfl rfl rfl (rpS (AV := [.ref (M 0), .int z1]) hw hK hG rp_88)) rfl rfl hl.1 rfl (lv_room (Nat.le_of_ble_eq_true rfl)) dL_law_828 ⟨(show cells + 1 + 0 ≤ 1033879 by omega), (show slots + 6 + 0 ≤ 5994467 by omega)⟩) hw hA rp_87 (fun H locs hw => ?_)
  refine lv_istore (lv' := [(6, .int 0), (5, .int 1), (0, .ref b), (1, .ref x), (2, .ref (M 0)), (3, .ref o), (4, .int (nI i))]) hx hb dL_law_831 hl (by decide) rfl (fun ls hl => ?_)
  refine lv_aload_n hx hb dL_law_833 rfl (lv_at hl 4 rfl) ?_
  refine kr_i (ws' := wX x A T B ++ wC E A (B 0) S ++ wC E T (B 0) U ++ wG E B G ++ [(o, aJ E 1 f)] ++ wN E M (1, Hb, a, k)) (va_runV (As := []) (rest := []) ⟨hx, hb, hml, hown, hts⟩ (c_X3_thrown l E M 1 Hb a k  _) (cwV 0 hts gL_law_X3_thrown rfl rfl rfl ⟨rfl, hd_X3_thrown⟩ ⟨Nat.le_of_ble_eq_true rfl, Nat.le_of_ble_eq_true rfl⟩) (pwV (ci := 3) (q0 := 22) (C := RX3) hw hK rfl rfl rfl (rpS (AV := [.ref (M 0)]) hw hK hG rp_88)) rfl rfl hl.1 rfl (lv_room (Nat.le_of_ble_eq_true rfl)) dL_law_834 ⟨(show cells + 1 + 0 ≤ 1033879 by omega), (show slots + 6 + 0 ≤ 5994467 by omega)⟩) hw hA rp_88 (fun H locs hw => ?_)
  refine lv_iload hx hb dL_law_837 (lv_at hl 1 rfl) ?_
  refine lv_icmp_eq (tgt := 844) hx hb dL_law_839 (by decide) (fun _ => ?_) (fun q8 => absurd (by decide) q8)
  refine lv_iload hx hb dL_law_844 (lv_at hl 1 rfl) ?_
  refine lv_if_ne (tgt := 861) hx hb dL_law_846 (by decide) (fun _ => ?_) (fun q8 => absurd q8 (by decide))
  refine lv_goto (tgt := 2161) hx hb dL_law_861 (by decide) ?_
  refine W.widen (k := cells + 30) (n := slots + 200) (show cells + 1 ≤ cells + 30 by omega) (show slots + 6 ≤ slots + 200 by omega) ?_
  exact kk U f 1 k _ _ _ hw (lv_sub hl [2, 3, 4, 5, 6] rfl)

set_option maxHeartbeats 4000000 in
set_option maxRecDepth 100000 in
theorem la_mastsOf {p9 : Program} {l : Launch} {e : Env} {s9 : State} {m : MethodId} {below : List Frame} {meth : Method} {c : Code} {b L : Nat} {xs : Nat → Int32} (C0 : lw_At p9 s9 m meth c b L xs) (hflags : l.stackTraces = false) (hL : L ≤ 2048) (E : Ev) (hK : va_K E.1 vwCl (tysE E) s9) (hG : Gx s9) (hZ : Zx (aL s9) s9 s9.heap) {Q : State → Prop} (x o : Nat) (A T B M : Nat → Nat) (S U : CS) (G : HS) (th : Int32) (Hb : MH) (a k : Fn) (f : Nat → Int64) (i cells slots : Nat) (hi : i + 4 ≤ L) (n1 : Nat) (e1 : xs (i + 1) = nI n1) (hy0 : t_ship G (nI n1) = 0) (hy1 : n_ns Hb ≤ 5) (hy2 : n_np Hb ≤ 16) (hy3 : n_nw Hb ≤ 4) (hy4 : ∀ p, p < n_np Hb → n_so Hb p < 5) (hy5 : n1 < n_ns Hb) (hy6 : (f_at 5 (g_ma G) (nI n1) : Int32).toInt64 = (n_ma Hb n1 : Int32).toInt64) (hc9 : cells + 30 ≤ 1033879) (hs9 : slots + 200 ≤ 5994467) (kk : ∀ (U1 : CS) (f1 : Nat → Int64) (t1 : Int32) (k1 : Fn) (H : Heap) (locs : List Loc) (ls : Array Slot), Wd E (aL s9) s9.heap (wX x A T B ++ wC E A (B 0) S ++ wC E T (B 0) U1 ++ wG E B G ++ [(o, aJ E 1 f1)] ++ wN E M (t1, Hb, a, k1)) H locs → lv_has ls 9 [(0, .ref b), (1, .ref x), (2, .ref (M 0)), (3, .ref o), (4, .int (nI i))] → W p9 l e room_1 s9 m #[Value.ref b] below meth c H locs (cells + 30) (slots + 200) Q (F0 m 2161 ls [])) {H : Heap} {locs : List Loc} {ls : Array Slot} (hw : Wd E (aL s9) s9.heap (wX x A T B ++ wC E A (B 0) S ++ wC E T (B 0) U ++ wG E B G ++ [(o, aJ E 1 f)] ++ wN E M (th, Hb, a, k)) H locs) (hl : lv_has ls 9 [(0, .ref b), (1, .ref x), (2, .ref (M 0)), (3, .ref o), (4, .int (nI i))]) : W p9 l e room_1 s9 m #[Value.ref b] below meth c H locs cells slots Q (F0 m 808 ls []) := by
  obtain ⟨hx, hb, hr, hml, hown, hts0, hX, hbl, hlocks, hgv⟩ := C0
  have hts : ∀ w ∈ wsL_law, w.before #[Value.ref b] s9 = true := fun w h => hts0 w (wsL_law_in w h)
  have hown : s9.vm.findClass RL = some m.cls := hown
  have hA : ∀ q, s9.heap.size ≤ q → aL s9 q := fun _ h => h
  refine lv_aload_n hx hb dL_law_808 rfl (lv_at hl 1 rfl) ?_
  refine lv_aload_n hx hb dL_law_809 rfl (lv_at hl 0 rfl) ?_
  refine lv_iload hx hb dL_law_810 (lv_at hl 4 rfl) ?_
  refine lv_iconst (v := 1) hx hb dL_law_812 (by decide) ?_
  refine k_iaddN (a := i) (b := 1) hx hb dL_law_813 ?_
  refine k_sldv (i := i + 1) (v := nI n1) hx hb hX hbl hw (by omega) (by omega) e1 dL_law_814 ?_
  refine lv_aload_n hx hb dL_law_815 rfl (lv_at hl 3 rfl) ?_
  refine krx_i (ws' := wX x A T B ++ wC E A (B 0) S ++ wC E T (B 0) U ++ wG E B G ++ [(o, aJ E 1 (vp_updL f 0 ((f_at 5 (g_ma G) (nI n1) : Int32).toInt64)))] ++ wN E M (th, Hb, a, k)) (vx_runSX (As := [.ref x, .int (nI n1), .ref o]) (rest := []) ⟨hx, hb, hml, hown, hts⟩ (c_L_mastsOf l hflags E x A T B S U G (nI n1) o f hy0 _) (vx_cwSW 3 hts gL_law_L_mastsOf rfl rfl rfl hd_L_mastsOf ⟨Nat.le_of_ble_eq_true rfl, Nat.le_of_ble_eq_true rfl⟩) (rpX (AV := [.ref x, .int (nI n1), .ref o]) hw hK hG hZ hA rp_86) rfl rfl hl.1 rfl (lv_room (Nat.le_of_ble_eq_true rfl)) dL_law_816 ⟨(show cells + 1 ≤ 1033879 by omega), (show slots + 6 ≤ 5994467 by omega)⟩) hw hA rp_93 rp_86 (fun H locs ce9 q9 t_1 hw hy1 hy2 hy3 => absurd rfl t_1) (fun H locs t_1 hw => ?_)
  refine lv_istore (lv' := [(5, .int 0), (0, .ref b), (1, .ref x), (2, .ref (M 0)), (3, .ref o), (4, .int (nI i))]) hx hb dL_law_819 hl (by decide) rfl (fun ls hl => ?_)
  refine lv_aload_n hx hb dL_law_821 rfl (lv_at hl 3 rfl) ?_
  refine lv_aload_n hx hb dL_law_822 rfl (lv_at hl 1 rfl) ?_
  refine lv_iload hx hb dL_law_823 (lv_at hl 5 rfl) ?_
  refine lv_iconst (v := 1) hx hb dL_law_825 (by decide) ?_
  refine k_iaddN (a := i) (b := 1) hx hb dL_law_826 ?_
  refine k_sldv (i := i + 1) (v := nI n1) hx hb hX hbl hw (by omega) (by omega) e1 dL_law_827 ?_
  refine kr_i (ws' := wX x A T B ++ wC E A (B 0) S ++ wC E T (B 0) U ++ wG E B G ++ [(o, aJ E 1 (vp_updL f 0 ((f_at 5 (g_ma G) (nI n1) : Int32).toInt64)))] ++ wN E M (0, Hb, a, k)) (va_runV (As := [.int (nI n1)]) (rest := []) ⟨hx, hb, hml, hown, hts⟩ (c_X3_mastsOf l E M th Hb a k n1 hy1 hy2 hy3 hy4 hy5 _) (cwV 1 hts gL_law_X3_mastsOf rfl rfl rfl ⟨rfl, hd_X3_mastsOf⟩ ⟨Nat.le_of_ble_eq_true rfl, Nat.le_of_ble_eq_true rfl⟩) (pwV (ci := 3) (q0 := 22) (C := RX3) hw hK rfl rfl rfl (rpS (AV := [.ref (M 0), .int (nI n1)]) hw hK hG rp_88)) rfl rfl hl.1 rfl (lv_room (Nat.le_of_ble_eq_true rfl)) dL_law_828 ⟨(show cells + 1 + 0 ≤ 1033879 by omega), (show slots + 6 + 0 ≤ 5994467 by omega)⟩) hw hA rp_87 (fun H locs hw => ?_)
  refine lv_istore (lv' := [(6, .int (n_ma Hb n1)), (5, .int 0), (0, .ref b), (1, .ref x), (2, .ref (M 0)), (3, .ref o), (4, .int (nI i))]) hx hb dL_law_831 hl (by decide) rfl (fun ls hl => ?_)
  refine lv_aload_n hx hb dL_law_833 rfl (lv_at hl 4 rfl) ?_
  refine kr_i (ws' := wX x A T B ++ wC E A (B 0) S ++ wC E T (B 0) U ++ wG E B G ++ [(o, aJ E 1 (vp_updL f 0 ((f_at 5 (g_ma G) (nI n1) : Int32).toInt64)))] ++ wN E M (0, Hb, a, k)) (va_runV (As := []) (rest := []) ⟨hx, hb, hml, hown, hts⟩ (c_X3_thrown l E M 0 Hb a k  _) (cwV 0 hts gL_law_X3_thrown rfl rfl rfl ⟨rfl, hd_X3_thrown⟩ ⟨Nat.le_of_ble_eq_true rfl, Nat.le_of_ble_eq_true rfl⟩) (pwV (ci := 3) (q0 := 22) (C := RX3) hw hK rfl rfl rfl (rpS (AV := [.ref (M 0)]) hw hK hG rp_88)) rfl rfl hl.1 rfl (lv_room (Nat.le_of_ble_eq_true rfl)) dL_law_834 ⟨(show cells + 1 + 0 ≤ 1033879 by omega), (show slots + 6 + 0 ≤ 5994467 by omega)⟩) hw hA rp_88 (fun H locs hw => ?_)
  refine lv_iload hx hb dL_law_837 (lv_at hl 1 rfl) ?_
  refine lv_icmp_eq (tgt := 844) hx hb dL_law_839 (by decide) (fun _ => ?_) (fun q8 => absurd (by decide) q8)
  refine lv_iload hx hb dL_law_844 (lv_at hl 1 rfl) ?_
  refine lv_if_ne (tgt := 861) hx hb dL_law_846 (by decide) (fun q8 => absurd (by decide) q8) (fun _ => ?_)
  refine lv_aload_n hx hb dL_law_849 rfl (lv_at hl 5 rfl) ?_
  refine lv_iconst (v := 0) hx hb dL_law_850 (by decide) ?_
  refine k_lld (v := (vp_updL f 0 ((f_at 5 (g_ma G) (nI n1) : Int32).toInt64)) 0) hx hb hK hw 21 rfl (vp_in_nI (n := 0) (N := 1) (by decide) (by decide)) rfl dL_law_851 ?_
  refine lv_iload hx hb dL_law_852 (lv_at hl 0 rfl) ?_
  refine lv_i2l (v := (n_ma Hb n1 : Int32).toInt64) hx hb dL_law_854 rfl ?_
  refine k_lcmpE hx hb dL_law_855 (pk_uLs.trans hy6) ?_
  refine lv_if_eq (tgt := 861) hx hb dL_law_856 (by decide) (fun _ => ?_) (fun q8 => absurd (by decide) q8)
  refine lv_goto (tgt := 2161) hx hb dL_law_861 (by decide) ?_
  refine W.widen (k := cells + 30) (n := slots + 200) (show cells + 1 ≤ cells + 30 by omega) (show slots + 6 ≤ slots + 200 by omega) ?_
  exact kk U (vp_updL f 0 ((f_at 5 (g_ma G) (nI n1) : Int32).toInt64)) 0 k _ _ _ hw (lv_sub hl [2, 3, 4, 5, 6] rfl)

set_option maxHeartbeats 4000000 in
set_option maxRecDepth 100000 in
theorem la_isAway_1 {p9 : Program} {l : Launch} {e : Env} {s9 : State} {m : MethodId} {below : List Frame} {meth : Method} {c : Code} {b L : Nat} {xs : Nat → Int32} (C0 : lw_At p9 s9 m meth c b L xs) (hflags : l.stackTraces = false) (hL : L ≤ 2048) (E : Ev) (hK : va_K E.1 vwCl (tysE E) s9) (hG : Gx s9) (hZ : Zx (aL s9) s9 s9.heap) {Q : State → Prop} (x o : Nat) (A T B M : Nat → Nat) (S U : CS) (G : HS) (th : Int32) (Hb : MH) (a k : Fn) (f : Nat → Int64) (i cells slots : Nat) (hi : i + 4 ≤ L) (z1 : Int32) (e1 : xs (i + 1) = z1) (hy0 : t_ship G z1 = 1) (hy1 : n_ns Hb ≤ 5) (hy2 : n_np Hb ≤ 16) (hy3 : n_nw Hb ≤ 4) (hy4 : ∀ p, p < n_np Hb → n_so Hb p < 5) (hy5 : d_in z1 0 (nI (n_ns Hb) - 1) = false) (hc9 : cells + 30 ≤ 1033879) (hs9 : slots + 200 ≤ 5994467) (kk : ∀ (U1 : CS) (f1 : Nat → Int64) (t1 : Int32) (k1 : Fn) (H : Heap) (locs : List Loc) (ls : Array Slot), Wd E (aL s9) s9.heap (wX x A T B ++ wC E A (B 0) S ++ wC E T (B 0) U1 ++ wG E B G ++ [(o, aJ E 1 f1)] ++ wN E M (t1, Hb, a, k1)) H locs → lv_has ls 9 [(0, .ref b), (1, .ref x), (2, .ref (M 0)), (3, .ref o), (4, .int (nI i))] → W p9 l e room_1 s9 m #[Value.ref b] below meth c H locs (cells + 30) (slots + 200) Q (F0 m 2161 ls [])) {H : Heap} {locs : List Loc} {ls : Array Slot} (hw : Wd E (aL s9) s9.heap (wX x A T B ++ wC E A (B 0) S ++ wC E T (B 0) U ++ wG E B G ++ [(o, aJ E 1 f)] ++ wN E M (th, Hb, a, k)) H locs) (hl : lv_has ls 9 [(0, .ref b), (1, .ref x), (2, .ref (M 0)), (3, .ref o), (4, .int (nI i))]) : W p9 l e room_1 s9 m #[Value.ref b] below meth c H locs cells slots Q (F0 m 864 ls []) := by
  obtain ⟨hx, hb, hr, hml, hown, hts0, hX, hbl, hlocks, hgv⟩ := C0
  have hts : ∀ w ∈ wsL_law, w.before #[Value.ref b] s9 = true := fun w h => hts0 w (wsL_law_in w h)
  have hown : s9.vm.findClass RL = some m.cls := hown
  have hA : ∀ q, s9.heap.size ≤ q → aL s9 q := fun _ h => h
  refine lv_aload_n hx hb dL_law_864 rfl (lv_at hl 1 rfl) ?_
  refine lv_aload_n hx hb dL_law_865 rfl (lv_at hl 0 rfl) ?_
  refine lv_iload hx hb dL_law_866 (lv_at hl 4 rfl) ?_
  refine lv_iconst (v := 1) hx hb dL_law_868 (by decide) ?_
  refine k_iaddN (a := i) (b := 1) hx hb dL_law_869 ?_
  refine k_sldv (i := i + 1) (v := z1) hx hb hX hbl hw (by omega) (by omega) e1 dL_law_870 ?_
  refine lv_aload_n hx hb dL_law_871 rfl (lv_at hl 3 rfl) ?_
  refine krx_i (ws' := wX x A T B ++ wC E A (B 0) S ++ wC E T (B 0) U ++ wG E B G ++ [(o, aJ E 1 f)] ++ wN E M (th, Hb, a, k)) (vx_runSX (As := [.ref x, .int z1, .ref o]) (rest := []) ⟨hx, hb, hml, hown, hts⟩ (c_L_isAway_1 l hflags E x A T B S U G z1 o f hy0 _) (vx_cwSW 3 hts gL_law_L_isAway rfl rfl rfl hd_L_isAway ⟨Nat.le_of_ble_eq_true rfl, Nat.le_of_ble_eq_true rfl⟩) (rpX (AV := [.ref x, .int z1, .ref o]) hw hK hG hZ hA rp_86) rfl rfl hl.1 rfl (lv_room (Nat.le_of_ble_eq_true rfl)) dL_law_872 ⟨(show cells + 1 ≤ 1033879 by omega), (show slots + 6 ≤ 5994467 by omega)⟩) hw hA rp_86 rp_86 (fun H locs ce9 q9 t_1 hw hy1 hy2 hy3 => absurd rfl t_1) (fun H locs t_1 hw => ?_)
  refine lv_istore (lv' := [(5, .int 1), (0, .ref b), (1, .ref x), (2, .ref (M 0)), (3, .ref o), (4, .int (nI i))]) hx hb dL_law_875 hl (by decide) rfl (fun ls hl => ?_)
  refine lv_aload_n hx hb dL_law_877 rfl (lv_at hl 3 rfl) ?_
  refine lv_aload_n hx hb dL_law_878 rfl (lv_at hl 1 rfl) ?_
  refine lv_iload hx hb dL_law_879 (lv_at hl 5 rfl) ?_
  refine lv_iconst (v := 1) hx hb dL_law_881 (by decide) ?_
  refine k_iaddN (a := i) (b := 1) hx hb dL_law_882 ?_
  refine k_sldv (i := i + 1) (v := z1) hx hb hX hbl hw (by omega) (by omega) e1 dL_law_883 ?_
  refine kr_i (ws' := wX x A T B ++ wC E A (B 0) S ++ wC E T (B 0) U ++ wG E B G ++ [(o, aJ E 1 f)] ++ wN E M (1, Hb, a, k)) (va_runV (As := [.int z1]) (rest := []) ⟨hx, hb, hml, hown, hts⟩ (c_X3_isAway_1 l E M th Hb a k z1 hy1 hy2 hy3 hy4 hy5 _) (cwV 1 hts gL_law_X3_isAway rfl rfl rfl ⟨rfl, hd_X3_isAway⟩ ⟨Nat.le_of_ble_eq_true rfl, Nat.le_of_ble_eq_true rfl⟩) (pwV (ci := 3) (q0 := 22) (C := RX3) hw hK rfl rfl rfl (rpS (AV := [.ref (M 0), .int z1]) hw hK hG rp_88)) rfl rfl hl.1 rfl (lv_room (Nat.le_of_ble_eq_true rfl)) dL_law_884 ⟨(show cells + 1 + 0 ≤ 1033879 by omega), (show slots + 6 + 0 ≤ 5994467 by omega)⟩) hw hA rp_87 (fun H locs hw => ?_)
  refine lv_istore (lv' := [(6, .int (bI false)), (5, .int 1), (0, .ref b), (1, .ref x), (2, .ref (M 0)), (3, .ref o), (4, .int (nI i))]) hx hb dL_law_887 hl (by decide) rfl (fun ls hl => ?_)
  refine lv_aload_n hx hb dL_law_889 rfl (lv_at hl 4 rfl) ?_
  refine kr_i (ws' := wX x A T B ++ wC E A (B 0) S ++ wC E T (B 0) U ++ wG E B G ++ [(o, aJ E 1 f)] ++ wN E M (1, Hb, a, k)) (va_runV (As := []) (rest := []) ⟨hx, hb, hml, hown, hts⟩ (c_X3_thrown l E M 1 Hb a k  _) (cwV 0 hts gL_law_X3_thrown rfl rfl rfl ⟨rfl, hd_X3_thrown⟩ ⟨Nat.le_of_ble_eq_true rfl, Nat.le_of_ble_eq_true rfl⟩) (pwV (ci := 3) (q0 := 22) (C := RX3) hw hK rfl rfl rfl (rpS (AV := [.ref (M 0)]) hw hK hG rp_88)) rfl rfl hl.1 rfl (lv_room (Nat.le_of_ble_eq_true rfl)) dL_law_890 ⟨(show cells + 1 + 0 ≤ 1033879 by omega), (show slots + 6 + 0 ≤ 5994467 by omega)⟩) hw hA rp_88 (fun H locs hw => ?_)
  refine lv_iload hx hb dL_law_893 (lv_at hl 1 rfl) ?_
  refine lv_icmp_eq (tgt := 900) hx hb dL_law_895 (by decide) (fun _ => ?_) (fun q8 => absurd (by decide) q8)
  refine lv_iload hx hb dL_law_900 (lv_at hl 1 rfl) ?_
  refine lv_if_ne (tgt := 924) hx hb dL_law_902 (by decide) (fun _ => ?_) (fun q8 => absurd q8 (by decide))
  refine lv_goto (tgt := 2161) hx hb dL_law_924 (by decide) ?_
  refine W.widen (k := cells + 30) (n := slots + 200) (show cells + 1 ≤ cells + 30 by omega) (show slots + 6 ≤ slots + 200 by omega) ?_
  exact kk U f 1 k _ _ _ hw (lv_sub hl [2, 3, 4, 5, 6] rfl)

set_option maxHeartbeats 4000000 in
set_option maxRecDepth 100000 in
theorem la_isAway {p9 : Program} {l : Launch} {e : Env} {s9 : State} {m : MethodId} {below : List Frame} {meth : Method} {c : Code} {b L : Nat} {xs : Nat → Int32} (C0 : lw_At p9 s9 m meth c b L xs) (hflags : l.stackTraces = false) (hL : L ≤ 2048) (E : Ev) (hK : va_K E.1 vwCl (tysE E) s9) (hG : Gx s9) (hZ : Zx (aL s9) s9 s9.heap) {Q : State → Prop} (x o : Nat) (A T B M : Nat → Nat) (S U : CS) (G : HS) (th : Int32) (Hb : MH) (a k : Fn) (f : Nat → Int64) (i cells slots : Nat) (hi : i + 4 ≤ L) (n1 : Nat) (e1 : xs (i + 1) = nI n1) (hy0 : t_ship G (nI n1) = 0) (hy1 : n_ns Hb ≤ 5) (hy2 : n_np Hb ≤ 16) (hy3 : n_nw Hb ≤ 4) (hy4 : ∀ p, p < n_np Hb → n_so Hb p < 5) (hy5 : n1 < n_ns Hb) (hy6 : decide (¬ f_stay S (nI n1) = 0) = (if a (3 + 3 * n1 + 0) = 0 then false else true)) (hc9 : cells + 30 ≤ 1033879) (hs9 : slots + 200 ≤ 5994467) (kk : ∀ (U1 : CS) (f1 : Nat → Int64) (t1 : Int32) (k1 : Fn) (H : Heap) (locs : List Loc) (ls : Array Slot), Wd E (aL s9) s9.heap (wX x A T B ++ wC E A (B 0) S ++ wC E T (B 0) U1 ++ wG E B G ++ [(o, aJ E 1 f1)] ++ wN E M (t1, Hb, a, k1)) H locs → lv_has ls 9 [(0, .ref b), (1, .ref x), (2, .ref (M 0)), (3, .ref o), (4, .int (nI i))] → W p9 l e room_1 s9 m #[Value.ref b] below meth c H locs (cells + 30) (slots + 200) Q (F0 m 2161 ls [])) {H : Heap} {locs : List Loc} {ls : Array Slot} (hw : Wd E (aL s9) s9.heap (wX x A T B ++ wC E A (B 0) S ++ wC E T (B 0) U ++ wG E B G ++ [(o, aJ E 1 f)] ++ wN E M (th, Hb, a, k)) H locs) (hl : lv_has ls 9 [(0, .ref b), (1, .ref x), (2, .ref (M 0)), (3, .ref o), (4, .int (nI i))]) : W p9 l e room_1 s9 m #[Value.ref b] below meth c H locs cells slots Q (F0 m 864 ls []) := by
  obtain ⟨hx, hb, hr, hml, hown, hts0, hX, hbl, hlocks, hgv⟩ := C0
  have hts : ∀ w ∈ wsL_law, w.before #[Value.ref b] s9 = true := fun w h => hts0 w (wsL_law_in w h)
  have hown : s9.vm.findClass RL = some m.cls := hown
  have hA : ∀ q, s9.heap.size ≤ q → aL s9 q := fun _ h => h
  refine lv_aload_n hx hb dL_law_864 rfl (lv_at hl 1 rfl) ?_
  refine lv_aload_n hx hb dL_law_865 rfl (lv_at hl 0 rfl) ?_
  refine lv_iload hx hb dL_law_866 (lv_at hl 4 rfl) ?_
  refine lv_iconst (v := 1) hx hb dL_law_868 (by decide) ?_
  refine k_iaddN (a := i) (b := 1) hx hb dL_law_869 ?_
  refine k_sldv (i := i + 1) (v := nI n1) hx hb hX hbl hw (by omega) (by omega) e1 dL_law_870 ?_
  refine lv_aload_n hx hb dL_law_871 rfl (lv_at hl 3 rfl) ?_
  refine krx_i (ws' := wX x A T B ++ wC E A (B 0) S ++ wC E T (B 0) U ++ wG E B G ++ [(o, aJ E 1 (vp_updL f 0 (if decide (¬ f_stay S (nI n1) = 0) = true then 1 else 0)))] ++ wN E M (th, Hb, a, k)) (vx_runSX (As := [.ref x, .int (nI n1), .ref o]) (rest := []) ⟨hx, hb, hml, hown, hts⟩ (c_L_isAway l hflags E x A T B S U G (nI n1) o f hy0 _) (vx_cwSW 3 hts gL_law_L_isAway rfl rfl rfl hd_L_isAway ⟨Nat.le_of_ble_eq_true rfl, Nat.le_of_ble_eq_true rfl⟩) (rpX (AV := [.ref x, .int (nI n1), .ref o]) hw hK hG hZ hA rp_86) rfl rfl hl.1 rfl (lv_room (Nat.le_of_ble_eq_true rfl)) dL_law_872 ⟨(show cells + 1 ≤ 1033879 by omega), (show slots + 6 ≤ 5994467 by omega)⟩) hw hA rp_93 rp_86 (fun H locs ce9 q9 t_1 hw hy1 hy2 hy3 => absurd rfl t_1) (fun H locs t_1 hw => ?_)
  refine lv_istore (lv' := [(5, .int 0), (0, .ref b), (1, .ref x), (2, .ref (M 0)), (3, .ref o), (4, .int (nI i))]) hx hb dL_law_875 hl (by decide) rfl (fun ls hl => ?_)
  refine lv_aload_n hx hb dL_law_877 rfl (lv_at hl 3 rfl) ?_
  refine lv_aload_n hx hb dL_law_878 rfl (lv_at hl 1 rfl) ?_
  refine lv_iload hx hb dL_law_879 (lv_at hl 5 rfl) ?_
  refine lv_iconst (v := 1) hx hb dL_law_881 (by decide) ?_
  refine k_iaddN (a := i) (b := 1) hx hb dL_law_882 ?_
  refine k_sldv (i := i + 1) (v := nI n1) hx hb hX hbl hw (by omega) (by omega) e1 dL_law_883 ?_
  refine kr_i (ws' := wX x A T B ++ wC E A (B 0) S ++ wC E T (B 0) U ++ wG E B G ++ [(o, aJ E 1 (vp_updL f 0 (if decide (¬ f_stay S (nI n1) = 0) = true then 1 else 0)))] ++ wN E M (0, Hb, a, k)) (va_runV (As := [.int (nI n1)]) (rest := []) ⟨hx, hb, hml, hown, hts⟩ (c_X3_isAway l E M th Hb a k n1 hy1 hy2 hy3 hy4 hy5 _) (cwV 1 hts gL_law_X3_isAway rfl rfl rfl ⟨rfl, hd_X3_isAway⟩ ⟨Nat.le_of_ble_eq_true rfl, Nat.le_of_ble_eq_true rfl⟩) (pwV (ci := 3) (q0 := 22) (C := RX3) hw hK rfl rfl rfl (rpS (AV := [.ref (M 0), .int (nI n1)]) hw hK hG rp_88)) rfl rfl hl.1 rfl (lv_room (Nat.le_of_ble_eq_true rfl)) dL_law_884 ⟨(show cells + 1 + 0 ≤ 1033879 by omega), (show slots + 6 + 0 ≤ 5994467 by omega)⟩) hw hA rp_87 (fun H locs hw => ?_)
  refine lv_istore (lv' := [(6, .int (bI (if a (3 + 3 * n1 + 0) = 0 then false else true))), (5, .int 0), (0, .ref b), (1, .ref x), (2, .ref (M 0)), (3, .ref o), (4, .int (nI i))]) hx hb dL_law_887 hl (by decide) rfl (fun ls hl => ?_)
  refine lv_aload_n hx hb dL_law_889 rfl (lv_at hl 4 rfl) ?_
  refine kr_i (ws' := wX x A T B ++ wC E A (B 0) S ++ wC E T (B 0) U ++ wG E B G ++ [(o, aJ E 1 (vp_updL f 0 (if decide (¬ f_stay S (nI n1) = 0) = true then 1 else 0)))] ++ wN E M (0, Hb, a, k)) (va_runV (As := []) (rest := []) ⟨hx, hb, hml, hown, hts⟩ (c_X3_thrown l E M 0 Hb a k  _) (cwV 0 hts gL_law_X3_thrown rfl rfl rfl ⟨rfl, hd_X3_thrown⟩ ⟨Nat.le_of_ble_eq_true rfl, Nat.le_of_ble_eq_true rfl⟩) (pwV (ci := 3) (q0 := 22) (C := RX3) hw hK rfl rfl rfl (rpS (AV := [.ref (M 0)]) hw hK hG rp_88)) rfl rfl hl.1 rfl (lv_room (Nat.le_of_ble_eq_true rfl)) dL_law_890 ⟨(show cells + 1 + 0 ≤ 1033879 by omega), (show slots + 6 + 0 ≤ 5994467 by omega)⟩) hw hA rp_88 (fun H locs hw => ?_)
  refine lv_iload hx hb dL_law_893 (lv_at hl 1 rfl) ?_
  refine lv_icmp_eq (tgt := 900) hx hb dL_law_895 (by decide) (fun _ => ?_) (fun q8 => absurd (by decide) q8)
  refine lv_iload hx hb dL_law_900 (lv_at hl 1 rfl) ?_
  refine lv_if_ne (tgt := 924) hx hb dL_law_902 (by decide) (fun q8 => absurd (by decide) q8) (fun _ => ?_)
  refine lv_aload_n hx hb dL_law_905 rfl (lv_at hl 5 rfl) ?_
  refine lv_iconst (v := 0) hx hb dL_law_906 (by decide) ?_
  refine k_lld (v := (vp_updL f 0 (if decide (¬ f_stay S (nI n1) = 0) = true then 1 else 0)) 0) hx hb hK hw 21 rfl (vp_in_nI (n := 0) (N := 1) (by decide) (by decide)) rfl dL_law_907 ?_
  refine lv_iload hx hb dL_law_908 (lv_at hl 0 rfl) ?_
  refine lv_if_eq (tgt := 917) hx hb dL_law_910 (by decide) (fun c_2 => ?_) (fun c_2 => ?_)
  · have c_2 := bI_z c_2
    refine lv_lconst (v := 0) hx hb dL_law_917 (by decide) ?_
    refine k_lcmpE hx hb dL_law_918 (pk_uLs.trans (by rw [hy6, c_2]; rfl)) ?_
    refine lv_if_eq (tgt := 924) hx hb dL_law_919 (by decide) (fun _ => ?_) (fun q8 => absurd (by decide) q8)
    refine lv_goto (tgt := 2161) hx hb dL_law_924 (by decide) ?_
    refine W.widen (k := cells + 30) (n := slots + 200) (show cells + 1 ≤ cells + 30 by omega) (show slots + 6 ≤ slots + 200 by omega) ?_
    exact kk U (vp_updL f 0 (if decide (¬ f_stay S (nI n1) = 0) = true then 1 else 0)) 0 k _ _ _ hw (lv_sub hl [2, 3, 4, 5, 6] rfl)
  · have c_2 := bI_nz c_2
    refine lv_lconst (v := 1) hx hb dL_law_913 (by decide) ?_
    refine lv_goto (tgt := 918) hx hb dL_law_914 (by decide) ?_
    refine k_lcmpE hx hb dL_law_918 (pk_uLs.trans (by rw [hy6, c_2]; rfl)) ?_
    refine lv_if_eq (tgt := 924) hx hb dL_law_919 (by decide) (fun _ => ?_) (fun q8 => absurd (by decide) q8)
    refine lv_goto (tgt := 2161) hx hb dL_law_924 (by decide) ?_
    refine W.widen (k := cells + 30) (n := slots + 200) (show cells + 1 ≤ cells + 30 by omega) (show slots + 6 ≤ slots + 200 by omega) ?_
    exact kk U (vp_updL f 0 (if decide (¬ f_stay S (nI n1) = 0) = true then 1 else 0)) 0 k _ _ _ hw (lv_sub hl [2, 3, 4, 5, 6] rfl)

set_option maxHeartbeats 4000000 in
set_option maxRecDepth 100000 in
theorem la_isLost_1 {p9 : Program} {l : Launch} {e : Env} {s9 : State} {m : MethodId} {below : List Frame} {meth : Method} {c : Code} {b L : Nat} {xs : Nat → Int32} (C0 : lw_At p9 s9 m meth c b L xs) (hflags : l.stackTraces = false) (hL : L ≤ 2048) (E : Ev) (hK : va_K E.1 vwCl (tysE E) s9) (hG : Gx s9) (hZ : Zx (aL s9) s9 s9.heap) {Q : State → Prop} (x o : Nat) (A T B M : Nat → Nat) (S U : CS) (G : HS) (th : Int32) (Hb : MH) (a k : Fn) (f : Nat → Int64) (i cells slots : Nat) (hi : i + 4 ≤ L) (z1 : Int32) (e1 : xs (i + 1) = z1) (hy0 : t_ship G z1 = 1) (hy1 : n_ns Hb ≤ 5) (hy2 : n_np Hb ≤ 16) (hy3 : n_nw Hb ≤ 4) (hy4 : ∀ p, p < n_np Hb → n_so Hb p < 5) (hy5 : d_in z1 0 (nI (n_ns Hb) - 1) = false) (hc9 : cells + 30 ≤ 1033879) (hs9 : slots + 200 ≤ 5994467) (kk : ∀ (U1 : CS) (f1 : Nat → Int64) (t1 : Int32) (k1 : Fn) (H : Heap) (locs : List Loc) (ls : Array Slot), Wd E (aL s9) s9.heap (wX x A T B ++ wC E A (B 0) S ++ wC E T (B 0) U1 ++ wG E B G ++ [(o, aJ E 1 f1)] ++ wN E M (t1, Hb, a, k1)) H locs → lv_has ls 9 [(0, .ref b), (1, .ref x), (2, .ref (M 0)), (3, .ref o), (4, .int (nI i))] → W p9 l e room_1 s9 m #[Value.ref b] below meth c H locs (cells + 30) (slots + 200) Q (F0 m 2161 ls [])) {H : Heap} {locs : List Loc} {ls : Array Slot} (hw : Wd E (aL s9) s9.heap (wX x A T B ++ wC E A (B 0) S ++ wC E T (B 0) U ++ wG E B G ++ [(o, aJ E 1 f)] ++ wN E M (th, Hb, a, k)) H locs) (hl : lv_has ls 9 [(0, .ref b), (1, .ref x), (2, .ref (M 0)), (3, .ref o), (4, .int (nI i))]) : W p9 l e room_1 s9 m #[Value.ref b] below meth c H locs cells slots Q (F0 m 927 ls []) := by
  obtain ⟨hx, hb, hr, hml, hown, hts0, hX, hbl, hlocks, hgv⟩ := C0
  have hts : ∀ w ∈ wsL_law, w.before #[Value.ref b] s9 = true := fun w h => hts0 w (wsL_law_in w h)
  have hown : s9.vm.findClass RL = some m.cls := hown
  have hA : ∀ q, s9.heap.size ≤ q → aL s9 q := fun _ h => h
  refine lv_aload_n hx hb dL_law_927 rfl (lv_at hl 1 rfl) ?_
  refine lv_aload_n hx hb dL_law_928 rfl (lv_at hl 0 rfl) ?_
  refine lv_iload hx hb dL_law_929 (lv_at hl 4 rfl) ?_
  refine lv_iconst (v := 1) hx hb dL_law_931 (by decide) ?_
  refine k_iaddN (a := i) (b := 1) hx hb dL_law_932 ?_
  refine k_sldv (i := i + 1) (v := z1) hx hb hX hbl hw (by omega) (by omega) e1 dL_law_933 ?_
  refine lv_aload_n hx hb dL_law_934 rfl (lv_at hl 3 rfl) ?_
  refine krx_i (ws' := wX x A T B ++ wC E A (B 0) S ++ wC E T (B 0) U ++ wG E B G ++ [(o, aJ E 1 f)] ++ wN E M (th, Hb, a, k)) (vx_runSX (As := [.ref x, .int z1, .ref o]) (rest := []) ⟨hx, hb, hml, hown, hts⟩ (c_L_isLost_1 l hflags E x A T B S U G z1 o f hy0 _) (vx_cwSW 3 hts gL_law_L_isLost rfl rfl rfl hd_L_isLost ⟨Nat.le_of_ble_eq_true rfl, Nat.le_of_ble_eq_true rfl⟩) (rpX (AV := [.ref x, .int z1, .ref o]) hw hK hG hZ hA rp_86) rfl rfl hl.1 rfl (lv_room (Nat.le_of_ble_eq_true rfl)) dL_law_935 ⟨(show cells + 1 ≤ 1033879 by omega), (show slots + 6 ≤ 5994467 by omega)⟩) hw hA rp_86 rp_86 (fun H locs ce9 q9 t_1 hw hy1 hy2 hy3 => absurd rfl t_1) (fun H locs t_1 hw => ?_)
  refine lv_istore (lv' := [(5, .int 1), (0, .ref b), (1, .ref x), (2, .ref (M 0)), (3, .ref o), (4, .int (nI i))]) hx hb dL_law_938 hl (by decide) rfl (fun ls hl => ?_)
  refine lv_aload_n hx hb dL_law_940 rfl (lv_at hl 3 rfl) ?_
  refine lv_aload_n hx hb dL_law_941 rfl (lv_at hl 1 rfl) ?_
  refine lv_iload hx hb dL_law_942 (lv_at hl 5 rfl) ?_
  refine lv_iconst (v := 1) hx hb dL_law_944 (by decide) ?_
  refine k_iaddN (a := i) (b := 1) hx hb dL_law_945 ?_
  refine k_sldv (i := i + 1) (v := z1) hx hb hX hbl hw (by omega) (by omega) e1 dL_law_946 ?_
  refine kr_i (ws' := wX x A T B ++ wC E A (B 0) S ++ wC E T (B 0) U ++ wG E B G ++ [(o, aJ E 1 f)] ++ wN E M (1, Hb, a, k)) (va_runV (As := [.int z1]) (rest := []) ⟨hx, hb, hml, hown, hts⟩ (c_X3_isLost_1 l E M th Hb a k z1 hy1 hy2 hy3 hy4 hy5 _) (cwV 1 hts gL_law_X3_isLost rfl rfl rfl ⟨rfl, hd_X3_isLost⟩ ⟨Nat.le_of_ble_eq_true rfl, Nat.le_of_ble_eq_true rfl⟩) (pwV (ci := 3) (q0 := 22) (C := RX3) hw hK rfl rfl rfl (rpS (AV := [.ref (M 0), .int z1]) hw hK hG rp_88)) rfl rfl hl.1 rfl (lv_room (Nat.le_of_ble_eq_true rfl)) dL_law_947 ⟨(show cells + 1 + 0 ≤ 1033879 by omega), (show slots + 6 + 0 ≤ 5994467 by omega)⟩) hw hA rp_87 (fun H locs hw => ?_)
  refine lv_istore (lv' := [(6, .int (bI false)), (5, .int 1), (0, .ref b), (1, .ref x), (2, .ref (M 0)), (3, .ref o), (4, .int (nI i))]) hx hb dL_law_950 hl (by decide) rfl (fun ls hl => ?_)
  refine lv_aload_n hx hb dL_law_952 rfl (lv_at hl 4 rfl) ?_
  refine kr_i (ws' := wX x A T B ++ wC E A (B 0) S ++ wC E T (B 0) U ++ wG E B G ++ [(o, aJ E 1 f)] ++ wN E M (1, Hb, a, k)) (va_runV (As := []) (rest := []) ⟨hx, hb, hml, hown, hts⟩ (c_X3_thrown l E M 1 Hb a k  _) (cwV 0 hts gL_law_X3_thrown rfl rfl rfl ⟨rfl, hd_X3_thrown⟩ ⟨Nat.le_of_ble_eq_true rfl, Nat.le_of_ble_eq_true rfl⟩) (pwV (ci := 3) (q0 := 22) (C := RX3) hw hK rfl rfl rfl (rpS (AV := [.ref (M 0)]) hw hK hG rp_88)) rfl rfl hl.1 rfl (lv_room (Nat.le_of_ble_eq_true rfl)) dL_law_953 ⟨(show cells + 1 + 0 ≤ 1033879 by omega), (show slots + 6 + 0 ≤ 5994467 by omega)⟩) hw hA rp_88 (fun H locs hw => ?_)
  refine lv_iload hx hb dL_law_956 (lv_at hl 1 rfl) ?_
  refine lv_icmp_eq (tgt := 963) hx hb dL_law_958 (by decide) (fun _ => ?_) (fun q8 => absurd (by decide) q8)
  refine lv_iload hx hb dL_law_963 (lv_at hl 1 rfl) ?_
  refine lv_if_ne (tgt := 987) hx hb dL_law_965 (by decide) (fun _ => ?_) (fun q8 => absurd q8 (by decide))
  refine lv_goto (tgt := 2161) hx hb dL_law_987 (by decide) ?_
  refine W.widen (k := cells + 30) (n := slots + 200) (show cells + 1 ≤ cells + 30 by omega) (show slots + 6 ≤ slots + 200 by omega) ?_
  exact kk U f 1 k _ _ _ hw (lv_sub hl [2, 3, 4, 5, 6] rfl)

set_option maxHeartbeats 4000000 in
set_option maxRecDepth 100000 in
theorem la_isLost {p9 : Program} {l : Launch} {e : Env} {s9 : State} {m : MethodId} {below : List Frame} {meth : Method} {c : Code} {b L : Nat} {xs : Nat → Int32} (C0 : lw_At p9 s9 m meth c b L xs) (hflags : l.stackTraces = false) (hL : L ≤ 2048) (E : Ev) (hK : va_K E.1 vwCl (tysE E) s9) (hG : Gx s9) (hZ : Zx (aL s9) s9 s9.heap) {Q : State → Prop} (x o : Nat) (A T B M : Nat → Nat) (S U : CS) (G : HS) (th : Int32) (Hb : MH) (a k : Fn) (f : Nat → Int64) (i cells slots : Nat) (hi : i + 4 ≤ L) (n1 : Nat) (e1 : xs (i + 1) = nI n1) (hy0 : t_ship G (nI n1) = 0) (hy1 : n_ns Hb ≤ 5) (hy2 : n_np Hb ≤ 16) (hy3 : n_nw Hb ≤ 4) (hy4 : ∀ p, p < n_np Hb → n_so Hb p < 5) (hy5 : n1 < n_ns Hb) (hy6 : decide (f_stay S (nI n1) = 2) = (if a (3 + 3 * n1 + 0) = 2 then true else false)) (hc9 : cells + 30 ≤ 1033879) (hs9 : slots + 200 ≤ 5994467) (kk : ∀ (U1 : CS) (f1 : Nat → Int64) (t1 : Int32) (k1 : Fn) (H : Heap) (locs : List Loc) (ls : Array Slot), Wd E (aL s9) s9.heap (wX x A T B ++ wC E A (B 0) S ++ wC E T (B 0) U1 ++ wG E B G ++ [(o, aJ E 1 f1)] ++ wN E M (t1, Hb, a, k1)) H locs → lv_has ls 9 [(0, .ref b), (1, .ref x), (2, .ref (M 0)), (3, .ref o), (4, .int (nI i))] → W p9 l e room_1 s9 m #[Value.ref b] below meth c H locs (cells + 30) (slots + 200) Q (F0 m 2161 ls [])) {H : Heap} {locs : List Loc} {ls : Array Slot} (hw : Wd E (aL s9) s9.heap (wX x A T B ++ wC E A (B 0) S ++ wC E T (B 0) U ++ wG E B G ++ [(o, aJ E 1 f)] ++ wN E M (th, Hb, a, k)) H locs) (hl : lv_has ls 9 [(0, .ref b), (1, .ref x), (2, .ref (M 0)), (3, .ref o), (4, .int (nI i))]) : W p9 l e room_1 s9 m #[Value.ref b] below meth c H locs cells slots Q (F0 m 927 ls []) := by
  obtain ⟨hx, hb, hr, hml, hown, hts0, hX, hbl, hlocks, hgv⟩ := C0
  have hts : ∀ w ∈ wsL_law, w.before #[Value.ref b] s9 = true := fun w h => hts0 w (wsL_law_in w h)
  have hown : s9.vm.findClass RL = some m.cls := hown
  have hA : ∀ q, s9.heap.size ≤ q → aL s9 q := fun _ h => h
  refine lv_aload_n hx hb dL_law_927 rfl (lv_at hl 1 rfl) ?_
  refine lv_aload_n hx hb dL_law_928 rfl (lv_at hl 0 rfl) ?_
  refine lv_iload hx hb dL_law_929 (lv_at hl 4 rfl) ?_
  refine lv_iconst (v := 1) hx hb dL_law_931 (by decide) ?_
  refine k_iaddN (a := i) (b := 1) hx hb dL_law_932 ?_
  refine k_sldv (i := i + 1) (v := nI n1) hx hb hX hbl hw (by omega) (by omega) e1 dL_law_933 ?_
  refine lv_aload_n hx hb dL_law_934 rfl (lv_at hl 3 rfl) ?_
  refine krx_i (ws' := wX x A T B ++ wC E A (B 0) S ++ wC E T (B 0) U ++ wG E B G ++ [(o, aJ E 1 (vp_updL f 0 (if decide (f_stay S (nI n1) = 2) = true then 1 else 0)))] ++ wN E M (th, Hb, a, k)) (vx_runSX (As := [.ref x, .int (nI n1), .ref o]) (rest := []) ⟨hx, hb, hml, hown, hts⟩ (c_L_isLost l hflags E x A T B S U G (nI n1) o f hy0 _) (vx_cwSW 3 hts gL_law_L_isLost rfl rfl rfl hd_L_isLost ⟨Nat.le_of_ble_eq_true rfl, Nat.le_of_ble_eq_true rfl⟩) (rpX (AV := [.ref x, .int (nI n1), .ref o]) hw hK hG hZ hA rp_86) rfl rfl hl.1 rfl (lv_room (Nat.le_of_ble_eq_true rfl)) dL_law_935 ⟨(show cells + 1 ≤ 1033879 by omega), (show slots + 6 ≤ 5994467 by omega)⟩) hw hA rp_93 rp_86 (fun H locs ce9 q9 t_1 hw hy1 hy2 hy3 => absurd rfl t_1) (fun H locs t_1 hw => ?_)
  refine lv_istore (lv' := [(5, .int 0), (0, .ref b), (1, .ref x), (2, .ref (M 0)), (3, .ref o), (4, .int (nI i))]) hx hb dL_law_938 hl (by decide) rfl (fun ls hl => ?_)
  refine lv_aload_n hx hb dL_law_940 rfl (lv_at hl 3 rfl) ?_
  refine lv_aload_n hx hb dL_law_941 rfl (lv_at hl 1 rfl) ?_
  refine lv_iload hx hb dL_law_942 (lv_at hl 5 rfl) ?_
  refine lv_iconst (v := 1) hx hb dL_law_944 (by decide) ?_
  refine k_iaddN (a := i) (b := 1) hx hb dL_law_945 ?_
  refine k_sldv (i := i + 1) (v := nI n1) hx hb hX hbl hw (by omega) (by omega) e1 dL_law_946 ?_
  refine kr_i (ws' := wX x A T B ++ wC E A (B 0) S ++ wC E T (B 0) U ++ wG E B G ++ [(o, aJ E 1 (vp_updL f 0 (if decide (f_stay S (nI n1) = 2) = true then 1 else 0)))] ++ wN E M (0, Hb, a, k)) (va_runV (As := [.int (nI n1)]) (rest := []) ⟨hx, hb, hml, hown, hts⟩ (c_X3_isLost l E M th Hb a k n1 hy1 hy2 hy3 hy4 hy5 _) (cwV 1 hts gL_law_X3_isLost rfl rfl rfl ⟨rfl, hd_X3_isLost⟩ ⟨Nat.le_of_ble_eq_true rfl, Nat.le_of_ble_eq_true rfl⟩) (pwV (ci := 3) (q0 := 22) (C := RX3) hw hK rfl rfl rfl (rpS (AV := [.ref (M 0), .int (nI n1)]) hw hK hG rp_88)) rfl rfl hl.1 rfl (lv_room (Nat.le_of_ble_eq_true rfl)) dL_law_947 ⟨(show cells + 1 + 0 ≤ 1033879 by omega), (show slots + 6 + 0 ≤ 5994467 by omega)⟩) hw hA rp_87 (fun H locs hw => ?_)
  refine lv_istore (lv' := [(6, .int (bI (if a (3 + 3 * n1 + 0) = 2 then true else false))), (5, .int 0), (0, .ref b), (1, .ref x), (2, .ref (M 0)), (3, .ref o), (4, .int (nI i))]) hx hb dL_law_950 hl (by decide) rfl (fun ls hl => ?_)
  refine lv_aload_n hx hb dL_law_952 rfl (lv_at hl 4 rfl) ?_
  refine kr_i (ws' := wX x A T B ++ wC E A (B 0) S ++ wC E T (B 0) U ++ wG E B G ++ [(o, aJ E 1 (vp_updL f 0 (if decide (f_stay S (nI n1) = 2) = true then 1 else 0)))] ++ wN E M (0, Hb, a, k)) (va_runV (As := []) (rest := []) ⟨hx, hb, hml, hown, hts⟩ (c_X3_thrown l E M 0 Hb a k  _) (cwV 0 hts gL_law_X3_thrown rfl rfl rfl ⟨rfl, hd_X3_thrown⟩ ⟨Nat.le_of_ble_eq_true rfl, Nat.le_of_ble_eq_true rfl⟩) (pwV (ci := 3) (q0 := 22) (C := RX3) hw hK rfl rfl rfl (rpS (AV := [.ref (M 0)]) hw hK hG rp_88)) rfl rfl hl.1 rfl (lv_room (Nat.le_of_ble_eq_true rfl)) dL_law_953 ⟨(show cells + 1 + 0 ≤ 1033879 by omega), (show slots + 6 + 0 ≤ 5994467 by omega)⟩) hw hA rp_88 (fun H locs hw => ?_)
  refine lv_iload hx hb dL_law_956 (lv_at hl 1 rfl) ?_
  refine lv_icmp_eq (tgt := 963) hx hb dL_law_958 (by decide) (fun _ => ?_) (fun q8 => absurd (by decide) q8)
  refine lv_iload hx hb dL_law_963 (lv_at hl 1 rfl) ?_
  refine lv_if_ne (tgt := 987) hx hb dL_law_965 (by decide) (fun q8 => absurd (by decide) q8) (fun _ => ?_)
  refine lv_aload_n hx hb dL_law_968 rfl (lv_at hl 5 rfl) ?_
  refine lv_iconst (v := 0) hx hb dL_law_969 (by decide) ?_
  refine k_lld (v := (vp_updL f 0 (if decide (f_stay S (nI n1) = 2) = true then 1 else 0)) 0) hx hb hK hw 21 rfl (vp_in_nI (n := 0) (N := 1) (by decide) (by decide)) rfl dL_law_970 ?_
  refine lv_iload hx hb dL_law_971 (lv_at hl 0 rfl) ?_
  refine lv_if_eq (tgt := 980) hx hb dL_law_973 (by decide) (fun c_2 => ?_) (fun c_2 => ?_)
  · have c_2 := bI_z c_2
    refine lv_lconst (v := 0) hx hb dL_law_980 (by decide) ?_
    refine k_lcmpE hx hb dL_law_981 (pk_uLs.trans (by rw [hy6, c_2]; rfl)) ?_
    refine lv_if_eq (tgt := 987) hx hb dL_law_982 (by decide) (fun _ => ?_) (fun q8 => absurd (by decide) q8)
    refine lv_goto (tgt := 2161) hx hb dL_law_987 (by decide) ?_
    refine W.widen (k := cells + 30) (n := slots + 200) (show cells + 1 ≤ cells + 30 by omega) (show slots + 6 ≤ slots + 200 by omega) ?_
    exact kk U (vp_updL f 0 (if decide (f_stay S (nI n1) = 2) = true then 1 else 0)) 0 k _ _ _ hw (lv_sub hl [2, 3, 4, 5, 6] rfl)
  · have c_2 := bI_nz c_2
    refine lv_lconst (v := 1) hx hb dL_law_976 (by decide) ?_
    refine lv_goto (tgt := 981) hx hb dL_law_977 (by decide) ?_
    refine k_lcmpE hx hb dL_law_981 (pk_uLs.trans (by rw [hy6, c_2]; rfl)) ?_
    refine lv_if_eq (tgt := 987) hx hb dL_law_982 (by decide) (fun _ => ?_) (fun q8 => absurd (by decide) q8)
    refine lv_goto (tgt := 2161) hx hb dL_law_987 (by decide) ?_
    refine W.widen (k := cells + 30) (n := slots + 200) (show cells + 1 ≤ cells + 30 by omega) (show slots + 6 ≤ slots + 200 by omega) ?_
    exact kk U (vp_updL f 0 (if decide (f_stay S (nI n1) = 2) = true then 1 else 0)) 0 k _ _ _ hw (lv_sub hl [2, 3, 4, 5, 6] rfl)

set_option maxHeartbeats 4000000 in
set_option maxRecDepth 100000 in
theorem la_nightsOut_1 {p9 : Program} {l : Launch} {e : Env} {s9 : State} {m : MethodId} {below : List Frame} {meth : Method} {c : Code} {b L : Nat} {xs : Nat → Int32} (C0 : lw_At p9 s9 m meth c b L xs) (hflags : l.stackTraces = false) (hL : L ≤ 2048) (E : Ev) (hK : va_K E.1 vwCl (tysE E) s9) (hG : Gx s9) (hZ : Zx (aL s9) s9 s9.heap) {Q : State → Prop} (x o : Nat) (A T B M : Nat → Nat) (S U : CS) (G : HS) (th : Int32) (Hb : MH) (a k : Fn) (f : Nat → Int64) (i cells slots : Nat) (hi : i + 4 ≤ L) (z1 : Int32) (e1 : xs (i + 1) = z1) (hy0 : t_ship G z1 = 1) (hy1 : n_ns Hb ≤ 5) (hy2 : n_np Hb ≤ 16) (hy3 : n_nw Hb ≤ 4) (hy4 : ∀ p, p < n_np Hb → n_so Hb p < 5) (hy5 : d_in z1 0 (nI (n_ns Hb) - 1) = false) (hc9 : cells + 30 ≤ 1033879) (hs9 : slots + 200 ≤ 5994467) (kk : ∀ (U1 : CS) (f1 : Nat → Int64) (t1 : Int32) (k1 : Fn) (H : Heap) (locs : List Loc) (ls : Array Slot), Wd E (aL s9) s9.heap (wX x A T B ++ wC E A (B 0) S ++ wC E T (B 0) U1 ++ wG E B G ++ [(o, aJ E 1 f1)] ++ wN E M (t1, Hb, a, k1)) H locs → lv_has ls 9 [(0, .ref b), (1, .ref x), (2, .ref (M 0)), (3, .ref o), (4, .int (nI i))] → W p9 l e room_1 s9 m #[Value.ref b] below meth c H locs (cells + 30) (slots + 200) Q (F0 m 2161 ls [])) {H : Heap} {locs : List Loc} {ls : Array Slot} (hw : Wd E (aL s9) s9.heap (wX x A T B ++ wC E A (B 0) S ++ wC E T (B 0) U ++ wG E B G ++ [(o, aJ E 1 f)] ++ wN E M (th, Hb, a, k)) H locs) (hl : lv_has ls 9 [(0, .ref b), (1, .ref x), (2, .ref (M 0)), (3, .ref o), (4, .int (nI i))]) : W p9 l e room_1 s9 m #[Value.ref b] below meth c H locs cells slots Q (F0 m 990 ls []) := by
  obtain ⟨hx, hb, hr, hml, hown, hts0, hX, hbl, hlocks, hgv⟩ := C0
  have hts : ∀ w ∈ wsL_law, w.before #[Value.ref b] s9 = true := fun w h => hts0 w (wsL_law_in w h)
  have hown : s9.vm.findClass RL = some m.cls := hown
  have hA : ∀ q, s9.heap.size ≤ q → aL s9 q := fun _ h => h
  refine lv_aload_n hx hb dL_law_990 rfl (lv_at hl 1 rfl) ?_
  refine lv_aload_n hx hb dL_law_991 rfl (lv_at hl 0 rfl) ?_
  refine lv_iload hx hb dL_law_992 (lv_at hl 4 rfl) ?_
  refine lv_iconst (v := 1) hx hb dL_law_994 (by decide) ?_
  refine k_iaddN (a := i) (b := 1) hx hb dL_law_995 ?_
  refine k_sldv (i := i + 1) (v := z1) hx hb hX hbl hw (by omega) (by omega) e1 dL_law_996 ?_
  refine lv_aload_n hx hb dL_law_997 rfl (lv_at hl 3 rfl) ?_
  refine krx_i (ws' := wX x A T B ++ wC E A (B 0) S ++ wC E T (B 0) U ++ wG E B G ++ [(o, aJ E 1 f)] ++ wN E M (th, Hb, a, k)) (vx_runSX (As := [.ref x, .int z1, .ref o]) (rest := []) ⟨hx, hb, hml, hown, hts⟩ (c_L_nightsOut_1 l hflags E x A T B S U G z1 o f hy0 _) (vx_cwSW 3 hts gL_law_L_nightsOut rfl rfl rfl hd_L_nightsOut ⟨Nat.le_of_ble_eq_true rfl, Nat.le_of_ble_eq_true rfl⟩) (rpX (AV := [.ref x, .int z1, .ref o]) hw hK hG hZ hA rp_86) rfl rfl hl.1 rfl (lv_room (Nat.le_of_ble_eq_true rfl)) dL_law_998 ⟨(show cells + 1 ≤ 1033879 by omega), (show slots + 6 ≤ 5994467 by omega)⟩) hw hA rp_86 rp_86 (fun H locs ce9 q9 t_1 hw hy1 hy2 hy3 => absurd rfl t_1) (fun H locs t_1 hw => ?_)
  refine lv_istore (lv' := [(5, .int 1), (0, .ref b), (1, .ref x), (2, .ref (M 0)), (3, .ref o), (4, .int (nI i))]) hx hb dL_law_1001 hl (by decide) rfl (fun ls hl => ?_)
  refine lv_aload_n hx hb dL_law_1003 rfl (lv_at hl 3 rfl) ?_
  refine lv_aload_n hx hb dL_law_1004 rfl (lv_at hl 1 rfl) ?_
  refine lv_iload hx hb dL_law_1005 (lv_at hl 5 rfl) ?_
  refine lv_iconst (v := 1) hx hb dL_law_1007 (by decide) ?_
  refine k_iaddN (a := i) (b := 1) hx hb dL_law_1008 ?_
  refine k_sldv (i := i + 1) (v := z1) hx hb hX hbl hw (by omega) (by omega) e1 dL_law_1009 ?_
  refine kr_i (ws' := wX x A T B ++ wC E A (B 0) S ++ wC E T (B 0) U ++ wG E B G ++ [(o, aJ E 1 f)] ++ wN E M (1, Hb, a, k)) (va_runV (As := [.int z1]) (rest := []) ⟨hx, hb, hml, hown, hts⟩ (c_X3_nightsOut_1 l E M th Hb a k z1 hy1 hy2 hy3 hy4 hy5 _) (cwV 1 hts gL_law_X3_nightsOut rfl rfl rfl ⟨rfl, hd_X3_nightsOut⟩ ⟨Nat.le_of_ble_eq_true rfl, Nat.le_of_ble_eq_true rfl⟩) (pwV (ci := 3) (q0 := 22) (C := RX3) hw hK rfl rfl rfl (rpS (AV := [.ref (M 0), .int z1]) hw hK hG rp_88)) rfl rfl hl.1 rfl (lv_room (Nat.le_of_ble_eq_true rfl)) dL_law_1010 ⟨(show cells + 1 + 0 ≤ 1033879 by omega), (show slots + 6 + 0 ≤ 5994467 by omega)⟩) hw hA rp_87 (fun H locs hw => ?_)
  refine lv_istore (lv' := [(6, .int 0), (5, .int 1), (0, .ref b), (1, .ref x), (2, .ref (M 0)), (3, .ref o), (4, .int (nI i))]) hx hb dL_law_1013 hl (by decide) rfl (fun ls hl => ?_)
  refine lv_aload_n hx hb dL_law_1015 rfl (lv_at hl 4 rfl) ?_
  refine kr_i (ws' := wX x A T B ++ wC E A (B 0) S ++ wC E T (B 0) U ++ wG E B G ++ [(o, aJ E 1 f)] ++ wN E M (1, Hb, a, k)) (va_runV (As := []) (rest := []) ⟨hx, hb, hml, hown, hts⟩ (c_X3_thrown l E M 1 Hb a k  _) (cwV 0 hts gL_law_X3_thrown rfl rfl rfl ⟨rfl, hd_X3_thrown⟩ ⟨Nat.le_of_ble_eq_true rfl, Nat.le_of_ble_eq_true rfl⟩) (pwV (ci := 3) (q0 := 22) (C := RX3) hw hK rfl rfl rfl (rpS (AV := [.ref (M 0)]) hw hK hG rp_88)) rfl rfl hl.1 rfl (lv_room (Nat.le_of_ble_eq_true rfl)) dL_law_1016 ⟨(show cells + 1 + 0 ≤ 1033879 by omega), (show slots + 6 + 0 ≤ 5994467 by omega)⟩) hw hA rp_88 (fun H locs hw => ?_)
  refine lv_iload hx hb dL_law_1019 (lv_at hl 1 rfl) ?_
  refine lv_icmp_eq (tgt := 1026) hx hb dL_law_1021 (by decide) (fun _ => ?_) (fun q8 => absurd (by decide) q8)
  refine lv_iload hx hb dL_law_1026 (lv_at hl 1 rfl) ?_
  refine lv_if_ne (tgt := 1043) hx hb dL_law_1028 (by decide) (fun _ => ?_) (fun q8 => absurd q8 (by decide))
  refine lv_goto (tgt := 2161) hx hb dL_law_1043 (by decide) ?_
  refine W.widen (k := cells + 30) (n := slots + 200) (show cells + 1 ≤ cells + 30 by omega) (show slots + 6 ≤ slots + 200 by omega) ?_
  exact kk U f 1 k _ _ _ hw (lv_sub hl [2, 3, 4, 5, 6] rfl)

set_option maxHeartbeats 4000000 in
set_option maxRecDepth 100000 in
theorem la_nightsOut {p9 : Program} {l : Launch} {e : Env} {s9 : State} {m : MethodId} {below : List Frame} {meth : Method} {c : Code} {b L : Nat} {xs : Nat → Int32} (C0 : lw_At p9 s9 m meth c b L xs) (hflags : l.stackTraces = false) (hL : L ≤ 2048) (E : Ev) (hK : va_K E.1 vwCl (tysE E) s9) (hG : Gx s9) (hZ : Zx (aL s9) s9 s9.heap) {Q : State → Prop} (x o : Nat) (A T B M : Nat → Nat) (S U : CS) (G : HS) (th : Int32) (Hb : MH) (a k : Fn) (f : Nat → Int64) (i cells slots : Nat) (hi : i + 4 ≤ L) (n1 : Nat) (e1 : xs (i + 1) = nI n1) (hy0 : t_ship G (nI n1) = 0) (hy1 : n_ns Hb ≤ 5) (hy2 : n_np Hb ≤ 16) (hy3 : n_nw Hb ≤ 4) (hy4 : ∀ p, p < n_np Hb → n_so Hb p < 5) (hy5 : n1 < n_ns Hb) (hy6 : (f_at 5 (c_ou S) (nI n1) : Int32).toInt64 = (a (3 + 3 * n1 + 1) : Int32).toInt64) (hc9 : cells + 30 ≤ 1033879) (hs9 : slots + 200 ≤ 5994467) (kk : ∀ (U1 : CS) (f1 : Nat → Int64) (t1 : Int32) (k1 : Fn) (H : Heap) (locs : List Loc) (ls : Array Slot), Wd E (aL s9) s9.heap (wX x A T B ++ wC E A (B 0) S ++ wC E T (B 0) U1 ++ wG E B G ++ [(o, aJ E 1 f1)] ++ wN E M (t1, Hb, a, k1)) H locs → lv_has ls 9 [(0, .ref b), (1, .ref x), (2, .ref (M 0)), (3, .ref o), (4, .int (nI i))] → W p9 l e room_1 s9 m #[Value.ref b] below meth c H locs (cells + 30) (slots + 200) Q (F0 m 2161 ls [])) {H : Heap} {locs : List Loc} {ls : Array Slot} (hw : Wd E (aL s9) s9.heap (wX x A T B ++ wC E A (B 0) S ++ wC E T (B 0) U ++ wG E B G ++ [(o, aJ E 1 f)] ++ wN E M (th, Hb, a, k)) H locs) (hl : lv_has ls 9 [(0, .ref b), (1, .ref x), (2, .ref (M 0)), (3, .ref o), (4, .int (nI i))]) : W p9 l e room_1 s9 m #[Value.ref b] below meth c H locs cells slots Q (F0 m 990 ls []) := by
  obtain ⟨hx, hb, hr, hml, hown, hts0, hX, hbl, hlocks, hgv⟩ := C0
  have hts : ∀ w ∈ wsL_law, w.before #[Value.ref b] s9 = true := fun w h => hts0 w (wsL_law_in w h)
  have hown : s9.vm.findClass RL = some m.cls := hown
  have hA : ∀ q, s9.heap.size ≤ q → aL s9 q := fun _ h => h
  refine lv_aload_n hx hb dL_law_990 rfl (lv_at hl 1 rfl) ?_
  refine lv_aload_n hx hb dL_law_991 rfl (lv_at hl 0 rfl) ?_
  refine lv_iload hx hb dL_law_992 (lv_at hl 4 rfl) ?_
  refine lv_iconst (v := 1) hx hb dL_law_994 (by decide) ?_
  refine k_iaddN (a := i) (b := 1) hx hb dL_law_995 ?_
  refine k_sldv (i := i + 1) (v := nI n1) hx hb hX hbl hw (by omega) (by omega) e1 dL_law_996 ?_
  refine lv_aload_n hx hb dL_law_997 rfl (lv_at hl 3 rfl) ?_
  refine krx_i (ws' := wX x A T B ++ wC E A (B 0) S ++ wC E T (B 0) U ++ wG E B G ++ [(o, aJ E 1 (vp_updL f 0 ((f_at 5 (c_ou S) (nI n1) : Int32).toInt64)))] ++ wN E M (th, Hb, a, k)) (vx_runSX (As := [.ref x, .int (nI n1), .ref o]) (rest := []) ⟨hx, hb, hml, hown, hts⟩ (c_L_nightsOut l hflags E x A T B S U G (nI n1) o f hy0 _) (vx_cwSW 3 hts gL_law_L_nightsOut rfl rfl rfl hd_L_nightsOut ⟨Nat.le_of_ble_eq_true rfl, Nat.le_of_ble_eq_true rfl⟩) (rpX (AV := [.ref x, .int (nI n1), .ref o]) hw hK hG hZ hA rp_86) rfl rfl hl.1 rfl (lv_room (Nat.le_of_ble_eq_true rfl)) dL_law_998 ⟨(show cells + 1 ≤ 1033879 by omega), (show slots + 6 ≤ 5994467 by omega)⟩) hw hA rp_93 rp_86 (fun H locs ce9 q9 t_1 hw hy1 hy2 hy3 => absurd rfl t_1) (fun H locs t_1 hw => ?_)
  refine lv_istore (lv' := [(5, .int 0), (0, .ref b), (1, .ref x), (2, .ref (M 0)), (3, .ref o), (4, .int (nI i))]) hx hb dL_law_1001 hl (by decide) rfl (fun ls hl => ?_)
  refine lv_aload_n hx hb dL_law_1003 rfl (lv_at hl 3 rfl) ?_
  refine lv_aload_n hx hb dL_law_1004 rfl (lv_at hl 1 rfl) ?_
  refine lv_iload hx hb dL_law_1005 (lv_at hl 5 rfl) ?_
  refine lv_iconst (v := 1) hx hb dL_law_1007 (by decide) ?_
  refine k_iaddN (a := i) (b := 1) hx hb dL_law_1008 ?_
  refine k_sldv (i := i + 1) (v := nI n1) hx hb hX hbl hw (by omega) (by omega) e1 dL_law_1009 ?_
  refine kr_i (ws' := wX x A T B ++ wC E A (B 0) S ++ wC E T (B 0) U ++ wG E B G ++ [(o, aJ E 1 (vp_updL f 0 ((f_at 5 (c_ou S) (nI n1) : Int32).toInt64)))] ++ wN E M (0, Hb, a, k)) (va_runV (As := [.int (nI n1)]) (rest := []) ⟨hx, hb, hml, hown, hts⟩ (c_X3_nightsOut l E M th Hb a k n1 hy1 hy2 hy3 hy4 hy5 _) (cwV 1 hts gL_law_X3_nightsOut rfl rfl rfl ⟨rfl, hd_X3_nightsOut⟩ ⟨Nat.le_of_ble_eq_true rfl, Nat.le_of_ble_eq_true rfl⟩) (pwV (ci := 3) (q0 := 22) (C := RX3) hw hK rfl rfl rfl (rpS (AV := [.ref (M 0), .int (nI n1)]) hw hK hG rp_88)) rfl rfl hl.1 rfl (lv_room (Nat.le_of_ble_eq_true rfl)) dL_law_1010 ⟨(show cells + 1 + 0 ≤ 1033879 by omega), (show slots + 6 + 0 ≤ 5994467 by omega)⟩) hw hA rp_87 (fun H locs hw => ?_)
  refine lv_istore (lv' := [(6, .int (a (3 + 3 * n1 + 1))), (5, .int 0), (0, .ref b), (1, .ref x), (2, .ref (M 0)), (3, .ref o), (4, .int (nI i))]) hx hb dL_law_1013 hl (by decide) rfl (fun ls hl => ?_)
  refine lv_aload_n hx hb dL_law_1015 rfl (lv_at hl 4 rfl) ?_
  refine kr_i (ws' := wX x A T B ++ wC E A (B 0) S ++ wC E T (B 0) U ++ wG E B G ++ [(o, aJ E 1 (vp_updL f 0 ((f_at 5 (c_ou S) (nI n1) : Int32).toInt64)))] ++ wN E M (0, Hb, a, k)) (va_runV (As := []) (rest := []) ⟨hx, hb, hml, hown, hts⟩ (c_X3_thrown l E M 0 Hb a k  _) (cwV 0 hts gL_law_X3_thrown rfl rfl rfl ⟨rfl, hd_X3_thrown⟩ ⟨Nat.le_of_ble_eq_true rfl, Nat.le_of_ble_eq_true rfl⟩) (pwV (ci := 3) (q0 := 22) (C := RX3) hw hK rfl rfl rfl (rpS (AV := [.ref (M 0)]) hw hK hG rp_88)) rfl rfl hl.1 rfl (lv_room (Nat.le_of_ble_eq_true rfl)) dL_law_1016 ⟨(show cells + 1 + 0 ≤ 1033879 by omega), (show slots + 6 + 0 ≤ 5994467 by omega)⟩) hw hA rp_88 (fun H locs hw => ?_)
  refine lv_iload hx hb dL_law_1019 (lv_at hl 1 rfl) ?_
  refine lv_icmp_eq (tgt := 1026) hx hb dL_law_1021 (by decide) (fun _ => ?_) (fun q8 => absurd (by decide) q8)
  refine lv_iload hx hb dL_law_1026 (lv_at hl 1 rfl) ?_
  refine lv_if_ne (tgt := 1043) hx hb dL_law_1028 (by decide) (fun q8 => absurd (by decide) q8) (fun _ => ?_)
  refine lv_aload_n hx hb dL_law_1031 rfl (lv_at hl 5 rfl) ?_
  refine lv_iconst (v := 0) hx hb dL_law_1032 (by decide) ?_
  refine k_lld (v := (vp_updL f 0 ((f_at 5 (c_ou S) (nI n1) : Int32).toInt64)) 0) hx hb hK hw 21 rfl (vp_in_nI (n := 0) (N := 1) (by decide) (by decide)) rfl dL_law_1033 ?_
  refine lv_iload hx hb dL_law_1034 (lv_at hl 0 rfl) ?_
  refine lv_i2l (v := (a (3 + 3 * n1 + 1) : Int32).toInt64) hx hb dL_law_1036 rfl ?_
  refine k_lcmpE hx hb dL_law_1037 (pk_uLs.trans hy6) ?_
  refine lv_if_eq (tgt := 1043) hx hb dL_law_1038 (by decide) (fun _ => ?_) (fun q8 => absurd (by decide) q8)
  refine lv_goto (tgt := 2161) hx hb dL_law_1043 (by decide) ?_
  refine W.widen (k := cells + 30) (n := slots + 200) (show cells + 1 ≤ cells + 30 by omega) (show slots + 6 ≤ slots + 200 by omega) ?_
  exact kk U (vp_updL f 0 ((f_at 5 (c_ou S) (nI n1) : Int32).toInt64)) 0 k _ _ _ hw (lv_sub hl [2, 3, 4, 5, 6] rfl)

set_option maxHeartbeats 4000000 in
set_option maxRecDepth 100000 in
theorem la_isRung_1 {p9 : Program} {l : Launch} {e : Env} {s9 : State} {m : MethodId} {below : List Frame} {meth : Method} {c : Code} {b L : Nat} {xs : Nat → Int32} (C0 : lw_At p9 s9 m meth c b L xs) (hflags : l.stackTraces = false) (hL : L ≤ 2048) (E : Ev) (hK : va_K E.1 vwCl (tysE E) s9) (hG : Gx s9) (hZ : Zx (aL s9) s9 s9.heap) {Q : State → Prop} (x o : Nat) (A T B M : Nat → Nat) (S U : CS) (G : HS) (th : Int32) (Hb : MH) (a k : Fn) (f : Nat → Int64) (i cells slots : Nat) (hi : i + 4 ≤ L) (z1 : Int32) (e1 : xs (i + 1) = z1) (hy0 : t_ship G z1 = 1) (hy1 : n_ns Hb ≤ 5) (hy2 : n_np Hb ≤ 16) (hy3 : n_nw Hb ≤ 4) (hy4 : ∀ p, p < n_np Hb → n_so Hb p < 5) (hy5 : d_in z1 0 (nI (n_ns Hb) - 1) = false) (hc9 : cells + 30 ≤ 1033879) (hs9 : slots + 200 ≤ 5994467) (kk : ∀ (U1 : CS) (f1 : Nat → Int64) (t1 : Int32) (k1 : Fn) (H : Heap) (locs : List Loc) (ls : Array Slot), Wd E (aL s9) s9.heap (wX x A T B ++ wC E A (B 0) S ++ wC E T (B 0) U1 ++ wG E B G ++ [(o, aJ E 1 f1)] ++ wN E M (t1, Hb, a, k1)) H locs → lv_has ls 9 [(0, .ref b), (1, .ref x), (2, .ref (M 0)), (3, .ref o), (4, .int (nI i))] → W p9 l e room_1 s9 m #[Value.ref b] below meth c H locs (cells + 30) (slots + 200) Q (F0 m 2161 ls [])) {H : Heap} {locs : List Loc} {ls : Array Slot} (hw : Wd E (aL s9) s9.heap (wX x A T B ++ wC E A (B 0) S ++ wC E T (B 0) U ++ wG E B G ++ [(o, aJ E 1 f)] ++ wN E M (th, Hb, a, k)) H locs) (hl : lv_has ls 9 [(0, .ref b), (1, .ref x), (2, .ref (M 0)), (3, .ref o), (4, .int (nI i))]) : W p9 l e room_1 s9 m #[Value.ref b] below meth c H locs cells slots Q (F0 m 1046 ls []) := by
  obtain ⟨hx, hb, hr, hml, hown, hts0, hX, hbl, hlocks, hgv⟩ := C0
  have hts : ∀ w ∈ wsL_law, w.before #[Value.ref b] s9 = true := fun w h => hts0 w (wsL_law_in w h)
  have hown : s9.vm.findClass RL = some m.cls := hown
  have hA : ∀ q, s9.heap.size ≤ q → aL s9 q := fun _ h => h
  refine lv_aload_n hx hb dL_law_1046 rfl (lv_at hl 1 rfl) ?_
  refine lv_aload_n hx hb dL_law_1047 rfl (lv_at hl 0 rfl) ?_
  refine lv_iload hx hb dL_law_1048 (lv_at hl 4 rfl) ?_
  refine lv_iconst (v := 1) hx hb dL_law_1050 (by decide) ?_
  refine k_iaddN (a := i) (b := 1) hx hb dL_law_1051 ?_
  refine k_sldv (i := i + 1) (v := z1) hx hb hX hbl hw (by omega) (by omega) e1 dL_law_1052 ?_
  refine lv_aload_n hx hb dL_law_1053 rfl (lv_at hl 3 rfl) ?_
  refine krx_i (ws' := wX x A T B ++ wC E A (B 0) S ++ wC E T (B 0) U ++ wG E B G ++ [(o, aJ E 1 f)] ++ wN E M (th, Hb, a, k)) (vx_runSX (As := [.ref x, .int z1, .ref o]) (rest := []) ⟨hx, hb, hml, hown, hts⟩ (c_L_isRung_1 l hflags E x A T B S U G z1 o f hy0 _) (vx_cwSW 3 hts gL_law_L_isRung rfl rfl rfl hd_L_isRung ⟨Nat.le_of_ble_eq_true rfl, Nat.le_of_ble_eq_true rfl⟩) (rpX (AV := [.ref x, .int z1, .ref o]) hw hK hG hZ hA rp_86) rfl rfl hl.1 rfl (lv_room (Nat.le_of_ble_eq_true rfl)) dL_law_1054 ⟨(show cells + 1 ≤ 1033879 by omega), (show slots + 6 ≤ 5994467 by omega)⟩) hw hA rp_86 rp_86 (fun H locs ce9 q9 t_1 hw hy1 hy2 hy3 => absurd rfl t_1) (fun H locs t_1 hw => ?_)
  refine lv_istore (lv' := [(5, .int 1), (0, .ref b), (1, .ref x), (2, .ref (M 0)), (3, .ref o), (4, .int (nI i))]) hx hb dL_law_1057 hl (by decide) rfl (fun ls hl => ?_)
  refine lv_aload_n hx hb dL_law_1059 rfl (lv_at hl 3 rfl) ?_
  refine lv_aload_n hx hb dL_law_1060 rfl (lv_at hl 1 rfl) ?_
  refine lv_iload hx hb dL_law_1061 (lv_at hl 5 rfl) ?_
  refine lv_iconst (v := 1) hx hb dL_law_1063 (by decide) ?_
  refine k_iaddN (a := i) (b := 1) hx hb dL_law_1064 ?_
  refine k_sldv (i := i + 1) (v := z1) hx hb hX hbl hw (by omega) (by omega) e1 dL_law_1065 ?_
  refine kr_i (ws' := wX x A T B ++ wC E A (B 0) S ++ wC E T (B 0) U ++ wG E B G ++ [(o, aJ E 1 f)] ++ wN E M (1, Hb, a, k)) (va_runV (As := [.int z1]) (rest := []) ⟨hx, hb, hml, hown, hts⟩ (c_X3_isRung_1 l E M th Hb a k z1 hy1 hy2 hy3 hy4 hy5 _) (cwV 1 hts gL_law_X3_isRung rfl rfl rfl ⟨rfl, hd_X3_isRung⟩ ⟨Nat.le_of_ble_eq_true rfl, Nat.le_of_ble_eq_true rfl⟩) (pwV (ci := 3) (q0 := 22) (C := RX3) hw hK rfl rfl rfl (rpS (AV := [.ref (M 0), .int z1]) hw hK hG rp_88)) rfl rfl hl.1 rfl (lv_room (Nat.le_of_ble_eq_true rfl)) dL_law_1066 ⟨(show cells + 1 + 0 ≤ 1033879 by omega), (show slots + 6 + 0 ≤ 5994467 by omega)⟩) hw hA rp_87 (fun H locs hw => ?_)
  refine lv_istore (lv' := [(6, .int (bI false)), (5, .int 1), (0, .ref b), (1, .ref x), (2, .ref (M 0)), (3, .ref o), (4, .int (nI i))]) hx hb dL_law_1069 hl (by decide) rfl (fun ls hl => ?_)
  refine lv_aload_n hx hb dL_law_1071 rfl (lv_at hl 4 rfl) ?_
  refine kr_i (ws' := wX x A T B ++ wC E A (B 0) S ++ wC E T (B 0) U ++ wG E B G ++ [(o, aJ E 1 f)] ++ wN E M (1, Hb, a, k)) (va_runV (As := []) (rest := []) ⟨hx, hb, hml, hown, hts⟩ (c_X3_thrown l E M 1 Hb a k  _) (cwV 0 hts gL_law_X3_thrown rfl rfl rfl ⟨rfl, hd_X3_thrown⟩ ⟨Nat.le_of_ble_eq_true rfl, Nat.le_of_ble_eq_true rfl⟩) (pwV (ci := 3) (q0 := 22) (C := RX3) hw hK rfl rfl rfl (rpS (AV := [.ref (M 0)]) hw hK hG rp_88)) rfl rfl hl.1 rfl (lv_room (Nat.le_of_ble_eq_true rfl)) dL_law_1072 ⟨(show cells + 1 + 0 ≤ 1033879 by omega), (show slots + 6 + 0 ≤ 5994467 by omega)⟩) hw hA rp_88 (fun H locs hw => ?_)
  refine lv_iload hx hb dL_law_1075 (lv_at hl 1 rfl) ?_
  refine lv_icmp_eq (tgt := 1082) hx hb dL_law_1077 (by decide) (fun _ => ?_) (fun q8 => absurd (by decide) q8)
  refine lv_iload hx hb dL_law_1082 (lv_at hl 1 rfl) ?_
  refine lv_if_ne (tgt := 1106) hx hb dL_law_1084 (by decide) (fun _ => ?_) (fun q8 => absurd q8 (by decide))
  refine lv_goto (tgt := 2161) hx hb dL_law_1106 (by decide) ?_
  refine W.widen (k := cells + 30) (n := slots + 200) (show cells + 1 ≤ cells + 30 by omega) (show slots + 6 ≤ slots + 200 by omega) ?_
  exact kk U f 1 k _ _ _ hw (lv_sub hl [2, 3, 4, 5, 6] rfl)

set_option maxHeartbeats 4000000 in
set_option maxRecDepth 100000 in
theorem la_isRung {p9 : Program} {l : Launch} {e : Env} {s9 : State} {m : MethodId} {below : List Frame} {meth : Method} {c : Code} {b L : Nat} {xs : Nat → Int32} (C0 : lw_At p9 s9 m meth c b L xs) (hflags : l.stackTraces = false) (hL : L ≤ 2048) (E : Ev) (hK : va_K E.1 vwCl (tysE E) s9) (hG : Gx s9) (hZ : Zx (aL s9) s9 s9.heap) {Q : State → Prop} (x o : Nat) (A T B M : Nat → Nat) (S U : CS) (G : HS) (th : Int32) (Hb : MH) (a k : Fn) (f : Nat → Int64) (i cells slots : Nat) (hi : i + 4 ≤ L) (n1 : Nat) (e1 : xs (i + 1) = nI n1) (hy0 : t_ship G (nI n1) = 0) (hy1 : n_ns Hb ≤ 5) (hy2 : n_np Hb ≤ 16) (hy3 : n_nw Hb ≤ 4) (hy4 : ∀ p, p < n_np Hb → n_so Hb p < 5) (hy5 : n1 < n_ns Hb) (hy6 : f_is 5 (c_ru S) (nI n1) = (if a (3 + 3 * n1 + 2) = 1 then true else false)) (hc9 : cells + 30 ≤ 1033879) (hs9 : slots + 200 ≤ 5994467) (kk : ∀ (U1 : CS) (f1 : Nat → Int64) (t1 : Int32) (k1 : Fn) (H : Heap) (locs : List Loc) (ls : Array Slot), Wd E (aL s9) s9.heap (wX x A T B ++ wC E A (B 0) S ++ wC E T (B 0) U1 ++ wG E B G ++ [(o, aJ E 1 f1)] ++ wN E M (t1, Hb, a, k1)) H locs → lv_has ls 9 [(0, .ref b), (1, .ref x), (2, .ref (M 0)), (3, .ref o), (4, .int (nI i))] → W p9 l e room_1 s9 m #[Value.ref b] below meth c H locs (cells + 30) (slots + 200) Q (F0 m 2161 ls [])) {H : Heap} {locs : List Loc} {ls : Array Slot} (hw : Wd E (aL s9) s9.heap (wX x A T B ++ wC E A (B 0) S ++ wC E T (B 0) U ++ wG E B G ++ [(o, aJ E 1 f)] ++ wN E M (th, Hb, a, k)) H locs) (hl : lv_has ls 9 [(0, .ref b), (1, .ref x), (2, .ref (M 0)), (3, .ref o), (4, .int (nI i))]) : W p9 l e room_1 s9 m #[Value.ref b] below meth c H locs cells slots Q (F0 m 1046 ls []) := by
  obtain ⟨hx, hb, hr, hml, hown, hts0, hX, hbl, hlocks, hgv⟩ := C0
  have hts : ∀ w ∈ wsL_law, w.before #[Value.ref b] s9 = true := fun w h => hts0 w (wsL_law_in w h)
  have hown : s9.vm.findClass RL = some m.cls := hown
  have hA : ∀ q, s9.heap.size ≤ q → aL s9 q := fun _ h => h
  refine lv_aload_n hx hb dL_law_1046 rfl (lv_at hl 1 rfl) ?_
  refine lv_aload_n hx hb dL_law_1047 rfl (lv_at hl 0 rfl) ?_
  refine lv_iload hx hb dL_law_1048 (lv_at hl 4 rfl) ?_
  refine lv_iconst (v := 1) hx hb dL_law_1050 (by decide) ?_
  refine k_iaddN (a := i) (b := 1) hx hb dL_law_1051 ?_
  refine k_sldv (i := i + 1) (v := nI n1) hx hb hX hbl hw (by omega) (by omega) e1 dL_law_1052 ?_
  refine lv_aload_n hx hb dL_law_1053 rfl (lv_at hl 3 rfl) ?_
  refine krx_i (ws' := wX x A T B ++ wC E A (B 0) S ++ wC E T (B 0) U ++ wG E B G ++ [(o, aJ E 1 (vp_updL f 0 (if f_is 5 (c_ru S) (nI n1) = true then 1 else 0)))] ++ wN E M (th, Hb, a, k)) (vx_runSX (As := [.ref x, .int (nI n1), .ref o]) (rest := []) ⟨hx, hb, hml, hown, hts⟩ (c_L_isRung l hflags E x A T B S U G (nI n1) o f hy0 _) (vx_cwSW 3 hts gL_law_L_isRung rfl rfl rfl hd_L_isRung ⟨Nat.le_of_ble_eq_true rfl, Nat.le_of_ble_eq_true rfl⟩) (rpX (AV := [.ref x, .int (nI n1), .ref o]) hw hK hG hZ hA rp_86) rfl rfl hl.1 rfl (lv_room (Nat.le_of_ble_eq_true rfl)) dL_law_1054 ⟨(show cells + 1 ≤ 1033879 by omega), (show slots + 6 ≤ 5994467 by omega)⟩) hw hA rp_93 rp_86 (fun H locs ce9 q9 t_1 hw hy1 hy2 hy3 => absurd rfl t_1) (fun H locs t_1 hw => ?_)
  refine lv_istore (lv' := [(5, .int 0), (0, .ref b), (1, .ref x), (2, .ref (M 0)), (3, .ref o), (4, .int (nI i))]) hx hb dL_law_1057 hl (by decide) rfl (fun ls hl => ?_)
  refine lv_aload_n hx hb dL_law_1059 rfl (lv_at hl 3 rfl) ?_
  refine lv_aload_n hx hb dL_law_1060 rfl (lv_at hl 1 rfl) ?_
  refine lv_iload hx hb dL_law_1061 (lv_at hl 5 rfl) ?_
  refine lv_iconst (v := 1) hx hb dL_law_1063 (by decide) ?_
  refine k_iaddN (a := i) (b := 1) hx hb dL_law_1064 ?_
  refine k_sldv (i := i + 1) (v := nI n1) hx hb hX hbl hw (by omega) (by omega) e1 dL_law_1065 ?_
  refine kr_i (ws' := wX x A T B ++ wC E A (B 0) S ++ wC E T (B 0) U ++ wG E B G ++ [(o, aJ E 1 (vp_updL f 0 (if f_is 5 (c_ru S) (nI n1) = true then 1 else 0)))] ++ wN E M (0, Hb, a, k)) (va_runV (As := [.int (nI n1)]) (rest := []) ⟨hx, hb, hml, hown, hts⟩ (c_X3_isRung l E M th Hb a k n1 hy1 hy2 hy3 hy4 hy5 _) (cwV 1 hts gL_law_X3_isRung rfl rfl rfl ⟨rfl, hd_X3_isRung⟩ ⟨Nat.le_of_ble_eq_true rfl, Nat.le_of_ble_eq_true rfl⟩) (pwV (ci := 3) (q0 := 22) (C := RX3) hw hK rfl rfl rfl (rpS (AV := [.ref (M 0), .int (nI n1)]) hw hK hG rp_88)) rfl rfl hl.1 rfl (lv_room (Nat.le_of_ble_eq_true rfl)) dL_law_1066 ⟨(show cells + 1 + 0 ≤ 1033879 by omega), (show slots + 6 + 0 ≤ 5994467 by omega)⟩) hw hA rp_87 (fun H locs hw => ?_)
  refine lv_istore (lv' := [(6, .int (bI (if a (3 + 3 * n1 + 2) = 1 then true else false))), (5, .int 0), (0, .ref b), (1, .ref x), (2, .ref (M 0)), (3, .ref o), (4, .int (nI i))]) hx hb dL_law_1069 hl (by decide) rfl (fun ls hl => ?_)
  refine lv_aload_n hx hb dL_law_1071 rfl (lv_at hl 4 rfl) ?_
  refine kr_i (ws' := wX x A T B ++ wC E A (B 0) S ++ wC E T (B 0) U ++ wG E B G ++ [(o, aJ E 1 (vp_updL f 0 (if f_is 5 (c_ru S) (nI n1) = true then 1 else 0)))] ++ wN E M (0, Hb, a, k)) (va_runV (As := []) (rest := []) ⟨hx, hb, hml, hown, hts⟩ (c_X3_thrown l E M 0 Hb a k  _) (cwV 0 hts gL_law_X3_thrown rfl rfl rfl ⟨rfl, hd_X3_thrown⟩ ⟨Nat.le_of_ble_eq_true rfl, Nat.le_of_ble_eq_true rfl⟩) (pwV (ci := 3) (q0 := 22) (C := RX3) hw hK rfl rfl rfl (rpS (AV := [.ref (M 0)]) hw hK hG rp_88)) rfl rfl hl.1 rfl (lv_room (Nat.le_of_ble_eq_true rfl)) dL_law_1072 ⟨(show cells + 1 + 0 ≤ 1033879 by omega), (show slots + 6 + 0 ≤ 5994467 by omega)⟩) hw hA rp_88 (fun H locs hw => ?_)
  refine lv_iload hx hb dL_law_1075 (lv_at hl 1 rfl) ?_
  refine lv_icmp_eq (tgt := 1082) hx hb dL_law_1077 (by decide) (fun _ => ?_) (fun q8 => absurd (by decide) q8)
  refine lv_iload hx hb dL_law_1082 (lv_at hl 1 rfl) ?_
  refine lv_if_ne (tgt := 1106) hx hb dL_law_1084 (by decide) (fun q8 => absurd (by decide) q8) (fun _ => ?_)
  refine lv_aload_n hx hb dL_law_1087 rfl (lv_at hl 5 rfl) ?_
  refine lv_iconst (v := 0) hx hb dL_law_1088 (by decide) ?_
  refine k_lld (v := (vp_updL f 0 (if f_is 5 (c_ru S) (nI n1) = true then 1 else 0)) 0) hx hb hK hw 21 rfl (vp_in_nI (n := 0) (N := 1) (by decide) (by decide)) rfl dL_law_1089 ?_
  refine lv_iload hx hb dL_law_1090 (lv_at hl 0 rfl) ?_
  refine lv_if_eq (tgt := 1099) hx hb dL_law_1092 (by decide) (fun c_2 => ?_) (fun c_2 => ?_)
  · have c_2 := bI_z c_2
    refine lv_lconst (v := 0) hx hb dL_law_1099 (by decide) ?_
    refine k_lcmpE hx hb dL_law_1100 (pk_uLs.trans (by rw [hy6, c_2]; rfl)) ?_
    refine lv_if_eq (tgt := 1106) hx hb dL_law_1101 (by decide) (fun _ => ?_) (fun q8 => absurd (by decide) q8)
    refine lv_goto (tgt := 2161) hx hb dL_law_1106 (by decide) ?_
    refine W.widen (k := cells + 30) (n := slots + 200) (show cells + 1 ≤ cells + 30 by omega) (show slots + 6 ≤ slots + 200 by omega) ?_
    exact kk U (vp_updL f 0 (if f_is 5 (c_ru S) (nI n1) = true then 1 else 0)) 0 k _ _ _ hw (lv_sub hl [2, 3, 4, 5, 6] rfl)
  · have c_2 := bI_nz c_2
    refine lv_lconst (v := 1) hx hb dL_law_1095 (by decide) ?_
    refine lv_goto (tgt := 1100) hx hb dL_law_1096 (by decide) ?_
    refine k_lcmpE hx hb dL_law_1100 (pk_uLs.trans (by rw [hy6, c_2]; rfl)) ?_
    refine lv_if_eq (tgt := 1106) hx hb dL_law_1101 (by decide) (fun _ => ?_) (fun q8 => absurd (by decide) q8)
    refine lv_goto (tgt := 2161) hx hb dL_law_1106 (by decide) ?_
    refine W.widen (k := cells + 30) (n := slots + 200) (show cells + 1 ≤ cells + 30 by omega) (show slots + 6 ≤ slots + 200 by omega) ?_
    exact kk U (vp_updL f 0 (if f_is 5 (c_ru S) (nI n1) = true then 1 else 0)) 0 k _ _ _ hw (lv_sub hl [2, 3, 4, 5, 6] rfl)

set_option maxHeartbeats 4000000 in
set_option maxRecDepth 100000 in
theorem la_trustIn_1 {p9 : Program} {l : Launch} {e : Env} {s9 : State} {m : MethodId} {below : List Frame} {meth : Method} {c : Code} {b L : Nat} {xs : Nat → Int32} (C0 : lw_At p9 s9 m meth c b L xs) (hflags : l.stackTraces = false) (hL : L ≤ 2048) (E : Ev) (hK : va_K E.1 vwCl (tysE E) s9) (hG : Gx s9) (hZ : Zx (aL s9) s9 s9.heap) {Q : State → Prop} (x o : Nat) (A T B M : Nat → Nat) (S U : CS) (G : HS) (th : Int32) (Hb : MH) (a k : Fn) (f : Nat → Int64) (i cells slots : Nat) (hi : i + 4 ≤ L) (z1 : Int32) (e1 : xs (i + 1) = z1) (hy0 : t_ship G z1 = 1) (hy1 : n_ns Hb ≤ 5) (hy2 : n_np Hb ≤ 16) (hy3 : n_nw Hb ≤ 4) (hy4 : ∀ p, p < n_np Hb → n_so Hb p < 5) (hy5 : d_in z1 0 (nI (n_ns Hb) - 1) = false) (hc9 : cells + 30 ≤ 1033879) (hs9 : slots + 200 ≤ 5994467) (kk : ∀ (U1 : CS) (f1 : Nat → Int64) (t1 : Int32) (k1 : Fn) (H : Heap) (locs : List Loc) (ls : Array Slot), Wd E (aL s9) s9.heap (wX x A T B ++ wC E A (B 0) S ++ wC E T (B 0) U1 ++ wG E B G ++ [(o, aJ E 1 f1)] ++ wN E M (t1, Hb, a, k1)) H locs → lv_has ls 9 [(0, .ref b), (1, .ref x), (2, .ref (M 0)), (3, .ref o), (4, .int (nI i))] → W p9 l e room_1 s9 m #[Value.ref b] below meth c H locs (cells + 30) (slots + 200) Q (F0 m 2161 ls [])) {H : Heap} {locs : List Loc} {ls : Array Slot} (hw : Wd E (aL s9) s9.heap (wX x A T B ++ wC E A (B 0) S ++ wC E T (B 0) U ++ wG E B G ++ [(o, aJ E 1 f)] ++ wN E M (th, Hb, a, k)) H locs) (hl : lv_has ls 9 [(0, .ref b), (1, .ref x), (2, .ref (M 0)), (3, .ref o), (4, .int (nI i))]) : W p9 l e room_1 s9 m #[Value.ref b] below meth c H locs cells slots Q (F0 m 1109 ls []) := by
  obtain ⟨hx, hb, hr, hml, hown, hts0, hX, hbl, hlocks, hgv⟩ := C0
  have hts : ∀ w ∈ wsL_law, w.before #[Value.ref b] s9 = true := fun w h => hts0 w (wsL_law_in w h)
  have hown : s9.vm.findClass RL = some m.cls := hown
  have hA : ∀ q, s9.heap.size ≤ q → aL s9 q := fun _ h => h
  refine lv_aload_n hx hb dL_law_1109 rfl (lv_at hl 1 rfl) ?_
  refine lv_aload_n hx hb dL_law_1110 rfl (lv_at hl 0 rfl) ?_
  refine lv_iload hx hb dL_law_1111 (lv_at hl 4 rfl) ?_
  refine lv_iconst (v := 1) hx hb dL_law_1113 (by decide) ?_
  refine k_iaddN (a := i) (b := 1) hx hb dL_law_1114 ?_
  refine k_sldv (i := i + 1) (v := z1) hx hb hX hbl hw (by omega) (by omega) e1 dL_law_1115 ?_
  refine lv_aload_n hx hb dL_law_1116 rfl (lv_at hl 3 rfl) ?_
  refine krx_i (ws' := wX x A T B ++ wC E A (B 0) S ++ wC E T (B 0) U ++ wG E B G ++ [(o, aJ E 1 f)] ++ wN E M (th, Hb, a, k)) (vx_runSX (As := [.ref x, .int z1, .ref o]) (rest := []) ⟨hx, hb, hml, hown, hts⟩ (c_L_trustIn_1 l hflags E x A T B S U G z1 o f hy0 _) (vx_cwSW 3 hts gL_law_L_trustIn rfl rfl rfl hd_L_trustIn ⟨Nat.le_of_ble_eq_true rfl, Nat.le_of_ble_eq_true rfl⟩) (rpX (AV := [.ref x, .int z1, .ref o]) hw hK hG hZ hA rp_86) rfl rfl hl.1 rfl (lv_room (Nat.le_of_ble_eq_true rfl)) dL_law_1117 ⟨(show cells + 1 ≤ 1033879 by omega), (show slots + 6 ≤ 5994467 by omega)⟩) hw hA rp_86 rp_86 (fun H locs ce9 q9 t_1 hw hy1 hy2 hy3 => absurd rfl t_1) (fun H locs t_1 hw => ?_)
  refine lv_istore (lv' := [(5, .int 1), (0, .ref b), (1, .ref x), (2, .ref (M 0)), (3, .ref o), (4, .int (nI i))]) hx hb dL_law_1120 hl (by decide) rfl (fun ls hl => ?_)
  refine lv_aload_n hx hb dL_law_1122 rfl (lv_at hl 3 rfl) ?_
  refine lv_aload_n hx hb dL_law_1123 rfl (lv_at hl 1 rfl) ?_
  refine lv_iload hx hb dL_law_1124 (lv_at hl 5 rfl) ?_
  refine lv_iconst (v := 1) hx hb dL_law_1126 (by decide) ?_
  refine k_iaddN (a := i) (b := 1) hx hb dL_law_1127 ?_
  refine k_sldv (i := i + 1) (v := z1) hx hb hX hbl hw (by omega) (by omega) e1 dL_law_1128 ?_
  refine kr_i (ws' := wX x A T B ++ wC E A (B 0) S ++ wC E T (B 0) U ++ wG E B G ++ [(o, aJ E 1 f)] ++ wN E M (1, Hb, a, k)) (va_runV (As := [.int z1]) (rest := []) ⟨hx, hb, hml, hown, hts⟩ (c_X3_trustIn_1 l E M th Hb a k z1 hy1 hy2 hy3 hy4 hy5 _) (cwV 1 hts gL_law_X3_trustIn rfl rfl rfl ⟨rfl, hd_X3_trustIn⟩ ⟨Nat.le_of_ble_eq_true rfl, Nat.le_of_ble_eq_true rfl⟩) (pwV (ci := 3) (q0 := 22) (C := RX3) hw hK rfl rfl rfl (rpS (AV := [.ref (M 0), .int z1]) hw hK hG rp_88)) rfl rfl hl.1 rfl (lv_room (Nat.le_of_ble_eq_true rfl)) dL_law_1129 ⟨(show cells + 1 + 0 ≤ 1033879 by omega), (show slots + 6 + 0 ≤ 5994467 by omega)⟩) hw hA rp_87 (fun H locs hw => ?_)
  refine lv_istore (lv' := [(6, .int 0), (5, .int 1), (0, .ref b), (1, .ref x), (2, .ref (M 0)), (3, .ref o), (4, .int (nI i))]) hx hb dL_law_1132 hl (by decide) rfl (fun ls hl => ?_)
  refine lv_aload_n hx hb dL_law_1134 rfl (lv_at hl 4 rfl) ?_
  refine kr_i (ws' := wX x A T B ++ wC E A (B 0) S ++ wC E T (B 0) U ++ wG E B G ++ [(o, aJ E 1 f)] ++ wN E M (1, Hb, a, k)) (va_runV (As := []) (rest := []) ⟨hx, hb, hml, hown, hts⟩ (c_X3_thrown l E M 1 Hb a k  _) (cwV 0 hts gL_law_X3_thrown rfl rfl rfl ⟨rfl, hd_X3_thrown⟩ ⟨Nat.le_of_ble_eq_true rfl, Nat.le_of_ble_eq_true rfl⟩) (pwV (ci := 3) (q0 := 22) (C := RX3) hw hK rfl rfl rfl (rpS (AV := [.ref (M 0)]) hw hK hG rp_88)) rfl rfl hl.1 rfl (lv_room (Nat.le_of_ble_eq_true rfl)) dL_law_1135 ⟨(show cells + 1 + 0 ≤ 1033879 by omega), (show slots + 6 + 0 ≤ 5994467 by omega)⟩) hw hA rp_88 (fun H locs hw => ?_)
  refine lv_iload hx hb dL_law_1138 (lv_at hl 1 rfl) ?_
  refine lv_icmp_eq (tgt := 1145) hx hb dL_law_1140 (by decide) (fun _ => ?_) (fun q8 => absurd (by decide) q8)
  refine lv_iload hx hb dL_law_1145 (lv_at hl 1 rfl) ?_
  refine lv_if_ne (tgt := 1162) hx hb dL_law_1147 (by decide) (fun _ => ?_) (fun q8 => absurd q8 (by decide))
  refine lv_goto (tgt := 2161) hx hb dL_law_1162 (by decide) ?_
  refine W.widen (k := cells + 30) (n := slots + 200) (show cells + 1 ≤ cells + 30 by omega) (show slots + 6 ≤ slots + 200 by omega) ?_
  exact kk U f 1 k _ _ _ hw (lv_sub hl [2, 3, 4, 5, 6] rfl)
