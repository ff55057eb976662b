set_option maxHeartbeats 4000000 in
set_option maxRecDepth 100000 in
theorem la_wax {p9 : Program} {l : Launch} {e : Env} {s9 : State} {m : MethodId} {below : List Frame} {meth : Method} {c : Code} {b L : Nat} {xs : Nat → Int32} (C0 : lw_At p9 s9 m meth c b L xs) (hflags : l.stackTraces = false) (hL : L ≤ 2048) (E : Ev) (hK : va_K E.1 vwCl (tysE E) s9) (hG : Gx s9) (hZ : Zx (aL s9) s9 s9.heap) {Q : State → Prop} (x o : Nat) (A T B M : Nat → Nat) (S U : CS) (G : HS) (th : Int32) (Hb : MH) (a k : Fn) (f : Nat → Int64) (i cells slots : Nat) (hi : i + 4 ≤ L) (hy0 : n_ns Hb ≤ 5) (hy1 : n_np Hb ≤ 16) (hy2 : n_nw Hb ≤ 4) (hy3 : ∀ p, p < n_np Hb → n_so Hb p < 5) (hy4 : c_wa S = a 1) (hc9 : cells + 30 ≤ 1033879) (hs9 : slots + 200 ≤ 5994467) (kk : ∀ (U1 : CS) (f1 : Nat → Int64) (t1 : Int32) (k1 : Fn) (H : Heap) (locs : List Loc) (ls : Array Slot), Wd E (aL s9) s9.heap (wX x A T B ++ wC E A (B 0) S ++ wC E T (B 0) U1 ++ wG E B G ++ [(o, aJ E 1 f1)] ++ wN E M (t1, Hb, a, k1)) H locs → lv_has ls 9 [(0, .ref b), (1, .ref x), (2, .ref (M 0)), (3, .ref o), (4, .int (nI i))] → W p9 l e room_1 s9 m #[Value.ref b] below meth c H locs (cells + 30) (slots + 200) Q (F0 m 2161 ls [])) {H : Heap} {locs : List Loc} {ls : Array Slot} (hw : Wd E (aL s9) s9.heap (wX x A T B ++ wC E A (B 0) S ++ wC E T (B 0) U ++ wG E B G ++ [(o, aJ E 1 f)] ++ wN E M (th, Hb, a, k)) H locs) (hl : lv_has ls 9 [(0, .ref b), (1, .ref x), (2, .ref (M 0)), (3, .ref o), (4, .int (nI i))]) : W p9 l e room_1 s9 m #[Value.ref b] below meth c H locs cells slots Q (F0 m 1798 ls []) := by
  obtain ⟨hx, hb, hr, hml, hown, hts0, hX, hbl, hlocks, hgv⟩ := C0
  have hts : ∀ w ∈ wsL_law, w.before #[Value.ref b] s9 = true := fun w h => hts0 w (wsL_law_in w h)
  have hown : s9.vm.findClass RL = some m.cls := hown
  have hA : ∀ q, s9.heap.size ≤ q → aL s9 q := fun _ h => h
  refine lv_aload_n hx hb dL_law_1798 rfl (lv_at hl 1 rfl) ?_
  refine kr_i (ws' := wX x A T B ++ wC E A (B 0) S ++ wC E T (B 0) U ++ wG E B G ++ [(o, aJ E 1 f)] ++ wN E M (th, Hb, a, k)) (va_runV (As := []) (rest := []) ⟨hx, hb, hml, hown, hts⟩ (c_X2_wax l E x A T B S U G  _) (cwV 0 hts gL_law_X2_wax rfl rfl rfl ⟨rfl, hd_X2_wax⟩ ⟨Nat.le_of_ble_eq_true rfl, Nat.le_of_ble_eq_true rfl⟩) (pwV (ci := 2) (q0 := 0) (C := RX2) hw hK rfl rfl rfl (rpS (AV := [.ref x]) hw hK hG rp_92)) rfl rfl hl.1 rfl (lv_room (Nat.le_of_ble_eq_true rfl)) dL_law_1799 ⟨(show cells + 0 ≤ 1033879 by omega), (show slots + 0 ≤ 5994467 by omega)⟩) hw hA rp_92 (fun H locs hw => ?_)
  refine lv_aload_n hx hb dL_law_1802 rfl (lv_at hl 2 rfl) ?_
  refine kr_i (ws' := wX x A T B ++ wC E A (B 0) S ++ wC E T (B 0) U ++ wG E B G ++ [(o, aJ E 1 f)] ++ wN E M (0, Hb, a, k)) (va_runV (As := []) (rest := [.int (c_wa S)]) ⟨hx, hb, hml, hown, hts⟩ (c_X3_wax l E M th Hb a k hy0 hy1 hy2 hy3 _) (cwV 0 hts gL_law_X3_wax rfl rfl rfl ⟨rfl, hd_X3_wax⟩ ⟨Nat.le_of_ble_eq_true rfl, Nat.le_of_ble_eq_true rfl⟩) (pwV (ci := 3) (q0 := 22) (C := RX3) hw hK rfl rfl rfl (rpS (AV := [.ref (M 0)]) hw hK hG rp_88)) rfl rfl hl.1 rfl (lv_room (Nat.le_of_ble_eq_true rfl)) dL_law_1803 ⟨(show cells + 0 ≤ 1033879 by omega), (show slots + 0 ≤ 5994467 by omega)⟩) hw hA rp_87 (fun H locs hw => ?_)
  refine lv_icmp_eq (tgt := 2161) hx hb dL_law_1806 (by decide) (fun _ => ?_) (fun q8 => absurd hy4 q8)
  refine W.widen (k := cells + 30) (n := slots + 200) (show cells ≤ cells + 30 by omega) (show slots ≤ slots + 200 by omega) ?_
  exact kk U f 0 k _ _ _ hw (lv_sub hl [0, 1, 2, 3, 4] rfl)

set_option maxHeartbeats 4000000 in
set_option maxRecDepth 100000 in
theorem la_darkCandles {p9 : Program} {l : Launch} {e : Env} {s9 : State} {m : MethodId} {below : List Frame} {meth : Method} {c : Code} {b L : Nat} {xs : Nat → Int32} (C0 : lw_At p9 s9 m meth c b L xs) (hflags : l.stackTraces = false) (hL : L ≤ 2048) (E : Ev) (hK : va_K E.1 vwCl (tysE E) s9) (hG : Gx s9) (hZ : Zx (aL s9) s9 s9.heap) {Q : State → Prop} (x o : Nat) (A T B M : Nat → Nat) (S U : CS) (G : HS) (th : Int32) (Hb : MH) (a k : Fn) (f : Nat → Int64) (i cells slots : Nat) (hi : i + 4 ≤ L) (hy0 : n_ns Hb ≤ 5) (hy1 : n_np Hb ≤ 16) (hy2 : n_nw Hb ≤ 4) (hy3 : ∀ p, p < n_np Hb → n_so Hb p < 5) (hy4 : l_dark G S 16 = l_mdk Hb a (n_np Hb)) (hc9 : cells + 30 ≤ 1033879) (hs9 : slots + 200 ≤ 5994467) (kk : ∀ (U1 : CS) (f1 : Nat → Int64) (t1 : Int32) (k1 : Fn) (H : Heap) (locs : List Loc) (ls : Array Slot), Wd E (aL s9) s9.heap (wX x A T B ++ wC E A (B 0) S ++ wC E T (B 0) U1 ++ wG E B G ++ [(o, aJ E 1 f1)] ++ wN E M (t1, Hb, a, k1)) H locs → lv_has ls 9 [(0, .ref b), (1, .ref x), (2, .ref (M 0)), (3, .ref o), (4, .int (nI i))] → W p9 l e room_1 s9 m #[Value.ref b] below meth c H locs (cells + 30) (slots + 200) Q (F0 m 2161 ls [])) {H : Heap} {locs : List Loc} {ls : Array Slot} (hw : Wd E (aL s9) s9.heap (wX x A T B ++ wC E A (B 0) S ++ wC E T (B 0) U ++ wG E B G ++ [(o, aJ E 1 f)] ++ wN E M (th, Hb, a, k)) H locs) (hl : lv_has ls 9 [(0, .ref b), (1, .ref x), (2, .ref (M 0)), (3, .ref o), (4, .int (nI i))]) : W p9 l e room_1 s9 m #[Value.ref b] below meth c H locs cells slots Q (F0 m 1811 ls []) := by
  obtain ⟨hx, hb, hr, hml, hown, hts0, hX, hbl, hlocks, hgv⟩ := C0
  have hts : ∀ w ∈ wsL_law, w.before #[Value.ref b] s9 = true := fun w h => hts0 w (wsL_law_in w h)
  have hown : s9.vm.findClass RL = some m.cls := hown
  have hA : ∀ q, s9.heap.size ≤ q → aL s9 q := fun _ h => h
  refine lv_aload_n hx hb dL_law_1811 rfl (lv_at hl 1 rfl) ?_
  refine kr_i (ws' := wX x A T B ++ wC E A (B 0) S ++ wC E T (B 0) U ++ wG E B G ++ [(o, aJ E 1 f)] ++ wN E M (th, Hb, a, k)) (va_runV (As := []) (rest := []) ⟨hx, hb, hml, hown, hts⟩ (c_X2_darkCandles l E x A T B S U G  _) (cwV 0 hts gL_law_X2_darkCandles rfl rfl rfl ⟨rfl, hd_X2_darkCandles⟩ ⟨Nat.le_of_ble_eq_true rfl, Nat.le_of_ble_eq_true rfl⟩) (pwV (ci := 2) (q0 := 0) (C := RX2) hw hK rfl rfl rfl (rpS (AV := [.ref x]) hw hK hG rp_92)) rfl rfl hl.1 rfl (lv_room (Nat.le_of_ble_eq_true rfl)) dL_law_1812 ⟨(show cells + 0 ≤ 1033879 by omega), (show slots + 0 ≤ 5994467 by omega)⟩) hw hA rp_92 (fun H locs hw => ?_)
  refine lv_aload_n hx hb dL_law_1815 rfl (lv_at hl 2 rfl) ?_
  refine kr_i (ws' := wX x A T B ++ wC E A (B 0) S ++ wC E T (B 0) U ++ wG E B G ++ [(o, aJ E 1 f)] ++ wN E M (0, Hb, a, k)) (va_runV (As := []) (rest := [.int (l_dark G S 16)]) ⟨hx, hb, hml, hown, hts⟩ (c_X3_darkCandles l E M th Hb a k hy0 hy1 hy2 hy3 _) (cwV 0 hts gL_law_X3_darkCandles rfl rfl rfl ⟨rfl, hd_X3_darkCandles⟩ ⟨Nat.le_of_ble_eq_true rfl, Nat.le_of_ble_eq_true rfl⟩) (pwV (ci := 3) (q0 := 22) (C := RX3) hw hK rfl rfl rfl (rpS (AV := [.ref (M 0)]) hw hK hG rp_88)) rfl rfl hl.1 rfl (lv_room (Nat.le_of_ble_eq_true rfl)) dL_law_1816 ⟨(show cells + 0 ≤ 1033879 by omega), (show slots + 0 ≤ 5994467 by omega)⟩) hw hA rp_87 (fun H locs hw => ?_)
  refine lv_icmp_eq (tgt := 2161) hx hb dL_law_1819 (by decide) (fun _ => ?_) (fun q8 => absurd hy4 q8)
  refine W.widen (k := cells + 30) (n := slots + 200) (show cells ≤ cells + 30 by omega) (show slots ≤ slots + 200 by omega) ?_
  exact kk U f 0 k _ _ _ hw (lv_sub hl [0, 1, 2, 3, 4] rfl)

set_option maxHeartbeats 4000000 in
set_option maxRecDepth 100000 in
theorem la_bellsUnrung {p9 : Program} {l : Launch} {e : Env} {s9 : State} {m : MethodId} {below : List Frame} {meth : Method} {c : Code} {b L : Nat} {xs : Nat → Int32} (C0 : lw_At p9 s9 m meth c b L xs) (hflags : l.stackTraces = false) (hL : L ≤ 2048) (E : Ev) (hK : va_K E.1 vwCl (tysE E) s9) (hG : Gx s9) (hZ : Zx (aL s9) s9 s9.heap) {Q : State → Prop} (x o : Nat) (A T B M : Nat → Nat) (S U : CS) (G : HS) (th : Int32) (Hb : MH) (a k : Fn) (f : Nat → Int64) (i cells slots : Nat) (hi : i + 4 ≤ L) (hy0 : n_ns Hb ≤ 5) (hy1 : n_np Hb ≤ 16) (hy2 : n_nw Hb ≤ 4) (hy3 : ∀ p, p < n_np Hb → n_so Hb p < 5) (hy4 : c_un S = a 2) (hc9 : cells + 30 ≤ 1033879) (hs9 : slots + 200 ≤ 5994467) (kk : ∀ (U1 : CS) (f1 : Nat → Int64) (t1 : Int32) (k1 : Fn) (H : Heap) (locs : List Loc) (ls : Array Slot), Wd E (aL s9) s9.heap (wX x A T B ++ wC E A (B 0) S ++ wC E T (B 0) U1 ++ wG E B G ++ [(o, aJ E 1 f1)] ++ wN E M (t1, Hb, a, k1)) H locs → lv_has ls 9 [(0, .ref b), (1, .ref x), (2, .ref (M 0)), (3, .ref o), (4, .int (nI i))] → W p9 l e room_1 s9 m #[Value.ref b] below meth c H locs (cells + 30) (slots + 200) Q (F0 m 2161 ls [])) {H : Heap} {locs : List Loc} {ls : Array Slot} (hw : Wd E (aL s9) s9.heap (wX x A T B ++ wC E A (B 0) S ++ wC E T (B 0) U ++ wG E B G ++ [(o, aJ E 1 f)] ++ wN E M (th, Hb, a, k)) H locs) (hl : lv_has ls 9 [(0, .ref b), (1, .ref x), (2, .ref (M 0)), (3, .ref o), (4, .int (nI i))]) : W p9 l e room_1 s9 m #[Value.ref b] below meth c H locs cells slots Q (F0 m 1824 ls []) := by
  obtain ⟨hx, hb, hr, hml, hown, hts0, hX, hbl, hlocks, hgv⟩ := C0
  have hts : ∀ w ∈ wsL_law, w.before #[Value.ref b] s9 = true := fun w h => hts0 w (wsL_law_in w h)
  have hown : s9.vm.findClass RL = some m.cls := hown
  have hA : ∀ q, s9.heap.size ≤ q → aL s9 q := fun _ h => h
  refine lv_aload_n hx hb dL_law_1824 rfl (lv_at hl 1 rfl) ?_
  refine kr_i (ws' := wX x A T B ++ wC E A (B 0) S ++ wC E T (B 0) U ++ wG E B G ++ [(o, aJ E 1 f)] ++ wN E M (th, Hb, a, k)) (va_runV (As := []) (rest := []) ⟨hx, hb, hml, hown, hts⟩ (c_X2_bellsUnrung l E x A T B S U G  _) (cwV 0 hts gL_law_X2_bellsUnrung rfl rfl rfl ⟨rfl, hd_X2_bellsUnrung⟩ ⟨Nat.le_of_ble_eq_true rfl, Nat.le_of_ble_eq_true rfl⟩) (pwV (ci := 2) (q0 := 0) (C := RX2) hw hK rfl rfl rfl (rpS (AV := [.ref x]) hw hK hG rp_92)) rfl rfl hl.1 rfl (lv_room (Nat.le_of_ble_eq_true rfl)) dL_law_1825 ⟨(show cells + 0 ≤ 1033879 by omega), (show slots + 0 ≤ 5994467 by omega)⟩) hw hA rp_92 (fun H locs hw => ?_)
  refine lv_aload_n hx hb dL_law_1828 rfl (lv_at hl 2 rfl) ?_
  refine kr_i (ws' := wX x A T B ++ wC E A (B 0) S ++ wC E T (B 0) U ++ wG E B G ++ [(o, aJ E 1 f)] ++ wN E M (0, Hb, a, k)) (va_runV (As := []) (rest := [.int (c_un S)]) ⟨hx, hb, hml, hown, hts⟩ (c_X3_bellsUnrung l E M th Hb a k hy0 hy1 hy2 hy3 _) (cwV 0 hts gL_law_X3_bellsUnrung rfl rfl rfl ⟨rfl, hd_X3_bellsUnrung⟩ ⟨Nat.le_of_ble_eq_true rfl, Nat.le_of_ble_eq_true rfl⟩) (pwV (ci := 3) (q0 := 22) (C := RX3) hw hK rfl rfl rfl (rpS (AV := [.ref (M 0)]) hw hK hG rp_88)) rfl rfl hl.1 rfl (lv_room (Nat.le_of_ble_eq_true rfl)) dL_law_1829 ⟨(show cells + 0 ≤ 1033879 by omega), (show slots + 0 ≤ 5994467 by omega)⟩) hw hA rp_87 (fun H locs hw => ?_)
  refine lv_icmp_eq (tgt := 2161) hx hb dL_law_1832 (by decide) (fun _ => ?_) (fun q8 => absurd hy4 q8)
  refine W.widen (k := cells + 30) (n := slots + 200) (show cells ≤ cells + 30 by omega) (show slots ≤ slots + 200 by omega) ?_
  exact kk U f 0 k _ _ _ hw (lv_sub hl [0, 1, 2, 3, 4] rfl)

set_option maxHeartbeats 4000000 in
set_option maxRecDepth 100000 in
theorem la_namesOnWall {p9 : Program} {l : Launch} {e : Env} {s9 : State} {m : MethodId} {below : List Frame} {meth : Method} {c : Code} {b L : Nat} {xs : Nat → Int32} (C0 : lw_At p9 s9 m meth c b L xs) (hflags : l.stackTraces = false) (hL : L ≤ 2048) (E : Ev) (hK : va_K E.1 vwCl (tysE E) s9) (hG : Gx s9) (hZ : Zx (aL s9) s9 s9.heap) {Q : State → Prop} (x o : Nat) (A T B M : Nat → Nat) (S U : CS) (G : HS) (th : Int32) (Hb : MH) (a k : Fn) (f : Nat → Int64) (i cells slots : Nat) (hi : i + 4 ≤ L) (hy0 : n_ns Hb ≤ 5) (hy1 : n_np Hb ≤ 16) (hy2 : n_nw Hb ≤ 4) (hy3 : ∀ p, p < n_np Hb → n_so Hb p < 5) (hy4 : l_lost G S 16 = l_mwl Hb a (n_np Hb)) (hc9 : cells + 30 ≤ 1033879) (hs9 : slots + 200 ≤ 5994467) (kk : ∀ (U1 : CS) (f1 : Nat → Int64) (t1 : Int32) (k1 : Fn) (H : Heap) (locs : List Loc) (ls : Array Slot), Wd E (aL s9) s9.heap (wX x A T B ++ wC E A (B 0) S ++ wC E T (B 0) U1 ++ wG E B G ++ [(o, aJ E 1 f1)] ++ wN E M (t1, Hb, a, k1)) H locs → lv_has ls 9 [(0, .ref b), (1, .ref x), (2, .ref (M 0)), (3, .ref o), (4, .int (nI i))] → W p9 l e room_1 s9 m #[Value.ref b] below meth c H locs (cells + 30) (slots + 200) Q (F0 m 2161 ls [])) {H : Heap} {locs : List Loc} {ls : Array Slot} (hw : Wd E (aL s9) s9.heap (wX x A T B ++ wC E A (B 0) S ++ wC E T (B 0) U ++ wG E B G ++ [(o, aJ E 1 f)] ++ wN E M (th, Hb, a, k)) H locs) (hl : lv_has ls 9 [(0, .ref b), (1, .ref x), (2, .ref (M 0)), (3, .ref o), (4, .int (nI i))]) : W p9 l e room_1 s9 m #[Value.ref b] below meth c H locs cells slots Q (F0 m 1837 ls []) := by
  obtain ⟨hx, hb, hr, hml, hown, hts0, hX, hbl, hlocks, hgv⟩ := C0
  have hts : ∀ w ∈ wsL_law, w.before #[Value.ref b] s9 = true := fun w h => hts0 w (wsL_law_in w h)
  have hown : s9.vm.findClass RL = some m.cls := hown
  have hA : ∀ q, s9.heap.size ≤ q → aL s9 q := fun _ h => h
  refine lv_aload_n hx hb dL_law_1837 rfl (lv_at hl 1 rfl) ?_
  refine kr_i (ws' := wX x A T B ++ wC E A (B 0) S ++ wC E T (B 0) U ++ wG E B G ++ [(o, aJ E 1 f)] ++ wN E M (th, Hb, a, k)) (va_runV (As := []) (rest := []) ⟨hx, hb, hml, hown, hts⟩ (c_X2_namesOnWall l E x A T B S U G  _) (cwV 0 hts gL_law_X2_namesOnWall rfl rfl rfl ⟨rfl, hd_X2_namesOnWall⟩ ⟨Nat.le_of_ble_eq_true rfl, Nat.le_of_ble_eq_true rfl⟩) (pwV (ci := 2) (q0 := 0) (C := RX2) hw hK rfl rfl rfl (rpS (AV := [.ref x]) hw hK hG rp_92)) rfl rfl hl.1 rfl (lv_room (Nat.le_of_ble_eq_true rfl)) dL_law_1838 ⟨(show cells + 0 ≤ 1033879 by omega), (show slots + 0 ≤ 5994467 by omega)⟩) hw hA rp_92 (fun H locs hw => ?_)
  refine lv_aload_n hx hb dL_law_1841 rfl (lv_at hl 2 rfl) ?_
  refine kr_i (ws' := wX x A T B ++ wC E A (B 0) S ++ wC E T (B 0) U ++ wG E B G ++ [(o, aJ E 1 f)] ++ wN E M (0, Hb, a, k)) (va_runV (As := []) (rest := [.int (l_lost G S 16)]) ⟨hx, hb, hml, hown, hts⟩ (c_X3_namesOnWall l E M th Hb a k hy0 hy1 hy2 hy3 _) (cwV 0 hts gL_law_X3_namesOnWall rfl rfl rfl ⟨rfl, hd_X3_namesOnWall⟩ ⟨Nat.le_of_ble_eq_true rfl, Nat.le_of_ble_eq_true rfl⟩) (pwV (ci := 3) (q0 := 22) (C := RX3) hw hK rfl rfl rfl (rpS (AV := [.ref (M 0)]) hw hK hG rp_88)) rfl rfl hl.1 rfl (lv_room (Nat.le_of_ble_eq_true rfl)) dL_law_1842 ⟨(show cells + 0 ≤ 1033879 by omega), (show slots + 0 ≤ 5994467 by omega)⟩) hw hA rp_87 (fun H locs hw => ?_)
  refine lv_icmp_eq (tgt := 2161) hx hb dL_law_1845 (by decide) (fun _ => ?_) (fun q8 => absurd hy4 q8)
  refine W.widen (k := cells + 30) (n := slots + 200) (show cells ≤ cells + 30 by omega) (show slots ≤ slots + 200 by omega) ?_
  exact kk U f 0 k _ _ _ hw (lv_sub hl [0, 1, 2, 3, 4] rfl)

set_option maxHeartbeats 4000000 in
set_option maxRecDepth 100000 in
theorem la_wouldRing_1 {p9 : Program} {l : Launch} {e : Env} {s9 : State} {m : MethodId} {below : List Frame} {meth : Method} {c : Code} {b L : Nat} {xs : Nat → Int32} (C0 : lw_At p9 s9 m meth c b L xs) (hflags : l.stackTraces = false) (hL : L ≤ 2048) (E : Ev) (hK : va_K E.1 vwCl (tysE E) s9) (hG : Gx s9) (hZ : Zx (aL s9) s9 s9.heap) {Q : State → Prop} (x o : Nat) (A T B M : Nat → Nat) (S U : CS) (G : HS) (th : Int32) (Hb : MH) (a k : Fn) (f : Nat → Int64) (i cells slots : Nat) (hi : i + 4 ≤ L) (z1 : Int32) (e1 : xs (i + 1) = z1) (z2 : Int32) (e2 : xs (i + 2) = z2) (hy0 : t_new G S z1 z2 = 1) (hy1 : n_ns Hb ≤ 5) (hy2 : n_np Hb ≤ 16) (hy3 : n_nw Hb ≤ 4) (hy4 : ∀ p, p < n_np Hb → n_so Hb p < 5) (hy5 : d_in z1 0 (nI (n_nw Hb) - 1) = false) (hc9 : cells + 30 ≤ 1033879) (hs9 : slots + 200 ≤ 5994467) (kk : ∀ (U1 : CS) (f1 : Nat → Int64) (t1 : Int32) (k1 : Fn) (H : Heap) (locs : List Loc) (ls : Array Slot), Wd E (aL s9) s9.heap (wX x A T B ++ wC E A (B 0) S ++ wC E T (B 0) U1 ++ wG E B G ++ [(o, aJ E 1 f1)] ++ wN E M (t1, Hb, a, k1)) H locs → lv_has ls 9 [(0, .ref b), (1, .ref x), (2, .ref (M 0)), (3, .ref o), (4, .int (nI i))] → W p9 l e room_1 s9 m #[Value.ref b] below meth c H locs (cells + 30) (slots + 200) Q (F0 m 2161 ls [])) {H : Heap} {locs : List Loc} {ls : Array Slot} (hw : Wd E (aL s9) s9.heap (wX x A T B ++ wC E A (B 0) S ++ wC E T (B 0) U ++ wG E B G ++ [(o, aJ E 1 f)] ++ wN E M (th, Hb, a, k)) H locs) (hl : lv_has ls 9 [(0, .ref b), (1, .ref x), (2, .ref (M 0)), (3, .ref o), (4, .int (nI i))]) : W p9 l e room_1 s9 m #[Value.ref b] below meth c H locs cells slots Q (F0 m 1850 ls []) := by
  obtain ⟨hx, hb, hr, hml, hown, hts0, hX, hbl, hlocks, hgv⟩ := C0
  have hts : ∀ w ∈ wsL_law, w.before #[Value.ref b] s9 = true := fun w h => hts0 w (wsL_law_in w h)
  have hown : s9.vm.findClass RL = some m.cls := hown
  have hA : ∀ q, s9.heap.size ≤ q → aL s9 q := fun _ h => h
  refine lv_aload_n hx hb dL_law_1850 rfl (lv_at hl 1 rfl) ?_
  refine lv_aload_n hx hb dL_law_1851 rfl (lv_at hl 0 rfl) ?_
  refine lv_iload hx hb dL_law_1852 (lv_at hl 4 rfl) ?_
  refine lv_iconst (v := 1) hx hb dL_law_1854 (by decide) ?_
  refine k_iaddN (a := i) (b := 1) hx hb dL_law_1855 ?_
  refine k_sldv (i := i + 1) (v := z1) hx hb hX hbl hw (by omega) (by omega) e1 dL_law_1856 ?_
  refine lv_aload_n hx hb dL_law_1857 rfl (lv_at hl 0 rfl) ?_
  refine lv_iload hx hb dL_law_1858 (lv_at hl 4 rfl) ?_
  refine lv_iconst (v := 2) hx hb dL_law_1860 (by decide) ?_
  refine k_iaddN (a := i) (b := 2) hx hb dL_law_1861 ?_
  refine k_sldv (i := i + 2) (v := z2) hx hb hX hbl hw (by omega) (by omega) e2 dL_law_1862 ?_
  refine lv_aload_n hx hb dL_law_1863 rfl (lv_at hl 3 rfl) ?_
  refine krx_i (ws' := wX x A T B ++ wC E A (B 0) S ++ wC E T (B 0) U ++ wG E B G ++ [(o, aJ E 1 f)] ++ wN E M (th, Hb, a, k)) (vx_runSX (As := [.ref x, .int z1, .int z2, .ref o]) (rest := []) ⟨hx, hb, hml, hown, hts⟩ (c_L_wouldRing_1 l hflags E x A T B S U G z1 z2 o f hy0 _) (vx_cwSW 4 hts gL_law_L_wouldRing rfl rfl rfl hd_L_wouldRing ⟨Nat.le_of_ble_eq_true rfl, Nat.le_of_ble_eq_true rfl⟩) (rpX (AV := [.ref x, .int z1, .int z2, .ref o]) hw hK hG hZ hA rp_86) rfl rfl hl.1 rfl (lv_room (Nat.le_of_ble_eq_true rfl)) dL_law_1864 ⟨(show cells + 3 ≤ 1033879 by omega), (show slots + 18 ≤ 5994467 by omega)⟩) hw hA rp_86 rp_86 (fun H locs ce9 q9 t_1 hw hy1 hy2 hy3 => absurd rfl t_1) (fun H locs t_1 hw => ?_)
  refine lv_istore (lv' := [(5, .int 1), (0, .ref b), (1, .ref x), (2, .ref (M 0)), (3, .ref o), (4, .int (nI i))]) hx hb dL_law_1867 hl (by decide) rfl (fun ls hl => ?_)
  refine lv_aload_n hx hb dL_law_1869 rfl (lv_at hl 3 rfl) ?_
  refine lv_aload_n hx hb dL_law_1870 rfl (lv_at hl 1 rfl) ?_
  refine lv_iload hx hb dL_law_1871 (lv_at hl 5 rfl) ?_
  refine lv_iconst (v := 1) hx hb dL_law_1873 (by decide) ?_
  refine k_iaddN (a := i) (b := 1) hx hb dL_law_1874 ?_
  refine k_sldv (i := i + 1) (v := z1) hx hb hX hbl hw (by omega) (by omega) e1 dL_law_1875 ?_
  refine lv_aload_n hx hb dL_law_1876 rfl (lv_at hl 1 rfl) ?_
  refine lv_iload hx hb dL_law_1877 (lv_at hl 5 rfl) ?_
  refine lv_iconst (v := 2) hx hb dL_law_1879 (by decide) ?_
  refine k_iaddN (a := i) (b := 2) hx hb dL_law_1880 ?_
  refine k_sldv (i := i + 2) (v := z2) hx hb hX hbl hw (by omega) (by omega) e2 dL_law_1881 ?_
  refine kr_i (ws' := wX x A T B ++ wC E A (B 0) S ++ wC E T (B 0) U ++ wG E B G ++ [(o, aJ E 1 f)] ++ wN E M (1, Hb, a, k)) (va_runV (As := [.int z1, .int z2]) (rest := []) ⟨hx, hb, hml, hown, hts⟩ (c_X3_wouldRing_1 l E M th Hb a k z1 z2 hy1 hy2 hy3 hy4 hy5 _) (cwV 2 hts gL_law_X3_wouldRing rfl rfl rfl ⟨rfl, hd_X3_wouldRing⟩ ⟨Nat.le_of_ble_eq_true rfl, Nat.le_of_ble_eq_true rfl⟩) (pwV (ci := 3) (q0 := 22) (C := RX3) hw hK rfl rfl rfl (rpS (AV := [.ref (M 0), .int z1, .int z2]) hw hK hG rp_88)) rfl rfl hl.1 rfl (lv_room (Nat.le_of_ble_eq_true rfl)) dL_law_1882 ⟨(show cells + 3 + 0 ≤ 1033879 by omega), (show slots + 18 + 0 ≤ 5994467 by omega)⟩) hw hA rp_87 (fun H locs hw => ?_)
  refine lv_istore (lv' := [(6, .int (bI false)), (5, .int 1), (0, .ref b), (1, .ref x), (2, .ref (M 0)), (3, .ref o), (4, .int (nI i))]) hx hb dL_law_1885 hl (by decide) rfl (fun ls hl => ?_)
  refine lv_aload_n hx hb dL_law_1887 rfl (lv_at hl 4 rfl) ?_
  refine kr_i (ws' := wX x A T B ++ wC E A (B 0) S ++ wC E T (B 0) U ++ wG E B G ++ [(o, aJ E 1 f)] ++ wN E M (1, Hb, a, k)) (va_runV (As := []) (rest := []) ⟨hx, hb, hml, hown, hts⟩ (c_X3_thrown l E M 1 Hb a k  _) (cwV 0 hts gL_law_X3_thrown rfl rfl rfl ⟨rfl, hd_X3_thrown⟩ ⟨Nat.le_of_ble_eq_true rfl, Nat.le_of_ble_eq_true rfl⟩) (pwV (ci := 3) (q0 := 22) (C := RX3) hw hK rfl rfl rfl (rpS (AV := [.ref (M 0)]) hw hK hG rp_88)) rfl rfl hl.1 rfl (lv_room (Nat.le_of_ble_eq_true rfl)) dL_law_1888 ⟨(show cells + 3 + 0 ≤ 1033879 by omega), (show slots + 18 + 0 ≤ 5994467 by omega)⟩) hw hA rp_88 (fun H locs hw => ?_)
  refine lv_iload hx hb dL_law_1891 (lv_at hl 1 rfl) ?_
  refine lv_icmp_eq (tgt := 1898) hx hb dL_law_1893 (by decide) (fun _ => ?_) (fun q8 => absurd (by decide) q8)
  refine lv_iload hx hb dL_law_1898 (lv_at hl 1 rfl) ?_
  refine lv_if_ne (tgt := 1922) hx hb dL_law_1900 (by decide) (fun _ => ?_) (fun q8 => absurd q8 (by decide))
  refine lv_goto (tgt := 2161) hx hb dL_law_1922 (by decide) ?_
  refine W.widen (k := cells + 30) (n := slots + 200) (show cells + 3 ≤ cells + 30 by omega) (show slots + 18 ≤ slots + 200 by omega) ?_
  exact kk U f 1 k _ _ _ hw (lv_sub hl [2, 3, 4, 5, 6] rfl)

set_option maxHeartbeats 4000000 in
set_option maxRecDepth 100000 in
theorem la_wouldRing_1b {p9 : Program} {l : Launch} {e : Env} {s9 : State} {m : MethodId} {below : List Frame} {meth : Method} {c : Code} {b L : Nat} {xs : Nat → Int32} (C0 : lw_At p9 s9 m meth c b L xs) (hflags : l.stackTraces = false) (hL : L ≤ 2048) (E : Ev) (hK : va_K E.1 vwCl (tysE E) s9) (hG : Gx s9) (hZ : Zx (aL s9) s9 s9.heap) {Q : State → Prop} (x o : Nat) (A T B M : Nat → Nat) (S U : CS) (G : HS) (th : Int32) (Hb : MH) (a k : Fn) (f : Nat → Int64) (i cells slots : Nat) (hi : i + 4 ≤ L) (n1 : Nat) (e1 : xs (i + 1) = nI n1) (z2 : Int32) (e2 : xs (i + 2) = z2) (hy0 : t_new G S (nI n1) z2 = 1) (hy1 : n_ns Hb ≤ 5) (hy2 : n_np Hb ≤ 16) (hy3 : n_nw Hb ≤ 4) (hy4 : ∀ p, p < n_np Hb → n_so Hb p < 5) (hy5 : n1 < n_nw Hb) (hy6 : d_in z2 0 (nI (n_ns Hb) - 1) = false) (hc9 : cells + 30 ≤ 1033879) (hs9 : slots + 200 ≤ 5994467) (kk : ∀ (U1 : CS) (f1 : Nat → Int64) (t1 : Int32) (k1 : Fn) (H : Heap) (locs : List Loc) (ls : Array Slot), Wd E (aL s9) s9.heap (wX x A T B ++ wC E A (B 0) S ++ wC E T (B 0) U1 ++ wG E B G ++ [(o, aJ E 1 f1)] ++ wN E M (t1, Hb, a, k1)) H locs → lv_has ls 9 [(0, .ref b), (1, .ref x), (2, .ref (M 0)), (3, .ref o), (4, .int (nI i))] → W p9 l e room_1 s9 m #[Value.ref b] below meth c H locs (cells + 30) (slots + 200) Q (F0 m 2161 ls [])) {H : Heap} {locs : List Loc} {ls : Array Slot} (hw : Wd E (aL s9) s9.heap (wX x A T B ++ wC E A (B 0) S ++ wC E T (B 0) U ++ wG E B G ++ [(o, aJ E 1 f)] ++ wN E M (th, Hb, a, k)) H locs) (hl : lv_has ls 9 [(0, .ref b), (1, .ref x), (2, .ref (M 0)), (3, .ref o), (4, .int (nI i))]) : W p9 l e room_1 s9 m #[Value.ref b] below meth c H locs cells slots Q (F0 m 1850 ls []) := by
  obtain ⟨hx, hb, hr, hml, hown, hts0, hX, hbl, hlocks, hgv⟩ := C0
  have hts : ∀ w ∈ wsL_law, w.before #[Value.ref b] s9 = true := fun w h => hts0 w (wsL_law_in w h)
  have hown : s9.vm.findClass RL = some m.cls := hown
  have hA : ∀ q, s9.heap.size ≤ q → aL s9 q := fun _ h => h
  refine lv_aload_n hx hb dL_law_1850 rfl (lv_at hl 1 rfl) ?_
  refine lv_aload_n hx hb dL_law_1851 rfl (lv_at hl 0 rfl) ?_
  refine lv_iload hx hb dL_law_1852 (lv_at hl 4 rfl) ?_
  refine lv_iconst (v := 1) hx hb dL_law_1854 (by decide) ?_
  refine k_iaddN (a := i) (b := 1) hx hb dL_law_1855 ?_
  refine k_sldv (i := i + 1) (v := nI n1) hx hb hX hbl hw (by omega) (by omega) e1 dL_law_1856 ?_
  refine lv_aload_n hx hb dL_law_1857 rfl (lv_at hl 0 rfl) ?_
  refine lv_iload hx hb dL_law_1858 (lv_at hl 4 rfl) ?_
  refine lv_iconst (v := 2) hx hb dL_law_1860 (by decide) ?_
  refine k_iaddN (a := i) (b := 2) hx hb dL_law_1861 ?_
  refine k_sldv (i := i + 2) (v := z2) hx hb hX hbl hw (by omega) (by omega) e2 dL_law_1862 ?_
  refine lv_aload_n hx hb dL_law_1863 rfl (lv_at hl 3 rfl) ?_
  refine krx_i (ws' := wX x A T B ++ wC E A (B 0) S ++ wC E T (B 0) U ++ wG E B G ++ [(o, aJ E 1 f)] ++ wN E M (th, Hb, a, k)) (vx_runSX (As := [.ref x, .int (nI n1), .int z2, .ref o]) (rest := []) ⟨hx, hb, hml, hown, hts⟩ (c_L_wouldRing_1 l hflags E x A T B S U G (nI n1) z2 o f hy0 _) (vx_cwSW 4 hts gL_law_L_wouldRing rfl rfl rfl hd_L_wouldRing ⟨Nat.le_of_ble_eq_true rfl, Nat.le_of_ble_eq_true rfl⟩) (rpX (AV := [.ref x, .int (nI n1), .int z2, .ref o]) hw hK hG hZ hA rp_86) rfl rfl hl.1 rfl (lv_room (Nat.le_of_ble_eq_true rfl)) dL_law_1864 ⟨(show cells + 3 ≤ 1033879 by omega), (show slots + 18 ≤ 5994467 by omega)⟩) hw hA rp_86 rp_86 (fun H locs ce9 q9 t_1 hw hy1 hy2 hy3 => absurd rfl t_1) (fun H locs t_1 hw => ?_)
  refine lv_istore (lv' := [(5, .int 1), (0, .ref b), (1, .ref x), (2, .ref (M 0)), (3, .ref o), (4, .int (nI i))]) hx hb dL_law_1867 hl (by decide) rfl (fun ls hl => ?_)
  refine lv_aload_n hx hb dL_law_1869 rfl (lv_at hl 3 rfl) ?_
  refine lv_aload_n hx hb dL_law_1870 rfl (lv_at hl 1 rfl) ?_
  refine lv_iload hx hb dL_law_1871 (lv_at hl 5 rfl) ?_
  refine lv_iconst (v := 1) hx hb dL_law_1873 (by decide) ?_
  refine k_iaddN (a := i) (b := 1) hx hb dL_law_1874 ?_
  refine k_sldv (i := i + 1) (v := nI n1) hx hb hX hbl hw (by omega) (by omega) e1 dL_law_1875 ?_
  refine lv_aload_n hx hb dL_law_1876 rfl (lv_at hl 1 rfl) ?_
  refine lv_iload hx hb dL_law_1877 (lv_at hl 5 rfl) ?_
  refine lv_iconst (v := 2) hx hb dL_law_1879 (by decide) ?_
  refine k_iaddN (a := i) (b := 2) hx hb dL_law_1880 ?_
  refine k_sldv (i := i + 2) (v := z2) hx hb hX hbl hw (by omega) (by omega) e2 dL_law_1881 ?_
  refine kr_i (ws' := wX x A T B ++ wC E A (B 0) S ++ wC E T (B 0) U ++ wG E B G ++ [(o, aJ E 1 f)] ++ wN E M (1, Hb, a, k)) (va_runV (As := [.int (nI n1), .int z2]) (rest := []) ⟨hx, hb, hml, hown, hts⟩ (c_X3_wouldRing_1b l E M th Hb a k n1 z2 hy1 hy2 hy3 hy4 hy5 hy6 _) (cwV 2 hts gL_law_X3_wouldRing rfl rfl rfl ⟨rfl, hd_X3_wouldRing⟩ ⟨Nat.le_of_ble_eq_true rfl, Nat.le_of_ble_eq_true rfl⟩) (pwV (ci := 3) (q0 := 22) (C := RX3) hw hK rfl rfl rfl (rpS (AV := [.ref (M 0), .int (nI n1), .int z2]) hw hK hG rp_88)) rfl rfl hl.1 rfl (lv_room (Nat.le_of_ble_eq_true rfl)) dL_law_1882 ⟨(show cells + 3 + 0 ≤ 1033879 by omega), (show slots + 18 + 0 ≤ 5994467 by omega)⟩) hw hA rp_87 (fun H locs hw => ?_)
  refine lv_istore (lv' := [(6, .int (bI false)), (5, .int 1), (0, .ref b), (1, .ref x), (2, .ref (M 0)), (3, .ref o), (4, .int (nI i))]) hx hb dL_law_1885 hl (by decide) rfl (fun ls hl => ?_)
  refine lv_aload_n hx hb dL_law_1887 rfl (lv_at hl 4 rfl) ?_
  refine kr_i (ws' := wX x A T B ++ wC E A (B 0) S ++ wC E T (B 0) U ++ wG E B G ++ [(o, aJ E 1 f)] ++ wN E M (1, Hb, a, k)) (va_runV (As := []) (rest := []) ⟨hx, hb, hml, hown, hts⟩ (c_X3_thrown l E M 1 Hb a k  _) (cwV 0 hts gL_law_X3_thrown rfl rfl rfl ⟨rfl, hd_X3_thrown⟩ ⟨Nat.le_of_ble_eq_true rfl, Nat.le_of_ble_eq_true rfl⟩) (pwV (ci := 3) (q0 := 22) (C := RX3) hw hK rfl rfl rfl (rpS (AV := [.ref (M 0)]) hw hK hG rp_88)) rfl rfl hl.1 rfl (lv_room (Nat.le_of_ble_eq_true rfl)) dL_law_1888 ⟨(show cells + 3 + 0 ≤ 1033879 by omega), (show slots + 18 + 0 ≤ 5994467 by omega)⟩) hw hA rp_88 (fun H locs hw => ?_)
  refine lv_iload hx hb dL_law_1891 (lv_at hl 1 rfl) ?_
  refine lv_icmp_eq (tgt := 1898) hx hb dL_law_1893 (by decide) (fun _ => ?_) (fun q8 => absurd (by decide) q8)
  refine lv_iload hx hb dL_law_1898 (lv_at hl 1 rfl) ?_
  refine lv_if_ne (tgt := 1922) hx hb dL_law_1900 (by decide) (fun _ => ?_) (fun q8 => absurd q8 (by decide))
  refine lv_goto (tgt := 2161) hx hb dL_law_1922 (by decide) ?_
  refine W.widen (k := cells + 30) (n := slots + 200) (show cells + 3 ≤ cells + 30 by omega) (show slots + 18 ≤ slots + 200 by omega) ?_
  exact kk U f 1 k _ _ _ hw (lv_sub hl [2, 3, 4, 5, 6] rfl)

set_option maxHeartbeats 4000000 in
set_option maxRecDepth 100000 in
theorem la_wouldRing_2 {p9 : Program} {l : Launch} {e : Env} {s9 : State} {m : MethodId} {below : List Frame} {meth : Method} {c : Code} {b L : Nat} {xs : Nat → Int32} (C0 : lw_At p9 s9 m meth c b L xs) (hflags : l.stackTraces = false) (hL : L ≤ 2048) (E : Ev) (hK : va_K E.1 vwCl (tysE E) s9) (hG : Gx s9) (hZ : Zx (aL s9) s9 s9.heap) {Q : State → Prop} (x o : Nat) (A T B M : Nat → Nat) (S U : CS) (G : HS) (th : Int32) (Hb : MH) (a k : Fn) (f : Nat → Int64) (i cells slots : Nat) (hi : i + 4 ≤ L) (n1 : Nat) (e1 : xs (i + 1) = nI n1) (n2 : Nat) (e2 : xs (i + 2) = nI n2) (hy0 : t_new G S (nI n1) (nI n2) = 2) (hy1 : n_ns Hb ≤ 5) (hy2 : n_np Hb ≤ 16) (hy3 : n_nw Hb ≤ 4) (hy4 : ∀ p, p < n_np Hb → n_so Hb p < 5) (hy5 : n1 < n_nw Hb) (hy6 : n2 < n_ns Hb) (hy7 : d_out a n2 = false) (hc9 : cells + 30 ≤ 1033879) (hs9 : slots + 200 ≤ 5994467) (kk : ∀ (U1 : CS) (f1 : Nat → Int64) (t1 : Int32) (k1 : Fn) (H : Heap) (locs : List Loc) (ls : Array Slot), Wd E (aL s9) s9.heap (wX x A T B ++ wC E A (B 0) S ++ wC E T (B 0) U1 ++ wG E B G ++ [(o, aJ E 1 f1)] ++ wN E M (t1, Hb, a, k1)) H locs → lv_has ls 9 [(0, .ref b), (1, .ref x), (2, .ref (M 0)), (3, .ref o), (4, .int (nI i))] → W p9 l e room_1 s9 m #[Value.ref b] below meth c H locs (cells + 30) (slots + 200) Q (F0 m 2161 ls [])) {H : Heap} {locs : List Loc} {ls : Array Slot} (hw : Wd E (aL s9) s9.heap (wX x A T B ++ wC E A (B 0) S ++ wC E T (B 0) U ++ wG E B G ++ [(o, aJ E 1 f)] ++ wN E M (th, Hb, a, k)) H locs) (hl : lv_has ls 9 [(0, .ref b), (1, .ref x), (2, .ref (M 0)), (3, .ref o), (4, .int (nI i))]) : W p9 l e room_1 s9 m #[Value.ref b] below meth c H locs cells slots Q (F0 m 1850 ls []) := by
  obtain ⟨hx, hb, hr, hml, hown, hts0, hX, hbl, hlocks, hgv⟩ := C0
  have hts : ∀ w ∈ wsL_law, w.before #[Value.ref b] s9 = true := fun w h => hts0 w (wsL_law_in w h)
  have hown : s9.vm.findClass RL = some m.cls := hown
  have hA : ∀ q, s9.heap.size ≤ q → aL s9 q := fun _ h => h
  refine lv_aload_n hx hb dL_law_1850 rfl (lv_at hl 1 rfl) ?_
  refine lv_aload_n hx hb dL_law_1851 rfl (lv_at hl 0 rfl) ?_
  refine lv_iload hx hb dL_law_1852 (lv_at hl 4 rfl) ?_
  refine lv_iconst (v := 1) hx hb dL_law_1854 (by decide) ?_
  refine k_iaddN (a := i) (b := 1) hx hb dL_law_1855 ?_
  refine k_sldv (i := i + 1) (v := nI n1) hx hb hX hbl hw (by omega) (by omega) e1 dL_law_1856 ?_
  refine lv_aload_n hx hb dL_law_1857 rfl (lv_at hl 0 rfl) ?_
  refine lv_iload hx hb dL_law_1858 (lv_at hl 4 rfl) ?_
  refine lv_iconst (v := 2) hx hb dL_law_1860 (by decide) ?_
  refine k_iaddN (a := i) (b := 2) hx hb dL_law_1861 ?_
  refine k_sldv (i := i + 2) (v := nI n2) hx hb hX hbl hw (by omega) (by omega) e2 dL_law_1862 ?_
  refine lv_aload_n hx hb dL_law_1863 rfl (lv_at hl 3 rfl) ?_
  refine krx_i (ws' := wX x A T B ++ wC E A (B 0) S ++ wC E T (B 0) U ++ wG E B G ++ [(o, aJ E 1 f)] ++ wN E M (th, Hb, a, k)) (vx_runSX (As := [.ref x, .int (nI n1), .int (nI n2), .ref o]) (rest := []) ⟨hx, hb, hml, hown, hts⟩ (c_L_wouldRing_2 l hflags E x A T B S U G (nI n1) (nI n2) o f hy0 _) (vx_cwSW 4 hts gL_law_L_wouldRing rfl rfl rfl hd_L_wouldRing ⟨Nat.le_of_ble_eq_true rfl, Nat.le_of_ble_eq_true rfl⟩) (rpX (AV := [.ref x, .int (nI n1), .int (nI n2), .ref o]) hw hK hG hZ hA rp_86) rfl rfl hl.1 rfl (lv_room (Nat.le_of_ble_eq_true rfl)) dL_law_1864 ⟨(show cells + 3 ≤ 1033879 by omega), (show slots + 18 ≤ 5994467 by omega)⟩) hw hA rp_86 rp_86 (fun H locs ce9 q9 t_1 hw hy1 hy2 hy3 => absurd rfl t_1) (fun H locs t_1 hw => ?_)
  refine lv_istore (lv' := [(5, .int 2), (0, .ref b), (1, .ref x), (2, .ref (M 0)), (3, .ref o), (4, .int (nI i))]) hx hb dL_law_1867 hl (by decide) rfl (fun ls hl => ?_)
  refine lv_aload_n hx hb dL_law_1869 rfl (lv_at hl 3 rfl) ?_
  refine lv_aload_n hx hb dL_law_1870 rfl (lv_at hl 1 rfl) ?_
  refine lv_iload hx hb dL_law_1871 (lv_at hl 5 rfl) ?_
  refine lv_iconst (v := 1) hx hb dL_law_1873 (by decide) ?_
  refine k_iaddN (a := i) (b := 1) hx hb dL_law_1874 ?_
  refine k_sldv (i := i + 1) (v := nI n1) hx hb hX hbl hw (by omega) (by omega) e1 dL_law_1875 ?_
  refine lv_aload_n hx hb dL_law_1876 rfl (lv_at hl 1 rfl) ?_
  refine lv_iload hx hb dL_law_1877 (lv_at hl 5 rfl) ?_
  refine lv_iconst (v := 2) hx hb dL_law_1879 (by decide) ?_
  refine k_iaddN (a := i) (b := 2) hx hb dL_law_1880 ?_
  refine k_sldv (i := i + 2) (v := nI n2) hx hb hX hbl hw (by omega) (by omega) e2 dL_law_1881 ?_
  refine kr_i (ws' := wX x A T B ++ wC E A (B 0) S ++ wC E T (B 0) U ++ wG E B G ++ [(o, aJ E 1 f)] ++ wN E M (2, Hb, a, k)) (va_runV (As := [.int (nI n1), .int (nI n2)]) (rest := []) ⟨hx, hb, hml, hown, hts⟩ (c_X3_wouldRing_2 l E M th Hb a k n1 n2 hy1 hy2 hy3 hy4 hy5 hy6 hy7 _) (cwV 2 hts gL_law_X3_wouldRing rfl rfl rfl ⟨rfl, hd_X3_wouldRing⟩ ⟨Nat.le_of_ble_eq_true rfl, Nat.le_of_ble_eq_true rfl⟩) (pwV (ci := 3) (q0 := 22) (C := RX3) hw hK rfl rfl rfl (rpS (AV := [.ref (M 0), .int (nI n1), .int (nI n2)]) hw hK hG rp_88)) rfl rfl hl.1 rfl (lv_room (Nat.le_of_ble_eq_true rfl)) dL_law_1882 ⟨(show cells + 3 + 0 ≤ 1033879 by omega), (show slots + 18 + 0 ≤ 5994467 by omega)⟩) hw hA rp_87 (fun H locs hw => ?_)
  refine lv_istore (lv' := [(6, .int (bI false)), (5, .int 2), (0, .ref b), (1, .ref x), (2, .ref (M 0)), (3, .ref o), (4, .int (nI i))]) hx hb dL_law_1885 hl (by decide) rfl (fun ls hl => ?_)
  refine lv_aload_n hx hb dL_law_1887 rfl (lv_at hl 4 rfl) ?_
  refine kr_i (ws' := wX x A T B ++ wC E A (B 0) S ++ wC E T (B 0) U ++ wG E B G ++ [(o, aJ E 1 f)] ++ wN E M (2, Hb, a, k)) (va_runV (As := []) (rest := []) ⟨hx, hb, hml, hown, hts⟩ (c_X3_thrown l E M 2 Hb a k  _) (cwV 0 hts gL_law_X3_thrown rfl rfl rfl ⟨rfl, hd_X3_thrown⟩ ⟨Nat.le_of_ble_eq_true rfl, Nat.le_of_ble_eq_true rfl⟩) (pwV (ci := 3) (q0 := 22) (C := RX3) hw hK rfl rfl rfl (rpS (AV := [.ref (M 0)]) hw hK hG rp_88)) rfl rfl hl.1 rfl (lv_room (Nat.le_of_ble_eq_true rfl)) dL_law_1888 ⟨(show cells + 3 + 0 ≤ 1033879 by omega), (show slots + 18 + 0 ≤ 5994467 by omega)⟩) hw hA rp_88 (fun H locs hw => ?_)
  refine lv_iload hx hb dL_law_1891 (lv_at hl 1 rfl) ?_
  refine lv_icmp_eq (tgt := 1898) hx hb dL_law_1893 (by decide) (fun _ => ?_) (fun q8 => absurd (by decide) q8)
  refine lv_iload hx hb dL_law_1898 (lv_at hl 1 rfl) ?_
  refine lv_if_ne (tgt := 1922) hx hb dL_law_1900 (by decide) (fun _ => ?_) (fun q8 => absurd q8 (by decide))
  refine lv_goto (tgt := 2161) hx hb dL_law_1922 (by decide) ?_
  refine W.widen (k := cells + 30) (n := slots + 200) (show cells + 3 ≤ cells + 30 by omega) (show slots + 18 ≤ slots + 200 by omega) ?_
  exact kk U f 2 k _ _ _ hw (lv_sub hl [2, 3, 4, 5, 6] rfl)

set_option maxHeartbeats 4000000 in
set_option maxRecDepth 100000 in
theorem la_wouldRing_2b {p9 : Program} {l : Launch} {e : Env} {s9 : State} {m : MethodId} {below : List Frame} {meth : Method} {c : Code} {b L : Nat} {xs : Nat → Int32} (C0 : lw_At p9 s9 m meth c b L xs) (hflags : l.stackTraces = false) (hL : L ≤ 2048) (E : Ev) (hK : va_K E.1 vwCl (tysE E) s9) (hG : Gx s9) (hZ : Zx (aL s9) s9 s9.heap) {Q : State → Prop} (x o : Nat) (A T B M : Nat → Nat) (S U : CS) (G : HS) (th : Int32) (Hb : MH) (a k : Fn) (f : Nat → Int64) (i cells slots : Nat) (hi : i + 4 ≤ L) (n1 : Nat) (e1 : xs (i + 1) = nI n1) (n2 : Nat) (e2 : xs (i + 2) = nI n2) (hy0 : t_new G S (nI n1) (nI n2) = 2) (hy1 : n_ns Hb ≤ 5) (hy2 : n_np Hb ≤ 16) (hy3 : n_nw Hb ≤ 4) (hy4 : ∀ p, p < n_np Hb → n_so Hb p < 5) (hy5 : n1 < n_nw Hb) (hy6 : n2 < n_ns Hb) (hy7 : d_out a n2 = true) (hy8 : ¬ a (54 + 5 * n1 + n2) = -1) (hc9 : cells + 30 ≤ 1033879) (hs9 : slots + 200 ≤ 5994467) (kk : ∀ (U1 : CS) (f1 : Nat → Int64) (t1 : Int32) (k1 : Fn) (H : Heap) (locs : List Loc) (ls : Array Slot), Wd E (aL s9) s9.heap (wX x A T B ++ wC E A (B 0) S ++ wC E T (B 0) U1 ++ wG E B G ++ [(o, aJ E 1 f1)] ++ wN E M (t1, Hb, a, k1)) H locs → lv_has ls 9 [(0, .ref b), (1, .ref x), (2, .ref (M 0)), (3, .ref o), (4, .int (nI i))] → W p9 l e room_1 s9 m #[Value.ref b] below meth c H locs (cells + 30) (slots + 200) Q (F0 m 2161 ls [])) {H : Heap} {locs : List Loc} {ls : Array Slot} (hw : Wd E (aL s9) s9.heap (wX x A T B ++ wC E A (B 0) S ++ wC E T (B 0) U ++ wG E B G ++ [(o, aJ E 1 f)] ++ wN E M (th, Hb, a, k)) H locs) (hl : lv_has ls 9 [(0, .ref b), (1, .ref x), (2, .ref (M 0)), (3, .ref o), (4, .int (nI i))]) : W p9 l e room_1 s9 m #[Value.ref b] below meth c H locs cells slots Q (F0 m 1850 ls []) := by
  obtain ⟨hx, hb, hr, hml, hown, hts0, hX, hbl, hlocks, hgv⟩ := C0
  have hts : ∀ w ∈ wsL_law, w.before #[Value.ref b] s9 = true := fun w h => hts0 w (wsL_law_in w h)
  have hown : s9.vm.findClass RL = some m.cls := hown
  have hA : ∀ q, s9.heap.size ≤ q → aL s9 q := fun _ h => h
  refine lv_aload_n hx hb dL_law_1850 rfl (lv_at hl 1 rfl) ?_
  refine lv_aload_n hx hb dL_law_1851 rfl (lv_at hl 0 rfl) ?_
  refine lv_iload hx hb dL_law_1852 (lv_at hl 4 rfl) ?_
  refine lv_iconst (v := 1) hx hb dL_law_1854 (by decide) ?_
  refine k_iaddN (a := i) (b := 1) hx hb dL_law_1855 ?_
  refine k_sldv (i := i + 1) (v := nI n1) hx hb hX hbl hw (by omega) (by omega) e1 dL_law_1856 ?_
  refine lv_aload_n hx hb dL_law_1857 rfl (lv_at hl 0 rfl) ?_
  refine lv_iload hx hb dL_law_1858 (lv_at hl 4 rfl) ?_
  refine lv_iconst (v := 2) hx hb dL_law_1860 (by decide) ?_
  refine k_iaddN (a := i) (b := 2) hx hb dL_law_1861 ?_
  refine k_sldv (i := i + 2) (v := nI n2) hx hb hX hbl hw (by omega) (by omega) e2 dL_law_1862 ?_
  refine lv_aload_n hx hb dL_law_1863 rfl (lv_at hl 3 rfl) ?_
  refine krx_i (ws' := wX x A T B ++ wC E A (B 0) S ++ wC E T (B 0) U ++ wG E B G ++ [(o, aJ E 1 f)] ++ wN E M (th, Hb, a, k)) (vx_runSX (As := [.ref x, .int (nI n1), .int (nI n2), .ref o]) (rest := []) ⟨hx, hb, hml, hown, hts⟩ (c_L_wouldRing_2 l hflags E x A T B S U G (nI n1) (nI n2) o f hy0 _) (vx_cwSW 4 hts gL_law_L_wouldRing rfl rfl rfl hd_L_wouldRing ⟨Nat.le_of_ble_eq_true rfl, Nat.le_of_ble_eq_true rfl⟩) (rpX (AV := [.ref x, .int (nI n1), .int (nI n2), .ref o]) hw hK hG hZ hA rp_86) rfl rfl hl.1 rfl (lv_room (Nat.le_of_ble_eq_true rfl)) dL_law_1864 ⟨(show cells + 3 ≤ 1033879 by omega), (show slots + 18 ≤ 5994467 by omega)⟩) hw hA rp_86 rp_86 (fun H locs ce9 q9 t_1 hw hy1 hy2 hy3 => absurd rfl t_1) (fun H locs t_1 hw => ?_)
  refine lv_istore (lv' := [(5, .int 2), (0, .ref b), (1, .ref x), (2, .ref (M 0)), (3, .ref o), (4, .int (nI i))]) hx hb dL_law_1867 hl (by decide) rfl (fun ls hl => ?_)
  refine lv_aload_n hx hb dL_law_1869 rfl (lv_at hl 3 rfl) ?_
  refine lv_aload_n hx hb dL_law_1870 rfl (lv_at hl 1 rfl) ?_
  refine lv_iload hx hb dL_law_1871 (lv_at hl 5 rfl) ?_
  refine lv_iconst (v := 1) hx hb dL_law_1873 (by decide) ?_
  refine k_iaddN (a := i) (b := 1) hx hb dL_law_1874 ?_
  refine k_sldv (i := i + 1) (v := nI n1) hx hb hX hbl hw (by omega) (by omega) e1 dL_law_1875 ?_
  refine lv_aload_n hx hb dL_law_1876 rfl (lv_at hl 1 rfl) ?_
  refine lv_iload hx hb dL_law_1877 (lv_at hl 5 rfl) ?_
  refine lv_iconst (v := 2) hx hb dL_law_1879 (by decide) ?_
  refine k_iaddN (a := i) (b := 2) hx hb dL_law_1880 ?_
  refine k_sldv (i := i + 2) (v := nI n2) hx hb hX hbl hw (by omega) (by omega) e2 dL_law_1881 ?_
  refine kr_i (ws' := wX x A T B ++ wC E A (B 0) S ++ wC E T (B 0) U ++ wG E B G ++ [(o, aJ E 1 f)] ++ wN E M (2, Hb, a, k)) (va_runV (As := [.int (nI n1), .int (nI n2)]) (rest := []) ⟨hx, hb, hml, hown, hts⟩ (c_X3_wouldRing_2b l E M th Hb a k n1 n2 hy1 hy2 hy3 hy4 hy5 hy6 hy7 hy8 _) (cwV 2 hts gL_law_X3_wouldRing rfl rfl rfl ⟨rfl, hd_X3_wouldRing⟩ ⟨Nat.le_of_ble_eq_true rfl, Nat.le_of_ble_eq_true rfl⟩) (pwV (ci := 3) (q0 := 22) (C := RX3) hw hK rfl rfl rfl (rpS (AV := [.ref (M 0), .int (nI n1), .int (nI n2)]) hw hK hG rp_88)) rfl rfl hl.1 rfl (lv_room (Nat.le_of_ble_eq_true rfl)) dL_law_1882 ⟨(show cells + 3 + 0 ≤ 1033879 by omega), (show slots + 18 + 0 ≤ 5994467 by omega)⟩) hw hA rp_87 (fun H locs hw => ?_)
  refine lv_istore (lv' := [(6, .int (bI false)), (5, .int 2), (0, .ref b), (1, .ref x), (2, .ref (M 0)), (3, .ref o), (4, .int (nI i))]) hx hb dL_law_1885 hl (by decide) rfl (fun ls hl => ?_)
  refine lv_aload_n hx hb dL_law_1887 rfl (lv_at hl 4 rfl) ?_
  refine kr_i (ws' := wX x A T B ++ wC E A (B 0) S ++ wC E T (B 0) U ++ wG E B G ++ [(o, aJ E 1 f)] ++ wN E M (2, Hb, a, k)) (va_runV (As := []) (rest := []) ⟨hx, hb, hml, hown, hts⟩ (c_X3_thrown l E M 2 Hb a k  _) (cwV 0 hts gL_law_X3_thrown rfl rfl rfl ⟨rfl, hd_X3_thrown⟩ ⟨Nat.le_of_ble_eq_true rfl, Nat.le_of_ble_eq_true rfl⟩) (pwV (ci := 3) (q0 := 22) (C := RX3) hw hK rfl rfl rfl (rpS (AV := [.ref (M 0)]) hw hK hG rp_88)) rfl rfl hl.1 rfl (lv_room (Nat.le_of_ble_eq_true rfl)) dL_law_1888 ⟨(show cells + 3 + 0 ≤ 1033879 by omega), (show slots + 18 + 0 ≤ 5994467 by omega)⟩) hw hA rp_88 (fun H locs hw => ?_)
  refine lv_iload hx hb dL_law_1891 (lv_at hl 1 rfl) ?_
  refine lv_icmp_eq (tgt := 1898) hx hb dL_law_1893 (by decide) (fun _ => ?_) (fun q8 => absurd (by decide) q8)
  refine lv_iload hx hb dL_law_1898 (lv_at hl 1 rfl) ?_
  refine lv_if_ne (tgt := 1922) hx hb dL_law_1900 (by decide) (fun _ => ?_) (fun q8 => absurd q8 (by decide))
  refine lv_goto (tgt := 2161) hx hb dL_law_1922 (by decide) ?_
  refine W.widen (k := cells + 30) (n := slots + 200) (show cells + 3 ≤ cells + 30 by omega) (show slots + 18 ≤ slots + 200 by omega) ?_
  exact kk U f 2 k _ _ _ hw (lv_sub hl [2, 3, 4, 5, 6] rfl)

set_option maxHeartbeats 4000000 in
set_option maxRecDepth 100000 in
theorem la_wouldRing {p9 : Program} {l : Launch} {e : Env} {s9 : State} {m : MethodId} {below : List Frame} {meth : Method} {c : Code} {b L : Nat} {xs : Nat → Int32} (C0 : lw_At p9 s9 m meth c b L xs) (hflags : l.stackTraces = false) (hL : L ≤ 2048) (E : Ev) (hK : va_K E.1 vwCl (tysE E) s9) (hG : Gx s9) (hZ : Zx (aL s9) s9 s9.heap) {Q : State → Prop} (x o : Nat) (A T B M : Nat → Nat) (S U : CS) (G : HS) (th : Int32) (Hb : MH) (a k : Fn) (f : Nat → Int64) (i cells slots : Nat) (hi : i + 4 ≤ L) (n1 : Nat) (e1 : xs (i + 1) = nI n1) (n2 : Nat) (e2 : xs (i + 2) = nI n2) (hy0 : t_new G S (nI n1) (nI n2) = 0) (hy1 : n_ns Hb ≤ 5) (hy2 : n_np Hb ≤ 16) (hy3 : n_nw Hb ≤ 4) (hy4 : ∀ p, p < n_np Hb → n_so Hb p < 5) (hy5 : n1 < n_nw Hb) (hy6 : n2 < n_ns Hb) (hy7 : d_out a n2 = true) (hy8 : a (54 + 5 * n1 + n2) = -1) (hy9 : f_would S (nI n1) (nI n2) = (r_sigB Hb a n1 n2)) (hc9 : cells + 30 ≤ 1033879) (hs9 : slots + 200 ≤ 5994467) (kk : ∀ (U1 : CS) (f1 : Nat → Int64) (t1 : Int32) (k1 : Fn) (H : Heap) (locs : List Loc) (ls : Array Slot), Wd E (aL s9) s9.heap (wX x A T B ++ wC E A (B 0) S ++ wC E T (B 0) U1 ++ wG E B G ++ [(o, aJ E 1 f1)] ++ wN E M (t1, Hb, a, k1)) H locs → lv_has ls 9 [(0, .ref b), (1, .ref x), (2, .ref (M 0)), (3, .ref o), (4, .int (nI i))] → W p9 l e room_1 s9 m #[Value.ref b] below meth c H locs (cells + 30) (slots + 200) Q (F0 m 2161 ls [])) {H : Heap} {locs : List Loc} {ls : Array Slot} (hw : Wd E (aL s9) s9.heap (wX x A T B ++ wC E A (B 0) S ++ wC E T (B 0) U ++ wG E B G ++ [(o, aJ E 1 f)] ++ wN E M (th, Hb, a, k)) H locs) (hl : lv_has ls 9 [(0, .ref b), (1, .ref x), (2, .ref (M 0)), (3, .ref o), (4, .int (nI i))]) : W p9 l e room_1 s9 m #[Value.ref b] below meth c H locs cells slots Q (F0 m 1850 ls []) := by
  obtain ⟨hx, hb, hr, hml, hown, hts0, hX, hbl, hlocks, hgv⟩ := C0
  have hts : ∀ w ∈ wsL_law, w.before #[Value.ref b] s9 = true := fun w h => hts0 w (wsL_law_in w h)
  have hown : s9.vm.findClass RL = some m.cls := hown
  have hA : ∀ q, s9.heap.size ≤ q → aL s9 q := fun _ h => h
  refine lv_aload_n hx hb dL_law_1850 rfl (lv_at hl 1 rfl) ?_
  refine lv_aload_n hx hb dL_law_1851 rfl (lv_at hl 0 rfl) ?_
  refine lv_iload hx hb dL_law_1852 (lv_at hl 4 rfl) ?_
  refine lv_iconst (v := 1) hx hb dL_law_1854 (by decide) ?_
  refine k_iaddN (a := i) (b := 1) hx hb dL_law_1855 ?_
  refine k_sldv (i := i + 1) (v := nI n1) hx hb hX hbl hw (by omega) (by omega) e1 dL_law_1856 ?_
  refine lv_aload_n hx hb dL_law_1857 rfl (lv_at hl 0 rfl) ?_
  refine lv_iload hx hb dL_law_1858 (lv_at hl 4 rfl) ?_
  refine lv_iconst (v := 2) hx hb dL_law_1860 (by decide) ?_
  refine k_iaddN (a := i) (b := 2) hx hb dL_law_1861 ?_
  refine k_sldv (i := i + 2) (v := nI n2) hx hb hX hbl hw (by omega) (by omega) e2 dL_law_1862 ?_
  refine lv_aload_n hx hb dL_law_1863 rfl (lv_at hl 3 rfl) ?_
  refine krx_i (ws' := wX x A T B ++ wC E A (B 0) S ++ wC E T (B 0) U ++ wG E B G ++ [(o, aJ E 1 (vp_updL f 0 (if f_would S (nI n1) (nI n2) = true then 1 else 0)))] ++ wN E M (th, Hb, a, k)) (vx_runSX (As := [.ref x, .int (nI n1), .int (nI n2), .ref o]) (rest := []) ⟨hx, hb, hml, hown, hts⟩ (c_L_wouldRing l hflags E x A T B S U G (nI n1) (nI n2) o f hy0 _) (vx_cwSW 4 hts gL_law_L_wouldRing rfl rfl rfl hd_L_wouldRing ⟨Nat.le_of_ble_eq_true rfl, Nat.le_of_ble_eq_true rfl⟩) (rpX (AV := [.ref x, .int (nI n1), .int (nI n2), .ref o]) hw hK hG hZ hA rp_86) rfl rfl hl.1 rfl (lv_room (Nat.le_of_ble_eq_true rfl)) dL_law_1864 ⟨(show cells + 3 ≤ 1033879 by omega), (show slots + 18 ≤ 5994467 by omega)⟩) hw hA rp_93 rp_86 (fun H locs ce9 q9 t_1 hw hy1 hy2 hy3 => absurd rfl t_1) (fun H locs t_1 hw => ?_)
  refine lv_istore (lv' := [(5, .int 0), (0, .ref b), (1, .ref x), (2, .ref (M 0)), (3, .ref o), (4, .int (nI i))]) hx hb dL_law_1867 hl (by decide) rfl (fun ls hl => ?_)
  refine lv_aload_n hx hb dL_law_1869 rfl (lv_at hl 3 rfl) ?_
  refine lv_aload_n hx hb dL_law_1870 rfl (lv_at hl 1 rfl) ?_
  refine lv_iload hx hb dL_law_1871 (lv_at hl 5 rfl) ?_
  refine lv_iconst (v := 1) hx hb dL_law_1873 (by decide) ?_
  refine k_iaddN (a := i) (b := 1) hx hb dL_law_1874 ?_
  refine k_sldv (i := i + 1) (v := nI n1) hx hb hX hbl hw (by omega) (by omega) e1 dL_law_1875 ?_
  refine lv_aload_n hx hb dL_law_1876 rfl (lv_at hl 1 rfl) ?_
  refine lv_iload hx hb dL_law_1877 (lv_at hl 5 rfl) ?_
  refine lv_iconst (v := 2) hx hb dL_law_1879 (by decide) ?_
  refine k_iaddN (a := i) (b := 2) hx hb dL_law_1880 ?_
  refine k_sldv (i := i + 2) (v := nI n2) hx hb hX hbl hw (by omega) (by omega) e2 dL_law_1881 ?_
  refine kr_i (ws' := wX x A T B ++ wC E A (B 0) S ++ wC E T (B 0) U ++ wG E B G ++ [(o, aJ E 1 (vp_updL f 0 (if f_would S (nI n1) (nI n2) = true then 1 else 0)))] ++ wN E M (0, Hb, a, a)) (va_runV (As := [.int (nI n1), .int (nI n2)]) (rest := []) ⟨hx, hb, hml, hown, hts⟩ (c_X3_wouldRing l E M th Hb a k n1 n2 hy1 hy2 hy3 hy4 hy5 hy6 hy7 hy8 _) (cwV 2 hts gL_law_X3_wouldRing rfl rfl rfl ⟨rfl, hd_X3_wouldRing⟩ ⟨Nat.le_of_ble_eq_true rfl, Nat.le_of_ble_eq_true rfl⟩) (pwV (ci := 3) (q0 := 22) (C := RX3) hw hK rfl rfl rfl (rpS (AV := [.ref (M 0), .int (nI n1), .int (nI n2)]) hw hK hG rp_88)) rfl rfl hl.1 rfl (lv_room (Nat.le_of_ble_eq_true rfl)) dL_law_1882 ⟨(show cells + 3 + 0 ≤ 1033879 by omega), (show slots + 18 + 0 ≤ 5994467 by omega)⟩) hw hA rp_87 (fun H locs hw => ?_)
  refine lv_istore (lv' := [(6, .int (bI (r_sigB Hb a n1 n2))), (5, .int 0), (0, .ref b), (1, .ref x), (2, .ref (M 0)), (3, .ref o), (4, .int (nI i))]) hx hb dL_law_1885 hl (by decide) rfl (fun ls hl => ?_)
  refine lv_aload_n hx hb dL_law_1887 rfl (lv_at hl 4 rfl) ?_
  refine kr_i (ws' := wX x A T B ++ wC E A (B 0) S ++ wC E T (B 0) U ++ wG E B G ++ [(o, aJ E 1 (vp_updL f 0 (if f_would S (nI n1) (nI n2) = true then 1 else 0)))] ++ wN E M (0, Hb, a, a)) (va_runV (As := []) (rest := []) ⟨hx, hb, hml, hown, hts⟩ (c_X3_thrown l E M 0 Hb a a  _) (cwV 0 hts gL_law_X3_thrown rfl rfl rfl ⟨rfl, hd_X3_thrown⟩ ⟨Nat.le_of_ble_eq_true rfl, Nat.le_of_ble_eq_true rfl⟩) (pwV (ci := 3) (q0 := 22) (C := RX3) hw hK rfl rfl rfl (rpS (AV := [.ref (M 0)]) hw hK hG rp_88)) rfl rfl hl.1 rfl (lv_room (Nat.le_of_ble_eq_true rfl)) dL_law_1888 ⟨(show cells + 3 + 0 ≤ 1033879 by omega), (show slots + 18 + 0 ≤ 5994467 by omega)⟩) hw hA rp_88 (fun H locs hw => ?_)
  refine lv_iload hx hb dL_law_1891 (lv_at hl 1 rfl) ?_
  refine lv_icmp_eq (tgt := 1898) hx hb dL_law_1893 (by decide) (fun _ => ?_) (fun q8 => absurd (by decide) q8)
  refine lv_iload hx hb dL_law_1898 (lv_at hl 1 rfl) ?_
  refine lv_if_ne (tgt := 1922) hx hb dL_law_1900 (by decide) (fun q8 => absurd (by decide) q8) (fun _ => ?_)
  refine lv_aload_n hx hb dL_law_1903 rfl (lv_at hl 5 rfl) ?_
  refine lv_iconst (v := 0) hx hb dL_law_1904 (by decide) ?_
  refine k_lld (v := (vp_updL f 0 (if f_would S (nI n1) (nI n2) = true then 1 else 0)) 0) hx hb hK hw 21 rfl (vp_in_nI (n := 0) (N := 1) (by decide) (by decide)) rfl dL_law_1905 ?_
  refine lv_iload hx hb dL_law_1906 (lv_at hl 0 rfl) ?_
  refine lv_if_eq (tgt := 1915) hx hb dL_law_1908 (by decide) (fun c_2 => ?_) (fun c_2 => ?_)
  · have c_2 := bI_z c_2
    refine lv_lconst (v := 0) hx hb dL_law_1915 (by decide) ?_
    refine k_lcmpE hx hb dL_law_1916 (pk_uLs.trans (by rw [hy9, c_2]; rfl)) ?_
    refine lv_if_eq (tgt := 1922) hx hb dL_law_1917 (by decide) (fun _ => ?_) (fun q8 => absurd (by decide) q8)
    refine lv_goto (tgt := 2161) hx hb dL_law_1922 (by decide) ?_
    refine W.widen (k := cells + 30) (n := slots + 200) (show cells + 3 ≤ cells + 30 by omega) (show slots + 18 ≤ slots + 200 by omega) ?_
    exact kk U (vp_updL f 0 (if f_would S (nI n1) (nI n2) = true then 1 else 0)) 0 a _ _ _ hw (lv_sub hl [2, 3, 4, 5, 6] rfl)
  · have c_2 := bI_nz c_2
    refine lv_lconst (v := 1) hx hb dL_law_1911 (by decide) ?_
    refine lv_goto (tgt := 1916) hx hb dL_law_1912 (by decide) ?_
    refine k_lcmpE hx hb dL_law_1916 (pk_uLs.trans (by rw [hy9, c_2]; rfl)) ?_
    refine lv_if_eq (tgt := 1922) hx hb dL_law_1917 (by decide) (fun _ => ?_) (fun q8 => absurd (by decide) q8)
    refine lv_goto (tgt := 2161) hx hb dL_law_1922 (by decide) ?_
    refine W.widen (k := cells + 30) (n := slots + 200) (show cells + 3 ≤ cells + 30 by omega) (show slots + 18 ≤ slots + 200 by omega) ?_
    exact kk U (vp_updL f 0 (if f_would S (nI n1) (nI n2) = true then 1 else 0)) 0 a _ _ _ hw (lv_sub hl [2, 3, 4, 5, 6] rfl)

set_option maxHeartbeats 4000000 in
set_option maxRecDepth 100000 in
theorem la_nightsUntilUnrung_1 {p9 : Program} {l : Launch} {e : Env} {s9 : State} {m : MethodId} {below : List Frame} {meth : Method} {c : Code} {b L : Nat} {xs : Nat → Int32} (C0 : lw_At p9 s9 m meth c b L xs) (hflags : l.stackTraces = false) (hL : L ≤ 2048) (E : Ev) (hK : va_K E.1 vwCl (tysE E) s9) (hG : Gx s9) (hZ : Zx (aL s9) s9 s9.heap) {Q : State → Prop} (x o : Nat) (A T B M : Nat → Nat) (S U : CS) (G : HS) (th : Int32) (Hb : MH) (a k : Fn) (f : Nat → Int64) (i cells slots : Nat) (hi : i + 4 ≤ L) (z1 : Int32) (e1 : xs (i + 1) = z1) (hy0 : t_unr G S z1 = 1) (hy1 : n_ns Hb ≤ 5) (hy2 : n_np Hb ≤ 16) (hy3 : n_nw Hb ≤ 4) (hy4 : ∀ p, p < n_np Hb → n_so Hb p < 5) (hy5 : d_in z1 0 (nI (n_ns Hb) - 1) = false) (hc9 : cells + 30 ≤ 1033879) (hs9 : slots + 200 ≤ 5994467) (kk : ∀ (U1 : CS) (f1 : Nat → Int64) (t1 : Int32) (k1 : Fn) (H : Heap) (locs : List Loc) (ls : Array Slot), Wd E (aL s9) s9.heap (wX x A T B ++ wC E A (B 0) S ++ wC E T (B 0) U1 ++ wG E B G ++ [(o, aJ E 1 f1)] ++ wN E M (t1, Hb, a, k1)) H locs → lv_has ls 9 [(0, .ref b), (1, .ref x), (2, .ref (M 0)), (3, .ref o), (4, .int (nI i))] → W p9 l e room_1 s9 m #[Value.ref b] below meth c H locs (cells + 30) (slots + 200) Q (F0 m 2161 ls [])) {H : Heap} {locs : List Loc} {ls : Array Slot} (hw : Wd E (aL s9) s9.heap (wX x A T B ++ wC E A (B 0) S ++ wC E T (B 0) U ++ wG E B G ++ [(o, aJ E 1 f)] ++ wN E M (th, Hb, a, k)) H locs) (hl : lv_has ls 9 [(0, .ref b), (1, .ref x), (2, .ref (M 0)), (3, .ref o), (4, .int (nI i))]) : W p9 l e room_1 s9 m #[Value.ref b] below meth c H locs cells slots Q (F0 m 1925 ls []) := by
  obtain ⟨hx, hb, hr, hml, hown, hts0, hX, hbl, hlocks, hgv⟩ := C0
  have hts : ∀ w ∈ wsL_law, w.before #[Value.ref b] s9 = true := fun w h => hts0 w (wsL_law_in w h)
  have hown : s9.vm.findClass RL = some m.cls := hown
  have hA : ∀ q, s9.heap.size ≤ q → aL s9 q := fun _ h => h
  refine lv_aload_n hx hb dL_law_1925 rfl (lv_at hl 1 rfl) ?_
  refine lv_aload_n hx hb dL_law_1926 rfl (lv_at hl 0 rfl) ?_
  refine lv_iload hx hb dL_law_1927 (lv_at hl 4 rfl) ?_
  refine lv_iconst (v := 1) hx hb dL_law_1929 (by decide) ?_
  refine k_iaddN (a := i) (b := 1) hx hb dL_law_1930 ?_
  refine k_sldv (i := i + 1) (v := z1) hx hb hX hbl hw (by omega) (by omega) e1 dL_law_1931 ?_
  refine lv_aload_n hx hb dL_law_1932 rfl (lv_at hl 3 rfl) ?_
  refine krx_i (ws' := wX x A T B ++ wC E A (B 0) S ++ wC E T (B 0) U ++ wG E B G ++ [(o, aJ E 1 f)] ++ wN E M (th, Hb, a, k)) (vx_runSX (As := [.ref x, .int z1, .ref o]) (rest := []) ⟨hx, hb, hml, hown, hts⟩ (c_L_nightsUntilUnrung_1 l hflags E x A T B S U G z1 o f hy0 _) (vx_cwSW 3 hts gL_law_L_nightsUntilUnrung rfl rfl rfl hd_L_nightsUntilUnrung ⟨Nat.le_of_ble_eq_true rfl, Nat.le_of_ble_eq_true rfl⟩) (rpX (AV := [.ref x, .int z1, .ref o]) hw hK hG hZ hA rp_86) rfl rfl hl.1 rfl (lv_room (Nat.le_of_ble_eq_true rfl)) dL_law_1933 ⟨(show cells + 2 ≤ 1033879 by omega), (show slots + 12 ≤ 5994467 by omega)⟩) hw hA rp_86 rp_86 (fun H locs ce9 q9 t_1 hw hy1 hy2 hy3 => absurd rfl t_1) (fun H locs t_1 hw => ?_)
  refine lv_istore (lv' := [(5, .int 1), (0, .ref b), (1, .ref x), (2, .ref (M 0)), (3, .ref o), (4, .int (nI i))]) hx hb dL_law_1936 hl (by decide) rfl (fun ls hl => ?_)
  refine lv_aload_n hx hb dL_law_1938 rfl (lv_at hl 3 rfl) ?_
  refine lv_aload_n hx hb dL_law_1939 rfl (lv_at hl 1 rfl) ?_
  refine lv_iload hx hb dL_law_1940 (lv_at hl 5 rfl) ?_
  refine lv_iconst (v := 1) hx hb dL_law_1942 (by decide) ?_
  refine k_iaddN (a := i) (b := 1) hx hb dL_law_1943 ?_
  refine k_sldv (i := i + 1) (v := z1) hx hb hX hbl hw (by omega) (by omega) e1 dL_law_1944 ?_
  refine kr_i (ws' := wX x A T B ++ wC E A (B 0) S ++ wC E T (B 0) U ++ wG E B G ++ [(o, aJ E 1 f)] ++ wN E M (1, Hb, a, k)) (va_runV (As := [.int z1]) (rest := []) ⟨hx, hb, hml, hown, hts⟩ (c_X3_nightsUntilUnrung_1 l E M th Hb a k z1 hy1 hy2 hy3 hy4 hy5 _) (cwV 1 hts gL_law_X3_nightsUntilUnrung rfl rfl rfl ⟨rfl, hd_X3_nightsUntilUnrung⟩ ⟨Nat.le_of_ble_eq_true rfl, Nat.le_of_ble_eq_true rfl⟩) (pwV (ci := 3) (q0 := 22) (C := RX3) hw hK rfl rfl rfl (rpS (AV := [.ref (M 0), .int z1]) hw hK hG rp_88)) rfl rfl hl.1 rfl (lv_room (Nat.le_of_ble_eq_true rfl)) dL_law_1945 ⟨(show cells + 2 + 0 ≤ 1033879 by omega), (show slots + 12 + 0 ≤ 5994467 by omega)⟩) hw hA rp_87 (fun H locs hw => ?_)
  refine lv_istore (lv' := [(6, .int 0), (5, .int 1), (0, .ref b), (1, .ref x), (2, .ref (M 0)), (3, .ref o), (4, .int (nI i))]) hx hb dL_law_1948 hl (by decide) rfl (fun ls hl => ?_)
  refine lv_aload_n hx hb dL_law_1950 rfl (lv_at hl 4 rfl) ?_
  refine kr_i (ws' := wX x A T B ++ wC E A (B 0) S ++ wC E T (B 0) U ++ wG E B G ++ [(o, aJ E 1 f)] ++ wN E M (1, Hb, a, k)) (va_runV (As := []) (rest := []) ⟨hx, hb, hml, hown, hts⟩ (c_X3_thrown l E M 1 Hb a k  _) (cwV 0 hts gL_law_X3_thrown rfl rfl rfl ⟨rfl, hd_X3_thrown⟩ ⟨Nat.le_of_ble_eq_true rfl, Nat.le_of_ble_eq_true rfl⟩) (pwV (ci := 3) (q0 := 22) (C := RX3) hw hK rfl rfl rfl (rpS (AV := [.ref (M 0)]) hw hK hG rp_88)) rfl rfl hl.1 rfl (lv_room (Nat.le_of_ble_eq_true rfl)) dL_law_1951 ⟨(show cells + 2 + 0 ≤ 1033879 by omega), (show slots + 12 + 0 ≤ 5994467 by omega)⟩) hw hA rp_88 (fun H locs hw => ?_)
  refine lv_iload hx hb dL_law_1954 (lv_at hl 1 rfl) ?_
  refine lv_icmp_eq (tgt := 1961) hx hb dL_law_1956 (by decide) (fun _ => ?_) (fun q8 => absurd (by decide) q8)
  refine lv_iload hx hb dL_law_1961 (lv_at hl 1 rfl) ?_
  refine lv_if_ne (tgt := 1978) hx hb dL_law_1963 (by decide) (fun _ => ?_) (fun q8 => absurd q8 (by decide))
  refine lv_goto (tgt := 2161) hx hb dL_law_1978 (by decide) ?_
  refine W.widen (k := cells + 30) (n := slots + 200) (show cells + 2 ≤ cells + 30 by omega) (show slots + 12 ≤ slots + 200 by omega) ?_
  exact kk U f 1 k _ _ _ hw (lv_sub hl [2, 3, 4, 5, 6] rfl)

set_option maxHeartbeats 4000000 in
set_option maxRecDepth 100000 in
theorem la_nightsUntilUnrung_2 {p9 : Program} {l : Launch} {e : Env} {s9 : State} {m : MethodId} {below : List Frame} {meth : Method} {c : Code} {b L : Nat} {xs : Nat → Int32} (C0 : lw_At p9 s9 m meth c b L xs) (hflags : l.stackTraces = false) (hL : L ≤ 2048) (E : Ev) (hK : va_K E.1 vwCl (tysE E) s9) (hG : Gx s9) (hZ : Zx (aL s9) s9 s9.heap) {Q : State → Prop} (x o : Nat) (A T B M : Nat → Nat) (S U : CS) (G : HS) (th : Int32) (Hb : MH) (a k : Fn) (f : Nat → Int64) (i cells slots : Nat) (hi : i + 4 ≤ L) (n1 : Nat) (e1 : xs (i + 1) = nI n1) (hy0 : t_unr G S (nI n1) = 2) (hy1 : n_ns Hb ≤ 5) (hy2 : n_np Hb ≤ 16) (hy3 : n_nw Hb ≤ 4) (hy4 : ∀ p, p < n_np Hb → n_so Hb p < 5) (hy5 : n1 < n_ns Hb) (hy6 : a (3 + 3 * n1 + 2) = 0) (hc9 : cells + 30 ≤ 1033879) (hs9 : slots + 200 ≤ 5994467) (kk : ∀ (U1 : CS) (f1 : Nat → Int64) (t1 : Int32) (k1 : Fn) (H : Heap) (locs : List Loc) (ls : Array Slot), Wd E (aL s9) s9.heap (wX x A T B ++ wC E A (B 0) S ++ wC E T (B 0) U1 ++ wG E B G ++ [(o, aJ E 1 f1)] ++ wN E M (t1, Hb, a, k1)) H locs → lv_has ls 9 [(0, .ref b), (1, .ref x), (2, .ref (M 0)), (3, .ref o), (4, .int (nI i))] → W p9 l e room_1 s9 m #[Value.ref b] below meth c H locs (cells + 30) (slots + 200) Q (F0 m 2161 ls [])) {H : Heap} {locs : List Loc} {ls : Array Slot} (hw : Wd E (aL s9) s9.heap (wX x A T B ++ wC E A (B 0) S ++ wC E T (B 0) U ++ wG E B G ++ [(o, aJ E 1 f)] ++ wN E M (th, Hb, a, k)) H locs) (hl : lv_has ls 9 [(0, .ref b), (1, .ref x), (2, .ref (M 0)), (3, .ref o), (4, .int (nI i))]) : W p9 l e room_1 s9 m #[Value.ref b] below meth c H locs cells slots Q (F0 m 1925 ls []) := by
  obtain ⟨hx, hb, hr, hml, hown, hts0, hX, hbl, hlocks, hgv⟩ := C0
  have hts : ∀ w ∈ wsL_law, w.before #[Value.ref b] s9 = true := fun w h => hts0 w (wsL_law_in w h)
  have hown : s9.vm.findClass RL = some m.cls := hown
  have hA : ∀ q, s9.heap.size ≤ q → aL s9 q := fun _ h => h
  refine lv_aload_n hx hb dL_law_1925 rfl (lv_at hl 1 rfl) ?_
  refine lv_aload_n hx hb dL_law_1926 rfl (lv_at hl 0 rfl) ?_
  refine lv_iload hx hb dL_law_1927 (lv_at hl 4 rfl) ?_
  refine lv_iconst (v := 1) hx hb dL_law_1929 (by decide) ?_
  refine k_iaddN (a := i) (b := 1) hx hb dL_law_1930 ?_
  refine k_sldv (i := i + 1) (v := nI n1) hx hb hX hbl hw (by omega) (by omega) e1 dL_law_1931 ?_
  refine lv_aload_n hx hb dL_law_1932 rfl (lv_at hl 3 rfl) ?_
  refine krx_i (ws' := wX x A T B ++ wC E A (B 0) S ++ wC E T (B 0) U ++ wG E B G ++ [(o, aJ E 1 f)] ++ wN E M (th, Hb, a, k)) (vx_runSX (As := [.ref x, .int (nI n1), .ref o]) (rest := []) ⟨hx, hb, hml, hown, hts⟩ (c_L_nightsUntilUnrung_2 l hflags E x A T B S U G (nI n1) o f hy0 _) (vx_cwSW 3 hts gL_law_L_nightsUntilUnrung rfl rfl rfl hd_L_nightsUntilUnrung ⟨Nat.le_of_ble_eq_true rfl, Nat.le_of_ble_eq_true rfl⟩) (rpX (AV := [.ref x, .int (nI n1), .ref o]) hw hK hG hZ hA rp_86) rfl rfl hl.1 rfl (lv_room (Nat.le_of_ble_eq_true rfl)) dL_law_1933 ⟨(show cells + 2 ≤ 1033879 by omega), (show slots + 12 ≤ 5994467 by omega)⟩) hw hA rp_86 rp_86 (fun H locs ce9 q9 t_1 hw hy1 hy2 hy3 => absurd rfl t_1) (fun H locs t_1 hw => ?_)
  refine lv_istore (lv' := [(5, .int 2), (0, .ref b), (1, .ref x), (2, .ref (M 0)), (3, .ref o), (4, .int (nI i))]) hx hb dL_law_1936 hl (by decide) rfl (fun ls hl => ?_)
  refine lv_aload_n hx hb dL_law_1938 rfl (lv_at hl 3 rfl) ?_
  refine lv_aload_n hx hb dL_law_1939 rfl (lv_at hl 1 rfl) ?_
  refine lv_iload hx hb dL_law_1940 (lv_at hl 5 rfl) ?_
  refine lv_iconst (v := 1) hx hb dL_law_1942 (by decide) ?_
  refine k_iaddN (a := i) (b := 1) hx hb dL_law_1943 ?_
  refine k_sldv (i := i + 1) (v := nI n1) hx hb hX hbl hw (by omega) (by omega) e1 dL_law_1944 ?_
  refine kr_i (ws' := wX x A T B ++ wC E A (B 0) S ++ wC E T (B 0) U ++ wG E B G ++ [(o, aJ E 1 f)] ++ wN E M (2, Hb, a, k)) (va_runV (As := [.int (nI n1)]) (rest := []) ⟨hx, hb, hml, hown, hts⟩ (c_X3_nightsUntilUnrung_2 l E M th Hb a k n1 hy1 hy2 hy3 hy4 hy5 hy6 _) (cwV 1 hts gL_law_X3_nightsUntilUnrung rfl rfl rfl ⟨rfl, hd_X3_nightsUntilUnrung⟩ ⟨Nat.le_of_ble_eq_true rfl, Nat.le_of_ble_eq_true rfl⟩) (pwV (ci := 3) (q0 := 22) (C := RX3) hw hK rfl rfl rfl (rpS (AV := [.ref (M 0), .int (nI n1)]) hw hK hG rp_88)) rfl rfl hl.1 rfl (lv_room (Nat.le_of_ble_eq_true rfl)) dL_law_1945 ⟨(show cells + 2 + 0 ≤ 1033879 by omega), (show slots + 12 + 0 ≤ 5994467 by omega)⟩) hw hA rp_87 (fun H locs hw => ?_)
  refine lv_istore (lv' := [(6, .int 0), (5, .int 2), (0, .ref b), (1, .ref x), (2, .ref (M 0)), (3, .ref o), (4, .int (nI i))]) hx hb dL_law_1948 hl (by decide) rfl (fun ls hl => ?_)
  refine lv_aload_n hx hb dL_law_1950 rfl (lv_at hl 4 rfl) ?_
  refine kr_i (ws' := wX x A T B ++ wC E A (B 0) S ++ wC E T (B 0) U ++ wG E B G ++ [(o, aJ E 1 f)] ++ wN E M (2, Hb, a, k)) (va_runV (As := []) (rest := []) ⟨hx, hb, hml, hown, hts⟩ (c_X3_thrown l E M 2 Hb a k  _) (cwV 0 hts gL_law_X3_thrown rfl rfl rfl ⟨rfl, hd_X3_thrown⟩ ⟨Nat.le_of_ble_eq_true rfl, Nat.le_of_ble_eq_true rfl⟩) (pwV (ci := 3) (q0 := 22) (C := RX3) hw hK rfl rfl rfl (rpS (AV := [.ref (M 0)]) hw hK hG rp_88)) rfl rfl hl.1 rfl (lv_room (Nat.le_of_ble_eq_true rfl)) dL_law_1951 ⟨(show cells + 2 + 0 ≤ 1033879 by omega), (show slots + 12 + 0 ≤ 5994467 by omega)⟩) hw hA rp_88 (fun H locs hw => ?_)
  refine lv_iload hx hb dL_law_1954 (lv_at hl 1 rfl) ?_
  refine lv_icmp_eq (tgt := 1961) hx hb dL_law_1956 (by decide) (fun _ => ?_) (fun q8 => absurd (by decide) q8)
  refine lv_iload hx hb dL_law_1961 (lv_at hl 1 rfl) ?_
  refine lv_if_ne (tgt := 1978) hx hb dL_law_1963 (by decide) (fun _ => ?_) (fun q8 => absurd q8 (by decide))
  refine lv_goto (tgt := 2161) hx hb dL_law_1978 (by decide) ?_
  refine W.widen (k := cells + 30) (n := slots + 200) (show cells + 2 ≤ cells + 30 by omega) (show slots + 12 ≤ slots + 200 by omega) ?_
  exact kk U f 2 k _ _ _ hw (lv_sub hl [2, 3, 4, 5, 6] rfl)

set_option maxHeartbeats 4000000 in
set_option maxRecDepth 100000 in
theorem la_nightsUntilUnrung {p9 : Program} {l : Launch} {e : Env} {s9 : State} {m : MethodId} {below : List Frame} {meth : Method} {c : Code} {b L : Nat} {xs : Nat → Int32} (C0 : lw_At p9 s9 m meth c b L xs) (hflags : l.stackTraces = false) (hL : L ≤ 2048) (E : Ev) (hK : va_K E.1 vwCl (tysE E) s9) (hG : Gx s9) (hZ : Zx (aL s9) s9 s9.heap) {Q : State → Prop} (x o : Nat) (A T B M : Nat → Nat) (S U : CS) (G : HS) (th : Int32) (Hb : MH) (a k : Fn) (f : Nat → Int64) (i cells slots : Nat) (hi : i + 4 ≤ L) (K : Nat) (n1 : Nat) (e1 : xs (i + 1) = nI n1) (hy0 : t_unr G S (nI n1) = 0) (hy1 : n_ns Hb ≤ 5) (hy2 : n_np Hb ≤ 16) (hy3 : n_nw Hb ≤ 4) (hy4 : ∀ p, p < n_np Hb → n_so Hb p < 5) (hy5 : n1 < n_ns Hb) (hy6 : ¬ a (3 + 3 * n1 + 2) = 0) (hy7 : ∀ i, i < K → l_mpass Hb a i (3 + 3 * n1 + 2) = 1) (hy8 : ¬ l_mpass Hb a K (3 + 3 * n1 + 2) = 1) (hy9 : (f_until G S (nI n1) : Int32).toInt64 = (nI K : Int32).toInt64) (hc9 : cells + 30 ≤ 1033879) (hs9 : slots + 200 ≤ 5994467) (kk : ∀ (U1 : CS) (f1 : Nat → Int64) (t1 : Int32) (k1 : Fn) (H : Heap) (locs : List Loc) (ls : Array Slot), Wd E (aL s9) s9.heap (wX x A T B ++ wC E A (B 0) S ++ wC E T (B 0) U1 ++ wG E B G ++ [(o, aJ E 1 f1)] ++ wN E M (t1, Hb, a, k1)) H locs → lv_has ls 9 [(0, .ref b), (1, .ref x), (2, .ref (M 0)), (3, .ref o), (4, .int (nI i))] → W p9 l e room_1 s9 m #[Value.ref b] below meth c H locs (cells + 30) (slots + 200) Q (F0 m 2161 ls [])) {H : Heap} {locs : List Loc} {ls : Array Slot} (hw : Wd E (aL s9) s9.heap (wX x A T B ++ wC E A (B 0) S ++ wC E T (B 0) U ++ wG E B G ++ [(o, aJ E 1 f)] ++ wN E M (th, Hb, a, k)) H locs) (hl : lv_has ls 9 [(0, .ref b), (1, .ref x), (2, .ref (M 0)), (3, .ref o), (4, .int (nI i))]) : W p9 l e room_1 s9 m #[Value.ref b] below meth c H locs cells slots Q (F0 m 1925 ls []) := by
  obtain ⟨hx, hb, hr, hml, hown, hts0, hX, hbl, hlocks, hgv⟩ := C0
  have hts : ∀ w ∈ wsL_law, w.before #[Value.ref b] s9 = true := fun w h => hts0 w (wsL_law_in w h)
  have hown : s9.vm.findClass RL = some m.cls := hown
  have hA : ∀ q, s9.heap.size ≤ q → aL s9 q := fun _ h => h
  refine lv_aload_n hx hb dL_law_1925 rfl (lv_at hl 1 rfl) ?_
  refine lv_aload_n hx hb dL_law_1926 rfl (lv_at hl 0 rfl) ?_
  refine lv_iload hx hb dL_law_1927 (lv_at hl 4 rfl) ?_
  refine lv_iconst (v := 1) hx hb dL_law_1929 (by decide) ?_
  refine k_iaddN (a := i) (b := 1) hx hb dL_law_1930 ?_
  refine k_sldv (i := i + 1) (v := nI n1) hx hb hX hbl hw (by omega) (by omega) e1 dL_law_1931 ?_
  refine lv_aload_n hx hb dL_law_1932 rfl (lv_at hl 3 rfl) ?_
  refine krx_ie (wU' := fun U9 => wX x A T B ++ wC E A (B 0) S ++ wC E T (B 0) U9 ++ wG E B G ++ [(o, aJ E 1 (vp_updL f 0 ((f_until G S (nI n1) : Int32).toInt64)))] ++ wN E M (th, Hb, a, k)) (vx_runSX (As := [.ref x, .int (nI n1), .ref o]) (rest := []) ⟨hx, hb, hml, hown, hts⟩ (c_L_nightsUntilUnrung l hflags E x A T B S U G (nI n1) o f hy0 _) (vx_cwSW 3 hts gL_law_L_nightsUntilUnrung rfl rfl rfl hd_L_nightsUntilUnrung ⟨Nat.le_of_ble_eq_true rfl, Nat.le_of_ble_eq_true rfl⟩) (rpX (AV := [.ref x, .int (nI n1), .ref o]) hw hK hG hZ hA rp_86) rfl rfl hl.1 rfl (lv_room (Nat.le_of_ble_eq_true rfl)) dL_law_1933 ⟨(show cells + 2 ≤ 1033879 by omega), (show slots + 12 ≤ 5994467 by omega)⟩) hw hA (fun _ => rp_94) rp_86 (fun H locs ce9 q9 t_2 hw hy1 hy2 hy3 => absurd rfl t_2) (fun U_1 H locs t_2 hw => ?_)
  refine lv_istore (lv' := [(5, .int 0), (0, .ref b), (1, .ref x), (2, .ref (M 0)), (3, .ref o), (4, .int (nI i))]) hx hb dL_law_1936 hl (by decide) rfl (fun ls hl => ?_)
  refine lv_aload_n hx hb dL_law_1938 rfl (lv_at hl 3 rfl) ?_
  refine lv_aload_n hx hb dL_law_1939 rfl (lv_at hl 1 rfl) ?_
  refine lv_iload hx hb dL_law_1940 (lv_at hl 5 rfl) ?_
  refine lv_iconst (v := 1) hx hb dL_law_1942 (by decide) ?_
  refine k_iaddN (a := i) (b := 1) hx hb dL_law_1943 ?_
  refine k_sldv (i := i + 1) (v := nI n1) hx hb hX hbl hw (by omega) (by omega) e1 dL_law_1944 ?_
  refine kr_i (ws' := wX x A T B ++ wC E A (B 0) S ++ wC E T (B 0) U_1 ++ wG E B G ++ [(o, aJ E 1 (vp_updL f 0 ((f_until G S (nI n1) : Int32).toInt64)))] ++ wN E M (0, Hb, a, a)) (va_runV (As := [.int (nI n1)]) (rest := []) ⟨hx, hb, hml, hown, hts⟩ (c_X3_nightsUntilUnrung l E M th Hb a k n1 K hy1 hy2 hy3 hy4 hy5 hy6 hy7 hy8 _) (cwV 1 hts gL_law_X3_nightsUntilUnrung rfl rfl rfl ⟨rfl, hd_X3_nightsUntilUnrung⟩ ⟨Nat.le_of_ble_eq_true rfl, Nat.le_of_ble_eq_true rfl⟩) (pwV (ci := 3) (q0 := 22) (C := RX3) hw hK rfl rfl rfl (rpS (AV := [.ref (M 0), .int (nI n1)]) hw hK hG rp_88)) rfl rfl hl.1 rfl (lv_room (Nat.le_of_ble_eq_true rfl)) dL_law_1945 ⟨(show cells + 2 + 0 ≤ 1033879 by omega), (show slots + 12 + 0 ≤ 5994467 by omega)⟩) hw hA rp_87 (fun H locs hw => ?_)
  refine lv_istore (lv' := [(6, .int (nI K)), (5, .int 0), (0, .ref b), (1, .ref x), (2, .ref (M 0)), (3, .ref o), (4, .int (nI i))]) hx hb dL_law_1948 hl (by decide) rfl (fun ls hl => ?_)
  refine lv_aload_n hx hb dL_law_1950 rfl (lv_at hl 4 rfl) ?_
  refine kr_i (ws' := wX x A T B ++ wC E A (B 0) S ++ wC E T (B 0) U_1 ++ wG E B G ++ [(o, aJ E 1 (vp_updL f 0 ((f_until G S (nI n1) : Int32).toInt64)))] ++ wN E M (0, Hb, a, a)) (va_runV (As := []) (rest := []) ⟨hx, hb, hml, hown, hts⟩ (c_X3_thrown l E M 0 Hb a a  _) (cwV 0 hts gL_law_X3_thrown rfl rfl rfl ⟨rfl, hd_X3_thrown⟩ ⟨Nat.le_of_ble_eq_true rfl, Nat.le_of_ble_eq_true rfl⟩) (pwV (ci := 3) (q0 := 22) (C := RX3) hw hK rfl rfl rfl (rpS (AV := [.ref (M 0)]) hw hK hG rp_88)) rfl rfl hl.1 rfl (lv_room (Nat.le_of_ble_eq_true rfl)) dL_law_1951 ⟨(show cells + 2 + 0 ≤ 1033879 by omega), (show slots + 12 + 0 ≤ 5994467 by omega)⟩) hw hA rp_88 (fun H locs hw => ?_)
  refine lv_iload hx hb dL_law_1954 (lv_at hl 1 rfl) ?_
  refine lv_icmp_eq (tgt := 1961) hx hb dL_law_1956 (by decide) (fun _ => ?_) (fun q8 => absurd (by decide) q8)
  refine lv_iload hx hb dL_law_1961 (lv_at hl 1 rfl) ?_
  refine lv_if_ne (tgt := 1978) hx hb dL_law_1963 (by decide) (fun q8 => absurd (by decide) q8) (fun _ => ?_)
  refine lv_aload_n hx hb dL_law_1966 rfl (lv_at hl 5 rfl) ?_
  refine lv_iconst (v := 0) hx hb dL_law_1967 (by decide) ?_
  refine k_lld (v := (vp_updL f 0 ((f_until G S (nI n1) : Int32).toInt64)) 0) hx hb hK hw 21 rfl (vp_in_nI (n := 0) (N := 1) (by decide) (by decide)) rfl dL_law_1968 ?_
  refine lv_iload hx hb dL_law_1969 (lv_at hl 0 rfl) ?_
  refine lv_i2l (v := (nI K : Int32).toInt64) hx hb dL_law_1971 rfl ?_
  refine k_lcmpE hx hb dL_law_1972 (pk_uLs.trans hy9) ?_
  refine lv_if_eq (tgt := 1978) hx hb dL_law_1973 (by decide) (fun _ => ?_) (fun q8 => absurd (by decide) q8)
  refine lv_goto (tgt := 2161) hx hb dL_law_1978 (by decide) ?_
  refine W.widen (k := cells + 30) (n := slots + 200) (show cells + 2 ≤ cells + 30 by omega) (show slots + 12 ≤ slots + 200 by omega) ?_
  exact kk U_1 (vp_updL f 0 ((f_until G S (nI n1) : Int32).toInt64)) 0 a _ _ _ hw (lv_sub hl [2, 3, 4, 5, 6] rfl)

set_option maxHeartbeats 4000000 in
set_option maxRecDepth 100000 in
theorem la_nightsUntilDark {p9 : Program} {l : Launch} {e : Env} {s9 : State} {m : MethodId} {below : List Frame} {meth : Method} {c : Code} {b L : Nat} {xs : Nat → Int32} (C0 : lw_At p9 s9 m meth c b L xs) (hflags : l.stackTraces = false) (hL : L ≤ 2048) (E : Ev) (hK : va_K E.1 vwCl (tysE E) s9) (hG : Gx s9) (hZ : Zx (aL s9) s9 s9.heap) {Q : State → Prop} (x o : Nat) (A T B M : Nat → Nat) (S U : CS) (G : HS) (th : Int32) (Hb : MH) (a k : Fn) (f : Nat → Int64) (i cells slots : Nat) (hi : i + 4 ≤ L) (K : Nat) (hy0 : n_ns Hb ≤ 5) (hy1 : n_np Hb ≤ 16) (hy2 : n_nw Hb ≤ 4) (hy3 : ∀ p, p < n_np Hb → n_so Hb p < 5) (hy4 : K ≤ 200) (hy5 : ∀ i, i < K → l_mdk Hb (l_mpass Hb a i) (n_np Hb) = 0) (hy6 : ¬ l_mdk Hb (l_mpass Hb a K) (n_np Hb) = 0) (hy7 : f_untilD G S = nI K) (hc9 : cells + 30 ≤ 1033879) (hs9 : slots + 200 ≤ 5994467) (kk : ∀ (U1 : CS) (f1 : Nat → Int64) (t1 : Int32) (k1 : Fn) (H : Heap) (locs : List Loc) (ls : Array Slot), Wd E (aL s9) s9.heap (wX x A T B ++ wC E A (B 0) S ++ wC E T (B 0) U1 ++ wG E B G ++ [(o, aJ E 1 f1)] ++ wN E M (t1, Hb, a, k1)) H locs → lv_has ls 9 [(0, .ref b), (1, .ref x), (2, .ref (M 0)), (3, .ref o), (4, .int (nI i))] → W p9 l e room_1 s9 m #[Value.ref b] below meth c H locs (cells + 30) (slots + 200) Q (F0 m 2161 ls [])) {H : Heap} {locs : List Loc} {ls : Array Slot} (hw : Wd E (aL s9) s9.heap (wX x A T B ++ wC E A (B 0) S ++ wC E T (B 0) U ++ wG E B G ++ [(o, aJ E 1 f)] ++ wN E M (th, Hb, a, k)) H locs) (hl : lv_has ls 9 [(0, .ref b), (1, .ref x), (2, .ref (M 0)), (3, .ref o), (4, .int (nI i))]) : W p9 l e room_1 s9 m #[Value.ref b] below meth c H locs cells slots Q (F0 m 1981 ls []) := by
  obtain ⟨hx, hb, hr, hml, hown, hts0, hX, hbl, hlocks, hgv⟩ := C0
  have hts : ∀ w ∈ wsL_law, w.before #[Value.ref b] s9 = true := fun w h => hts0 w (wsL_law_in w h)
  have hown : s9.vm.findClass RL = some m.cls := hown
  have hA : ∀ q, s9.heap.size ≤ q → aL s9 q := fun _ h => h
  refine lv_aload_n hx hb dL_law_1981 rfl (lv_at hl 1 rfl) ?_
  refine kr_ie (wU' := fun U9 => wX x A T B ++ wC E A (B 0) S ++ wC E T (B 0) U9 ++ wG E B G ++ [(o, aJ E 1 f)] ++ wN E M (th, Hb, a, k)) (va_runV (As := []) (rest := []) ⟨hx, hb, hml, hown, hts⟩ (c_X2_nightsUntilDark l E x A T B S U G  _) (cwV 0 hts gL_law_X2_nightsUntilDark rfl rfl rfl ⟨rfl, hd_X2_nightsUntilDark⟩ ⟨Nat.le_of_ble_eq_true rfl, Nat.le_of_ble_eq_true rfl⟩) (pwV (ci := 2) (q0 := 0) (C := RX2) hw hK rfl rfl rfl (rpS (AV := [.ref x]) hw hK hG rp_92)) rfl rfl hl.1 rfl (lv_room (Nat.le_of_ble_eq_true rfl)) dL_law_1982 ⟨(show cells + 0 ≤ 1033879 by omega), (show slots + 0 ≤ 5994467 by omega)⟩) hw hA (fun _ => rp_95) (fun U_1 H locs hw => ?_)
  refine lv_aload_n hx hb dL_law_1985 rfl (lv_at hl 2 rfl) ?_
  refine kr_i (ws' := wX x A T B ++ wC E A (B 0) S ++ wC E T (B 0) U_1 ++ wG E B G ++ [(o, aJ E 1 f)] ++ wN E M (0, Hb, a, a)) (va_runV (As := []) (rest := [.int (f_untilD G S)]) ⟨hx, hb, hml, hown, hts⟩ (c_X3_nightsUntilDark l E M th Hb a k K hy0 hy1 hy2 hy3 hy4 hy5 hy6 _) (cwV 0 hts gL_law_X3_nightsUntilDark rfl rfl rfl ⟨rfl, hd_X3_nightsUntilDark⟩ ⟨Nat.le_of_ble_eq_true rfl, Nat.le_of_ble_eq_true rfl⟩) (pwV (ci := 3) (q0 := 22) (C := RX3) hw hK rfl rfl rfl (rpS (AV := [.ref (M 0)]) hw hK hG rp_88)) rfl rfl hl.1 rfl (lv_room (Nat.le_of_ble_eq_true rfl)) dL_law_1986 ⟨(show cells + 0 ≤ 1033879 by omega), (show slots + 0 ≤ 5994467 by omega)⟩) hw hA rp_87 (fun H locs hw => ?_)
  refine lv_icmp_eq (tgt := 2161) hx hb dL_law_1989 (by decide) (fun _ => ?_) (fun q8 => absurd hy7 q8)
  refine W.widen (k := cells + 30) (n := slots + 200) (show cells ≤ cells + 30 by omega) (show slots ≤ slots + 200 by omega) ?_
  exact kk U_1 f 0 a _ _ _ hw (lv_sub hl [0, 1, 2, 3, 4] rfl)

set_option maxHeartbeats 4000000 in
set_option maxRecDepth 100000 in
theorem la_nightsUntilDark_n {p9 : Program} {l : Launch} {e : Env} {s9 : State} {m : MethodId} {below : List Frame} {meth : Method} {c : Code} {b L : Nat} {xs : Nat → Int32} (C0 : lw_At p9 s9 m meth c b L xs) (hflags : l.stackTraces = false) (hL : L ≤ 2048) (E : Ev) (hK : va_K E.1 vwCl (tysE E) s9) (hG : Gx s9) (hZ : Zx (aL s9) s9 s9.heap) {Q : State → Prop} (x o : Nat) (A T B M : Nat → Nat) (S U : CS) (G : HS) (th : Int32) (Hb : MH) (a k : Fn) (f : Nat → Int64) (i cells slots : Nat) (hi : i + 4 ≤ L) (hy0 : n_ns Hb ≤ 5) (hy1 : n_np Hb ≤ 16) (hy2 : n_nw Hb ≤ 4) (hy3 : ∀ p, p < n_np Hb → n_so Hb p < 5) (hy4 : ∀ i, i < 201 → l_mdk Hb (l_mpass Hb a i) (n_np Hb) = 0) (hy5 : f_untilD G S = (-1)) (hc9 : cells + 30 ≤ 1033879) (hs9 : slots + 200 ≤ 5994467) (kk : ∀ (U1 : CS) (f1 : Nat → Int64) (t1 : Int32) (k1 : Fn) (H : Heap) (locs : List Loc) (ls : Array Slot), Wd E (aL s9) s9.heap (wX x A T B ++ wC E A (B 0) S ++ wC E T (B 0) U1 ++ wG E B G ++ [(o, aJ E 1 f1)] ++ wN E M (t1, Hb, a, k1)) H locs → lv_has ls 9 [(0, .ref b), (1, .ref x), (2, .ref (M 0)), (3, .ref o), (4, .int (nI i))] → W p9 l e room_1 s9 m #[Value.ref b] below meth c H locs (cells + 30) (slots + 200) Q (F0 m 2161 ls [])) {H : Heap} {locs : List Loc} {ls : Array Slot} (hw : Wd E (aL s9) s9.heap (wX x A T B ++ wC E A (B 0) S ++ wC E T (B 0) U ++ wG E B G ++ [(o, aJ E 1 f)] ++ wN E M (th, Hb, a, k)) H locs) (hl : lv_has ls 9 [(0, .ref b), (1, .ref x), (2, .ref (M 0)), (3, .ref o), (4, .int (nI i))]) : W p9 l e room_1 s9 m #[Value.ref b] below meth c H locs cells slots Q (F0 m 1981 ls []) := by
  obtain ⟨hx, hb, hr, hml, hown, hts0, hX, hbl, hlocks, hgv⟩ := C0
  have hts : ∀ w ∈ wsL_law, w.before #[Value.ref b] s9 = true := fun w h => hts0 w (wsL_law_in w h)
  have hown : s9.vm.findClass RL = some m.cls := hown
  have hA : ∀ q, s9.heap.size ≤ q → aL s9 q := fun _ h => h
  refine lv_aload_n hx hb dL_law_1981 rfl (lv_at hl 1 rfl) ?_
  refine kr_ie (wU' := fun U9 => wX x A T B ++ wC E A (B 0) S ++ wC E T (B 0) U9 ++ wG E B G ++ [(o, aJ E 1 f)] ++ wN E M (th, Hb, a, k)) (va_runV (As := []) (rest := []) ⟨hx, hb, hml, hown, hts⟩ (c_X2_nightsUntilDark l E x A T B S U G  _) (cwV 0 hts gL_law_X2_nightsUntilDark rfl rfl rfl ⟨rfl, hd_X2_nightsUntilDark⟩ ⟨Nat.le_of_ble_eq_true rfl, Nat.le_of_ble_eq_true rfl⟩) (pwV (ci := 2) (q0 := 0) (C := RX2) hw hK rfl rfl rfl (rpS (AV := [.ref x]) hw hK hG rp_92)) rfl rfl hl.1 rfl (lv_room (Nat.le_of_ble_eq_true rfl)) dL_law_1982 ⟨(show cells + 0 ≤ 1033879 by omega), (show slots + 0 ≤ 5994467 by omega)⟩) hw hA (fun _ => rp_95) (fun U_1 H locs hw => ?_)
  refine lv_aload_n hx hb dL_law_1985 rfl (lv_at hl 2 rfl) ?_
  refine kr_i (ws' := wX x A T B ++ wC E A (B 0) S ++ wC E T (B 0) U_1 ++ wG E B G ++ [(o, aJ E 1 f)] ++ wN E M (0, Hb, a, a)) (va_runV (As := []) (rest := [.int (f_untilD G S)]) ⟨hx, hb, hml, hown, hts⟩ (c_X3_nightsUntilDark_n l E M th Hb a k hy0 hy1 hy2 hy3 hy4 _) (cwV 0 hts gL_law_X3_nightsUntilDark rfl rfl rfl ⟨rfl, hd_X3_nightsUntilDark⟩ ⟨Nat.le_of_ble_eq_true rfl, Nat.le_of_ble_eq_true rfl⟩) (pwV (ci := 3) (q0 := 22) (C := RX3) hw hK rfl rfl rfl (rpS (AV := [.ref (M 0)]) hw hK hG rp_88)) rfl rfl hl.1 rfl (lv_room (Nat.le_of_ble_eq_true rfl)) dL_law_1986 ⟨(show cells + 0 ≤ 1033879 by omega), (show slots + 0 ≤ 5994467 by omega)⟩) hw hA rp_87 (fun H locs hw => ?_)
  refine lv_icmp_eq (tgt := 2161) hx hb dL_law_1989 (by decide) (fun _ => ?_) (fun q8 => absurd hy5 q8)
  refine W.widen (k := cells + 30) (n := slots + 200) (show cells ≤ cells + 30 by omega) (show slots ≤ slots + 200 by omega) ?_
  exact kk U_1 f 0 a _ _ _ hw (lv_sub hl [0, 1, 2, 3, 4] rfl)

set_option maxHeartbeats 4000000 in
set_option maxRecDepth 100000 in
theorem la_waxAfter_1 {p9 : Program} {l : Launch} {e : Env} {s9 : State} {m : MethodId} {below : List Frame} {meth : Method} {c : Code} {b L : Nat} {xs : Nat → Int32} (C0 : lw_At p9 s9 m meth c b L xs) (hflags : l.stackTraces = false) (hL : L ≤ 2048) (E : Ev) (hK : va_K E.1 vwCl (tysE E) s9) (hG : Gx s9) (hZ : Zx (aL s9) s9 s9.heap) {Q : State → Prop} (x o : Nat) (A T B M : Nat → Nat) (S U : CS) (G : HS) (th : Int32) (Hb : MH) (a k : Fn) (f : Nat → Int64) (i cells slots : Nat) (hi : i + 4 ≤ L) (z1 : Int32) (e1 : xs (i + 1) = z1) (hy0 : t_nights z1 200 = 3) (hy1 : n_ns Hb ≤ 5) (hy2 : n_np Hb ≤ 16) (hy3 : n_nw Hb ≤ 4) (hy4 : ∀ p, p < n_np Hb → n_so Hb p < 5) (hy5 : d_in z1 1 200 = false) (hc9 : cells + 30 ≤ 1033879) (hs9 : slots + 200 ≤ 5994467) (kk : ∀ (U1 : CS) (f1 : Nat → Int64) (t1 : Int32) (k1 : Fn) (H : Heap) (locs : List Loc) (ls : Array Slot), Wd E (aL s9) s9.heap (wX x A T B ++ wC E A (B 0) S ++ wC E T (B 0) U1 ++ wG E B G ++ [(o, aJ E 1 f1)] ++ wN E M (t1, Hb, a, k1)) H locs → lv_has ls 9 [(0, .ref b), (1, .ref x), (2, .ref (M 0)), (3, .ref o), (4, .int (nI i))] → W p9 l e room_1 s9 m #[Value.ref b] below meth c H locs (cells + 30) (slots + 200) Q (F0 m 2161 ls [])) {H : Heap} {locs : List Loc} {ls : Array Slot} (hw : Wd E (aL s9) s9.heap (wX x A T B ++ wC E A (B 0) S ++ wC E T (B 0) U ++ wG E B G ++ [(o, aJ E 1 f)] ++ wN E M (th, Hb, a, k)) H locs) (hl : lv_has ls 9 [(0, .ref b), (1, .ref x), (2, .ref (M 0)), (3, .ref o), (4, .int (nI i))]) : W p9 l e room_1 s9 m #[Value.ref b] below meth c H locs cells slots Q (F0 m 1994 ls []) := by
  obtain ⟨hx, hb, hr, hml, hown, hts0, hX, hbl, hlocks, hgv⟩ := C0
  have hts : ∀ w ∈ wsL_law, w.before #[Value.ref b] s9 = true := fun w h => hts0 w (wsL_law_in w h)
  have hown : s9.vm.findClass RL = some m.cls := hown
  have hA : ∀ q, s9.heap.size ≤ q → aL s9 q := fun _ h => h
  refine lv_aload_n hx hb dL_law_1994 rfl (lv_at hl 1 rfl) ?_
  refine lv_aload_n hx hb dL_law_1995 rfl (lv_at hl 0 rfl) ?_
  refine lv_iload hx hb dL_law_1996 (lv_at hl 4 rfl) ?_
  refine lv_iconst (v := 1) hx hb dL_law_1998 (by decide) ?_
  refine k_iaddN (a := i) (b := 1) hx hb dL_law_1999 ?_
  refine k_sldv (i := i + 1) (v := z1) hx hb hX hbl hw (by omega) (by omega) e1 dL_law_2000 ?_
  refine lv_aload_n hx hb dL_law_2001 rfl (lv_at hl 3 rfl) ?_
  refine krx_i (ws' := wX x A T B ++ wC E A (B 0) S ++ wC E T (B 0) U ++ wG E B G ++ [(o, aJ E 1 f)] ++ wN E M (th, Hb, a, k)) (vx_runSX (As := [.ref x, .int z1, .ref o]) (rest := []) ⟨hx, hb, hml, hown, hts⟩ (c_L_waxAfter_3 l hflags E x A T B S U G z1 o f hy0 _) (vx_cwSW 3 hts gL_law_L_waxAfter rfl rfl rfl hd_L_waxAfter ⟨Nat.le_of_ble_eq_true rfl, Nat.le_of_ble_eq_true rfl⟩) (rpX (AV := [.ref x, .int z1, .ref o]) hw hK hG hZ hA rp_86) rfl rfl hl.1 rfl (lv_room (Nat.le_of_ble_eq_true rfl)) dL_law_2002 ⟨(show cells + 1 ≤ 1033879 by omega), (show slots + 6 ≤ 5994467 by omega)⟩) hw hA rp_86 rp_86 (fun H locs ce9 q9 t_1 hw hy1 hy2 hy3 => absurd rfl t_1) (fun H locs t_1 hw => ?_)
  refine lv_istore (lv' := [(5, .int 1), (0, .ref b), (1, .ref x), (2, .ref (M 0)), (3, .ref o), (4, .int (nI i))]) hx hb dL_law_2005 hl (by decide) rfl (fun ls hl => ?_)
  refine lv_aload_n hx hb dL_law_2007 rfl (lv_at hl 3 rfl) ?_
  refine lv_aload_n hx hb dL_law_2008 rfl (lv_at hl 1 rfl) ?_
  refine lv_iload hx hb dL_law_2009 (lv_at hl 5 rfl) ?_
  refine lv_iconst (v := 1) hx hb dL_law_2011 (by decide) ?_
  refine k_iaddN (a := i) (b := 1) hx hb dL_law_2012 ?_
  refine k_sldv (i := i + 1) (v := z1) hx hb hX hbl hw (by omega) (by omega) e1 dL_law_2013 ?_
  refine kr_i (ws' := wX x A T B ++ wC E A (B 0) S ++ wC E T (B 0) U ++ wG E B G ++ [(o, aJ E 1 f)] ++ wN E M (1, Hb, a, k)) (va_runV (As := [.int z1]) (rest := []) ⟨hx, hb, hml, hown, hts⟩ (c_X3_waxAfter_1 l E M th Hb a k z1 hy1 hy2 hy3 hy4 hy5 _) (cwV 1 hts gL_law_X3_waxAfter rfl rfl rfl ⟨rfl, hd_X3_waxAfter⟩ ⟨Nat.le_of_ble_eq_true rfl, Nat.le_of_ble_eq_true rfl⟩) (pwV (ci := 3) (q0 := 22) (C := RX3) hw hK rfl rfl rfl (rpS (AV := [.ref (M 0), .int z1]) hw hK hG rp_88)) rfl rfl hl.1 rfl (lv_room (Nat.le_of_ble_eq_true rfl)) dL_law_2014 ⟨(show cells + 1 + 0 ≤ 1033879 by omega), (show slots + 6 + 0 ≤ 5994467 by omega)⟩) hw hA rp_87 (fun H locs hw => ?_)
  refine lv_istore (lv' := [(6, .int 0), (5, .int 1), (0, .ref b), (1, .ref x), (2, .ref (M 0)), (3, .ref o), (4, .int (nI i))]) hx hb dL_law_2017 hl (by decide) rfl (fun ls hl => ?_)
  refine lv_aload_n hx hb dL_law_2019 rfl (lv_at hl 4 rfl) ?_
  refine kr_i (ws' := wX x A T B ++ wC E A (B 0) S ++ wC E T (B 0) U ++ wG E B G ++ [(o, aJ E 1 f)] ++ wN E M (1, Hb, a, k)) (va_runV (As := []) (rest := []) ⟨hx, hb, hml, hown, hts⟩ (c_X3_thrown l E M 1 Hb a k  _) (cwV 0 hts gL_law_X3_thrown rfl rfl rfl ⟨rfl, hd_X3_thrown⟩ ⟨Nat.le_of_ble_eq_true rfl, Nat.le_of_ble_eq_true rfl⟩) (pwV (ci := 3) (q0 := 22) (C := RX3) hw hK rfl rfl rfl (rpS (AV := [.ref (M 0)]) hw hK hG rp_88)) rfl rfl hl.1 rfl (lv_room (Nat.le_of_ble_eq_true rfl)) dL_law_2020 ⟨(show cells + 1 + 0 ≤ 1033879 by omega), (show slots + 6 + 0 ≤ 5994467 by omega)⟩) hw hA rp_88 (fun H locs hw => ?_)
  refine lv_iload hx hb dL_law_2023 (lv_at hl 1 rfl) ?_
  refine lv_icmp_eq (tgt := 2030) hx hb dL_law_2025 (by decide) (fun _ => ?_) (fun q8 => absurd (by decide) q8)
  refine lv_iload hx hb dL_law_2030 (lv_at hl 1 rfl) ?_
  refine lv_if_ne (tgt := 2047) hx hb dL_law_2032 (by decide) (fun _ => ?_) (fun q8 => absurd q8 (by decide))
  refine lv_goto (tgt := 2161) hx hb dL_law_2047 (by decide) ?_
  refine W.widen (k := cells + 30) (n := slots + 200) (show cells + 1 ≤ cells + 30 by omega) (show slots + 6 ≤ slots + 200 by omega) ?_
  exact kk U f 1 k _ _ _ hw (lv_sub hl [2, 3, 4, 5, 6] rfl)

set_option maxHeartbeats 4000000 in
set_option maxRecDepth 100000 in
theorem la_waxAfter {p9 : Program} {l : Launch} {e : Env} {s9 : State} {m : MethodId} {below : List Frame} {meth : Method} {c : Code} {b L : Nat} {xs : Nat → Int32} (C0 : lw_At p9 s9 m meth c b L xs) (hflags : l.stackTraces = false) (hL : L ≤ 2048) (E : Ev) (hK : va_K E.1 vwCl (tysE E) s9) (hG : Gx s9) (hZ : Zx (aL s9) s9 s9.heap) {Q : State → Prop} (x o : Nat) (A T B M : Nat → Nat) (S U : CS) (G : HS) (th : Int32) (Hb : MH) (a k : Fn) (f : Nat → Int64) (i cells slots : Nat) (hi : i + 4 ≤ L) (n1 : Nat) (e1 : xs (i + 1) = nI n1) (hy0 : t_nights (nI n1) 200 = 0) (hy1 : n_ns Hb ≤ 5) (hy2 : n_np Hb ≤ 16) (hy3 : n_nw Hb ≤ 4) (hy4 : ∀ p, p < n_np Hb → n_so Hb p < 5) (hy5 : 1 ≤ n1) (hy6 : n1 ≤ 200) (hy7 : (c_wa (l_passS G S (nI n1).toNatClampNeg) : Int32).toInt64 = (l_mpass Hb a n1 1 : Int32).toInt64) (hc9 : cells + 30 ≤ 1033879) (hs9 : slots + 200 ≤ 5994467) (kk : ∀ (U1 : CS) (f1 : Nat → Int64) (t1 : Int32) (k1 : Fn) (H : Heap) (locs : List Loc) (ls : Array Slot), Wd E (aL s9) s9.heap (wX x A T B ++ wC E A (B 0) S ++ wC E T (B 0) U1 ++ wG E B G ++ [(o, aJ E 1 f1)] ++ wN E M (t1, Hb, a, k1)) H locs → lv_has ls 9 [(0, .ref b), (1, .ref x), (2, .ref (M 0)), (3, .ref o), (4, .int (nI i))] → W p9 l e room_1 s9 m #[Value.ref b] below meth c H locs (cells + 30) (slots + 200) Q (F0 m 2161 ls [])) {H : Heap} {locs : List Loc} {ls : Array Slot} (hw : Wd E (aL s9) s9.heap (wX x A T B ++ wC E A (B 0) S ++ wC E T (B 0) U ++ wG E B G ++ [(o, aJ E 1 f)] ++ wN E M (th, Hb, a, k)) H locs) (hl : lv_has ls 9 [(0, .ref b), (1, .ref x), (2, .ref (M 0)), (3, .ref o), (4, .int (nI i))]) : W p9 l e room_1 s9 m #[Value.ref b] below meth c H locs cells slots Q (F0 m 1994 ls []) := by
  obtain ⟨hx, hb, hr, hml, hown, hts0, hX, hbl, hlocks, hgv⟩ := C0
  have hts : ∀ w ∈ wsL_law, w.before #[Value.ref b] s9 = true := fun w h => hts0 w (wsL_law_in w h)
  have hown : s9.vm.findClass RL = some m.cls := hown
  have hA : ∀ q, s9.heap.size ≤ q → aL s9 q := fun _ h => h
  refine lv_aload_n hx hb dL_law_1994 rfl (lv_at hl 1 rfl) ?_
  refine lv_aload_n hx hb dL_law_1995 rfl (lv_at hl 0 rfl) ?_
  refine lv_iload hx hb dL_law_1996 (lv_at hl 4 rfl) ?_
  refine lv_iconst (v := 1) hx hb dL_law_1998 (by decide) ?_
  refine k_iaddN (a := i) (b := 1) hx hb dL_law_1999 ?_
  refine k_sldv (i := i + 1) (v := nI n1) hx hb hX hbl hw (by omega) (by omega) e1 dL_law_2000 ?_
  refine lv_aload_n hx hb dL_law_2001 rfl (lv_at hl 3 rfl) ?_
  refine krx_ie (wU' := fun U9 => wX x A T B ++ wC E A (B 0) S ++ wC E T (B 0) U9 ++ wG E B G ++ [(o, aJ E 1 (vp_updL f 0 ((c_wa (l_passS G S (nI n1).toNatClampNeg) : Int32).toInt64)))] ++ wN E M (th, Hb, a, k)) (vx_runSX (As := [.ref x, .int (nI n1), .ref o]) (rest := []) ⟨hx, hb, hml, hown, hts⟩ (c_L_waxAfter l hflags E x A T B S U G (nI n1) o f hy0 _) (vx_cwSW 3 hts gL_law_L_waxAfter rfl rfl rfl hd_L_waxAfter ⟨Nat.le_of_ble_eq_true rfl, Nat.le_of_ble_eq_true rfl⟩) (rpX (AV := [.ref x, .int (nI n1), .ref o]) hw hK hG hZ hA rp_86) rfl rfl hl.1 rfl (lv_room (Nat.le_of_ble_eq_true rfl)) dL_law_2002 ⟨(show cells + 1 ≤ 1033879 by omega), (show slots + 6 ≤ 5994467 by omega)⟩) hw hA (fun _ => rp_94) rp_86 (fun H locs ce9 q9 t_2 hw hy1 hy2 hy3 => absurd rfl t_2) (fun U_1 H locs t_2 hw => ?_)
  refine lv_istore (lv' := [(5, .int 0), (0, .ref b), (1, .ref x), (2, .ref (M 0)), (3, .ref o), (4, .int (nI i))]) hx hb dL_law_2005 hl (by decide) rfl (fun ls hl => ?_)
  refine lv_aload_n hx hb dL_law_2007 rfl (lv_at hl 3 rfl) ?_
  refine lv_aload_n hx hb dL_law_2008 rfl (lv_at hl 1 rfl) ?_
  refine lv_iload hx hb dL_law_2009 (lv_at hl 5 rfl) ?_
  refine lv_iconst (v := 1) hx hb dL_law_2011 (by decide) ?_
  refine k_iaddN (a := i) (b := 1) hx hb dL_law_2012 ?_
  refine k_sldv (i := i + 1) (v := nI n1) hx hb hX hbl hw (by omega) (by omega) e1 dL_law_2013 ?_
  refine kr_i (ws' := wX x A T B ++ wC E A (B 0) S ++ wC E T (B 0) U_1 ++ wG E B G ++ [(o, aJ E 1 (vp_updL f 0 ((c_wa (l_passS G S (nI n1).toNatClampNeg) : Int32).toInt64)))] ++ wN E M (0, Hb, a, a)) (va_runV (As := [.int (nI n1)]) (rest := []) ⟨hx, hb, hml, hown, hts⟩ (c_X3_waxAfter l E M th Hb a k n1 hy1 hy2 hy3 hy4 hy5 hy6 _) (cwV 1 hts gL_law_X3_waxAfter rfl rfl rfl ⟨rfl, hd_X3_waxAfter⟩ ⟨Nat.le_of_ble_eq_true rfl, Nat.le_of_ble_eq_true rfl⟩) (pwV (ci := 3) (q0 := 22) (C := RX3) hw hK rfl rfl rfl (rpS (AV := [.ref (M 0), .int (nI n1)]) hw hK hG rp_88)) rfl rfl hl.1 rfl (lv_room (Nat.le_of_ble_eq_true rfl)) dL_law_2014 ⟨(show cells + 1 + 0 ≤ 1033879 by omega), (show slots + 6 + 0 ≤ 5994467 by omega)⟩) hw hA rp_87 (fun H locs hw => ?_)
  refine lv_istore (lv' := [(6, .int (l_mpass Hb a n1 1)), (5, .int 0), (0, .ref b), (1, .ref x), (2, .ref (M 0)), (3, .ref o), (4, .int (nI i))]) hx hb dL_law_2017 hl (by decide) rfl (fun ls hl => ?_)
  refine lv_aload_n hx hb dL_law_2019 rfl (lv_at hl 4 rfl) ?_
  refine kr_i (ws' := wX x A T B ++ wC E A (B 0) S ++ wC E T (B 0) U_1 ++ wG E B G ++ [(o, aJ E 1 (vp_updL f 0 ((c_wa (l_passS G S (nI n1).toNatClampNeg) : Int32).toInt64)))] ++ wN E M (0, Hb, a, a)) (va_runV (As := []) (rest := []) ⟨hx, hb, hml, hown, hts⟩ (c_X3_thrown l E M 0 Hb a a  _) (cwV 0 hts gL_law_X3_thrown rfl rfl rfl ⟨rfl, hd_X3_thrown⟩ ⟨Nat.le_of_ble_eq_true rfl, Nat.le_of_ble_eq_true rfl⟩) (pwV (ci := 3) (q0 := 22) (C := RX3) hw hK rfl rfl rfl (rpS (AV := [.ref (M 0)]) hw hK hG rp_88)) rfl rfl hl.1 rfl (lv_room (Nat.le_of_ble_eq_true rfl)) dL_law_2020 ⟨(show cells + 1 + 0 ≤ 1033879 by omega), (show slots + 6 + 0 ≤ 5994467 by omega)⟩) hw hA rp_88 (fun H locs hw => ?_)
  refine lv_iload hx hb dL_law_2023 (lv_at hl 1 rfl) ?_
  refine lv_icmp_eq (tgt := 2030) hx hb dL_law_2025 (by decide) (fun _ => ?_) (fun q8 => absurd (by decide) q8)
  refine lv_iload hx hb dL_law_2030 (lv_at hl 1 rfl) ?_
  refine lv_if_ne (tgt := 2047) hx hb dL_law_2032 (by decide) (fun q8 => absurd (by decide) q8) (fun _ => ?_)
  refine lv_aload_n hx hb dL_law_2035 rfl (lv_at hl 5 rfl) ?_
  refine lv_iconst (v := 0) hx hb dL_law_2036 (by decide) ?_
  refine k_lld (v := (vp_updL f 0 ((c_wa (l_passS G S (nI n1).toNatClampNeg) : Int32).toInt64)) 0) hx hb hK hw 21 rfl (vp_in_nI (n := 0) (N := 1) (by decide) (by decide)) rfl dL_law_2037 ?_
  refine lv_iload hx hb dL_law_2038 (lv_at hl 0 rfl) ?_
  refine lv_i2l (v := (l_mpass Hb a n1 1 : Int32).toInt64) hx hb dL_law_2040 rfl ?_
  refine k_lcmpE hx hb dL_law_2041 (pk_uLs.trans hy7) ?_
  refine lv_if_eq (tgt := 2047) hx hb dL_law_2042 (by decide) (fun _ => ?_) (fun q8 => absurd (by decide) q8)
  refine lv_goto (tgt := 2161) hx hb dL_law_2047 (by decide) ?_
  refine W.widen (k := cells + 30) (n := slots + 200) (show cells + 1 ≤ cells + 30 by omega) (show slots + 6 ≤ slots + 200 by omega) ?_
  exact kk U_1 (vp_updL f 0 ((c_wa (l_passS G S (nI n1).toNatClampNeg) : Int32).toInt64)) 0 a _ _ _ hw (lv_sub hl [2, 3, 4, 5, 6] rfl)

set_option maxHeartbeats 4000000 in
set_option maxRecDepth 100000 in
theorem la_waxWanted_1 {p9 : Program} {l : Launch} {e : Env} {s9 : State} {m : MethodId} {below : List Frame} {meth : Method} {c : Code} {b L : Nat} {xs : Nat → Int32} (C0 : lw_At p9 s9 m meth c b L xs) (hflags : l.stackTraces = false) (hL : L ≤ 2048) (E : Ev) (hK : va_K E.1 vwCl (tysE E) s9) (hG : Gx s9) (hZ : Zx (aL s9) s9 s9.heap) {Q : State → Prop} (x o : Nat) (A T B M : Nat → Nat) (S U : CS) (G : HS) (th : Int32) (Hb : MH) (a k : Fn) (f : Nat → Int64) (i cells slots : Nat) (hi : i + 4 ≤ L) (z1 : Int32) (e1 : xs (i + 1) = z1) (hy0 : t_nights z1 60 = 3) (hy1 : n_ns Hb ≤ 5) (hy2 : n_np Hb ≤ 16) (hy3 : n_nw Hb ≤ 4) (hy4 : ∀ p, p < n_np Hb → n_so Hb p < 5) (hy5 : d_in z1 1 60 = false) (hc9 : cells + 30 ≤ 1033879) (hs9 : slots + 200 ≤ 5994467) (kk : ∀ (U1 : CS) (f1 : Nat → Int64) (t1 : Int32) (k1 : Fn) (H : Heap) (locs : List Loc) (ls : Array Slot), Wd E (aL s9) s9.heap (wX x A T B ++ wC E A (B 0) S ++ wC E T (B 0) U1 ++ wG E B G ++ [(o, aJ E 1 f1)] ++ wN E M (t1, Hb, a, k1)) H locs → lv_has ls 9 [(0, .ref b), (1, .ref x), (2, .ref (M 0)), (3, .ref o), (4, .int (nI i))] → W p9 l e room_1 s9 m #[Value.ref b] below meth c H locs (cells + 30) (slots + 200) Q (F0 m 2161 ls [])) {H : Heap} {locs : List Loc} {ls : Array Slot} (hw : Wd E (aL s9) s9.heap (wX x A T B ++ wC E A (B 0) S ++ wC E T (B 0) U ++ wG E B G ++ [(o, aJ E 1 f)] ++ wN E M (th, Hb, a, k)) H locs) (hl : lv_has ls 9 [(0, .ref b), (1, .ref x), (2, .ref (M 0)), (3, .ref o), (4, .int (nI i))]) : W p9 l e room_1 s9 m #[Value.ref b] below meth c H locs cells slots Q (F0 m 2050 ls []) := by
  obtain ⟨hx, hb, hr, hml, hown, hts0, hX, hbl, hlocks, hgv⟩ := C0
  have hts : ∀ w ∈ wsL_law, w.before #[Value.ref b] s9 = true := fun w h => hts0 w (wsL_law_in w h)
  have hown : s9.vm.findClass RL = some m.cls := hown
  have hA : ∀ q, s9.heap.size ≤ q → aL s9 q := fun _ h => h
  refine lv_aload_n hx hb dL_law_2050 rfl (lv_at hl 1 rfl) ?_
  refine lv_aload_n hx hb dL_law_2051 rfl (lv_at hl 0 rfl) ?_
  refine lv_iload hx hb dL_law_2052 (lv_at hl 4 rfl) ?_
  refine lv_iconst (v := 1) hx hb dL_law_2054 (by decide) ?_
  refine k_iaddN (a := i) (b := 1) hx hb dL_law_2055 ?_
  refine k_sldv (i := i + 1) (v := z1) hx hb hX hbl hw (by omega) (by omega) e1 dL_law_2056 ?_
  refine lv_aload_n hx hb dL_law_2057 rfl (lv_at hl 3 rfl) ?_
  refine krx_i (ws' := wX x A T B ++ wC E A (B 0) S ++ wC E T (B 0) U ++ wG E B G ++ [(o, aJ E 1 f)] ++ wN E M (th, Hb, a, k)) (vx_runSX (As := [.ref x, .int z1, .ref o]) (rest := []) ⟨hx, hb, hml, hown, hts⟩ (c_L_waxWanted_3 l hflags E x A T B S U G z1 o f hy0 _) (vx_cwSW 3 hts gL_law_L_waxWanted rfl rfl rfl hd_L_waxWanted ⟨Nat.le_of_ble_eq_true rfl, Nat.le_of_ble_eq_true rfl⟩) (rpX (AV := [.ref x, .int z1, .ref o]) hw hK hG hZ hA rp_86) rfl rfl hl.1 rfl (lv_room (Nat.le_of_ble_eq_true rfl)) dL_law_2058 ⟨(show cells + 1 ≤ 1033879 by omega), (show slots + 6 ≤ 5994467 by omega)⟩) hw hA rp_86 rp_86 (fun H locs ce9 q9 t_1 hw hy1 hy2 hy3 => absurd rfl t_1) (fun H locs t_1 hw => ?_)
  refine lv_istore (lv' := [(5, .int 1), (0, .ref b), (1, .ref x), (2, .ref (M 0)), (3, .ref o), (4, .int (nI i))]) hx hb dL_law_2061 hl (by decide) rfl (fun ls hl => ?_)
  refine lv_aload_n hx hb dL_law_2063 rfl (lv_at hl 3 rfl) ?_
  refine lv_aload_n hx hb dL_law_2064 rfl (lv_at hl 1 rfl) ?_
  refine lv_iload hx hb dL_law_2065 (lv_at hl 5 rfl) ?_
  refine lv_iconst (v := 1) hx hb dL_law_2067 (by decide) ?_
  refine k_iaddN (a := i) (b := 1) hx hb dL_law_2068 ?_
  refine k_sldv (i := i + 1) (v := z1) hx hb hX hbl hw (by omega) (by omega) e1 dL_law_2069 ?_
  refine kr_i (ws' := wX x A T B ++ wC E A (B 0) S ++ wC E T (B 0) U ++ wG E B G ++ [(o, aJ E 1 f)] ++ wN E M (1, Hb, a, k)) (va_runV (As := [.int z1]) (rest := []) ⟨hx, hb, hml, hown, hts⟩ (c_X3_waxWanted_1 l E M th Hb a k z1 hy1 hy2 hy3 hy4 hy5 _) (cwV 1 hts gL_law_X3_waxWanted rfl rfl rfl ⟨rfl, hd_X3_waxWanted⟩ ⟨Nat.le_of_ble_eq_true rfl, Nat.le_of_ble_eq_true rfl⟩) (pwV (ci := 3) (q0 := 22) (C := RX3) hw hK rfl rfl rfl (rpS (AV := [.ref (M 0), .int z1]) hw hK hG rp_88)) rfl rfl hl.1 rfl (lv_room (Nat.le_of_ble_eq_true rfl)) dL_law_2070 ⟨(show cells + 1 + 0 ≤ 1033879 by omega), (show slots + 6 + 0 ≤ 5994467 by omega)⟩) hw hA rp_87 (fun H locs hw => ?_)
  refine lv_istore (lv' := [(6, .int 0), (5, .int 1), (0, .ref b), (1, .ref x), (2, .ref (M 0)), (3, .ref o), (4, .int (nI i))]) hx hb dL_law_2073 hl (by decide) rfl (fun ls hl => ?_)
  refine lv_aload_n hx hb dL_law_2075 rfl (lv_at hl 4 rfl) ?_
  refine kr_i (ws' := wX x A T B ++ wC E A (B 0) S ++ wC E T (B 0) U ++ wG E B G ++ [(o, aJ E 1 f)] ++ wN E M (1, Hb, a, k)) (va_runV (As := []) (rest := []) ⟨hx, hb, hml, hown, hts⟩ (c_X3_thrown l E M 1 Hb a k  _) (cwV 0 hts gL_law_X3_thrown rfl rfl rfl ⟨rfl, hd_X3_thrown⟩ ⟨Nat.le_of_ble_eq_true rfl, Nat.le_of_ble_eq_true rfl⟩) (pwV (ci := 3) (q0 := 22) (C := RX3) hw hK rfl rfl rfl (rpS (AV := [.ref (M 0)]) hw hK hG rp_88)) rfl rfl hl.1 rfl (lv_room (Nat.le_of_ble_eq_true rfl)) dL_law_2076 ⟨(show cells + 1 + 0 ≤ 1033879 by omega), (show slots + 6 + 0 ≤ 5994467 by omega)⟩) hw hA rp_88 (fun H locs hw => ?_)
  refine lv_iload hx hb dL_law_2079 (lv_at hl 1 rfl) ?_
  refine lv_icmp_eq (tgt := 2086) hx hb dL_law_2081 (by decide) (fun _ => ?_) (fun q8 => absurd (by decide) q8)
  refine lv_iload hx hb dL_law_2086 (lv_at hl 1 rfl) ?_
  refine lv_if_ne (tgt := 2103) hx hb dL_law_2088 (by decide) (fun _ => ?_) (fun q8 => absurd q8 (by decide))
  refine lv_goto (tgt := 2161) hx hb dL_law_2103 (by decide) ?_
  refine W.widen (k := cells + 30) (n := slots + 200) (show cells + 1 ≤ cells + 30 by omega) (show slots + 6 ≤ slots + 200 by omega) ?_
  exact kk U f 1 k _ _ _ hw (lv_sub hl [2, 3, 4, 5, 6] rfl)

set_option maxHeartbeats 4000000 in
set_option maxRecDepth 100000 in
theorem la_waxWanted_n {p9 : Program} {l : Launch} {e : Env} {s9 : State} {m : MethodId} {below : List Frame} {meth : Method} {c : Code} {b L : Nat} {xs : Nat → Int32} (C0 : lw_At p9 s9 m meth c b L xs) (hflags : l.stackTraces = false) (hL : L ≤ 2048) (E : Ev) (hK : va_K E.1 vwCl (tysE E) s9) (hG : Gx s9) (hZ : Zx (aL s9) s9 s9.heap) {Q : State → Prop} (x o : Nat) (A T B M : Nat → Nat) (S U : CS) (G : HS) (th : Int32) (Hb : MH) (a k : Fn) (f : Nat → Int64) (i cells slots : Nat) (hi : i + 4 ≤ L) (n1 : Nat) (e1 : xs (i + 1) = nI n1) (hy0 : t_nights (nI n1) 60 = 0) (hy1 : n_ns Hb ≤ 5) (hy2 : n_np Hb ≤ 16) (hy3 : n_nw Hb ≤ 4) (hy4 : ∀ p, p < n_np Hb → n_so Hb p < 5) (hy5 : 1 ≤ n1) (hy6 : n1 ≤ 60) (hy7 : r_enough Hb a 500 n1 = false) (hy8 : (f_want G S (nI n1).toNatClampNeg : Int32).toInt64 = ((-1) : Int32).toInt64) (hc9 : cells + 30 ≤ 1033879) (hs9 : slots + 200 ≤ 5994467) (kk : ∀ (U1 : CS) (f1 : Nat → Int64) (t1 : Int32) (k1 : Fn) (H : Heap) (locs : List Loc) (ls : Array Slot), Wd E (aL s9) s9.heap (wX x A T B ++ wC E A (B 0) S ++ wC E T (B 0) U1 ++ wG E B G ++ [(o, aJ E 1 f1)] ++ wN E M (t1, Hb, a, k1)) H locs → lv_has ls 9 [(0, .ref b), (1, .ref x), (2, .ref (M 0)), (3, .ref o), (4, .int (nI i))] → W p9 l e room_1 s9 m #[Value.ref b] below meth c H locs (cells + 30) (slots + 200) Q (F0 m 2161 ls [])) {H : Heap} {locs : List Loc} {ls : Array Slot} (hw : Wd E (aL s9) s9.heap (wX x A T B ++ wC E A (B 0) S ++ wC E T (B 0) U ++ wG E B G ++ [(o, aJ E 1 f)] ++ wN E M (th, Hb, a, k)) H locs) (hl : lv_has ls 9 [(0, .ref b), (1, .ref x), (2, .ref (M 0)), (3, .ref o), (4, .int (nI i))]) : W p9 l e room_1 s9 m #[Value.ref b] below meth c H locs cells slots Q (F0 m 2050 ls []) := by
  obtain ⟨hx, hb, hr, hml, hown, hts0, hX, hbl, hlocks, hgv⟩ := C0
  have hts : ∀ w ∈ wsL_law, w.before #[Value.ref b] s9 = true := fun w h => hts0 w (wsL_law_in w h)
  have hown : s9.vm.findClass RL = some m.cls := hown
  have hA : ∀ q, s9.heap.size ≤ q → aL s9 q := fun _ h => h
  refine lv_aload_n hx hb dL_law_2050 rfl (lv_at hl 1 rfl) ?_
  refine lv_aload_n hx hb dL_law_2051 rfl (lv_at hl 0 rfl) ?_
  refine lv_iload hx hb dL_law_2052 (lv_at hl 4 rfl) ?_
  refine lv_iconst (v := 1) hx hb dL_law_2054 (by decide) ?_
  refine k_iaddN (a := i) (b := 1) hx hb dL_law_2055 ?_
  refine k_sldv (i := i + 1) (v := nI n1) hx hb hX hbl hw (by omega) (by omega) e1 dL_law_2056 ?_
  refine lv_aload_n hx hb dL_law_2057 rfl (lv_at hl 3 rfl) ?_
  refine krx_ie (wU' := fun U9 => wX x A T B ++ wC E A (B 0) S ++ wC E T (B 0) U9 ++ wG E B G ++ [(o, aJ E 1 (vp_updL f 0 ((f_want G S (nI n1).toNatClampNeg : Int32).toInt64)))] ++ wN E M (th, Hb, a, k)) (vx_runSX (As := [.ref x, .int (nI n1), .ref o]) (rest := []) ⟨hx, hb, hml, hown, hts⟩ (c_L_waxWanted l hflags E x A T B S U G (nI n1) o f hy0 _) (vx_cwSW 3 hts gL_law_L_waxWanted rfl rfl rfl hd_L_waxWanted ⟨Nat.le_of_ble_eq_true rfl, Nat.le_of_ble_eq_true rfl⟩) (rpX (AV := [.ref x, .int (nI n1), .ref o]) hw hK hG hZ hA rp_86) rfl rfl hl.1 rfl (lv_room (Nat.le_of_ble_eq_true rfl)) dL_law_2058 ⟨(show cells + 1 ≤ 1033879 by omega), (show slots + 6 ≤ 5994467 by omega)⟩) hw hA (fun _ => rp_94) rp_86 (fun H locs ce9 q9 t_2 hw hy1 hy2 hy3 => absurd rfl t_2) (fun U_1 H locs t_2 hw => ?_)
  refine lv_istore (lv' := [(5, .int 0), (0, .ref b), (1, .ref x), (2, .ref (M 0)), (3, .ref o), (4, .int (nI i))]) hx hb dL_law_2061 hl (by decide) rfl (fun ls hl => ?_)
  refine lv_aload_n hx hb dL_law_2063 rfl (lv_at hl 3 rfl) ?_
  refine lv_aload_n hx hb dL_law_2064 rfl (lv_at hl 1 rfl) ?_
  refine lv_iload hx hb dL_law_2065 (lv_at hl 5 rfl) ?_
  refine lv_iconst (v := 1) hx hb dL_law_2067 (by decide) ?_
  refine k_iaddN (a := i) (b := 1) hx hb dL_law_2068 ?_
  refine k_sldv (i := i + 1) (v := nI n1) hx hb hX hbl hw (by omega) (by omega) e1 dL_law_2069 ?_
  refine kr_i (ws' := wX x A T B ++ wC E A (B 0) S ++ wC E T (B 0) U_1 ++ wG E B G ++ [(o, aJ E 1 (vp_updL f 0 ((f_want G S (nI n1).toNatClampNeg : Int32).toInt64)))] ++ wN E M (0, Hb, a, a)) (va_runV (As := [.int (nI n1)]) (rest := []) ⟨hx, hb, hml, hown, hts⟩ (c_X3_waxWanted_n l E M th Hb a k n1 hy1 hy2 hy3 hy4 hy5 hy6 hy7 _) (cwV 1 hts gL_law_X3_waxWanted rfl rfl rfl ⟨rfl, hd_X3_waxWanted⟩ ⟨Nat.le_of_ble_eq_true rfl, Nat.le_of_ble_eq_true rfl⟩) (pwV (ci := 3) (q0 := 22) (C := RX3) hw hK rfl rfl rfl (rpS (AV := [.ref (M 0), .int (nI n1)]) hw hK hG rp_88)) rfl rfl hl.1 rfl (lv_room (Nat.le_of_ble_eq_true rfl)) dL_law_2070 ⟨(show cells + 1 + 0 ≤ 1033879 by omega), (show slots + 6 + 0 ≤ 5994467 by omega)⟩) hw hA rp_87 (fun H locs hw => ?_)
  refine lv_istore (lv' := [(6, .int (-1)), (5, .int 0), (0, .ref b), (1, .ref x), (2, .ref (M 0)), (3, .ref o), (4, .int (nI i))]) hx hb dL_law_2073 hl (by decide) rfl (fun ls hl => ?_)
  refine lv_aload_n hx hb dL_law_2075 rfl (lv_at hl 4 rfl) ?_
  refine kr_i (ws' := wX x A T B ++ wC E A (B 0) S ++ wC E T (B 0) U_1 ++ wG E B G ++ [(o, aJ E 1 (vp_updL f 0 ((f_want G S (nI n1).toNatClampNeg : Int32).toInt64)))] ++ wN E M (0, Hb, a, a)) (va_runV (As := []) (rest := []) ⟨hx, hb, hml, hown, hts⟩ (c_X3_thrown l E M 0 Hb a a  _) (cwV 0 hts gL_law_X3_thrown rfl rfl rfl ⟨rfl, hd_X3_thrown⟩ ⟨Nat.le_of_ble_eq_true rfl, Nat.le_of_ble_eq_true rfl⟩) (pwV (ci := 3) (q0 := 22) (C := RX3) hw hK rfl rfl rfl (rpS (AV := [.ref (M 0)]) hw hK hG rp_88)) rfl rfl hl.1 rfl (lv_room (Nat.le_of_ble_eq_true rfl)) dL_law_2076 ⟨(show cells + 1 + 0 ≤ 1033879 by omega), (show slots + 6 + 0 ≤ 5994467 by omega)⟩) hw hA rp_88 (fun H locs hw => ?_)
  refine lv_iload hx hb dL_law_2079 (lv_at hl 1 rfl) ?_
  refine lv_icmp_eq (tgt := 2086) hx hb dL_law_2081 (by decide) (fun _ => ?_) (fun q8 => absurd (by decide) q8)
  refine lv_iload hx hb dL_law_2086 (lv_at hl 1 rfl) ?_
  refine lv_if_ne (tgt := 2103) hx hb dL_law_2088 (by decide) (fun q8 => absurd (by decide) q8) (fun _ => ?_)
  refine lv_aload_n hx hb dL_law_2091 rfl (lv_at hl 5 rfl) ?_
  refine lv_iconst (v := 0) hx hb dL_law_2092 (by decide) ?_
  refine k_lld (v := (vp_updL f 0 ((f_want G S (nI n1).toNatClampNeg : Int32).toInt64)) 0) hx hb hK hw 21 rfl (vp_in_nI (n := 0) (N := 1) (by decide) (by decide)) rfl dL_law_2093 ?_
  refine lv_iload hx hb dL_law_2094 (lv_at hl 0 rfl) ?_
  refine lv_i2l (v := ((-1) : Int32).toInt64) hx hb dL_law_2096 rfl ?_
  refine k_lcmpE hx hb dL_law_2097 (pk_uLs.trans hy8) ?_
  refine lv_if_eq (tgt := 2103) hx hb dL_law_2098 (by decide) (fun _ => ?_) (fun q8 => absurd (by decide) q8)
  refine lv_goto (tgt := 2161) hx hb dL_law_2103 (by decide) ?_
  refine W.widen (k := cells + 30) (n := slots + 200) (show cells + 1 ≤ cells + 30 by omega) (show slots + 6 ≤ slots + 200 by omega) ?_
  exact kk U_1 (vp_updL f 0 ((f_want G S (nI n1).toNatClampNeg : Int32).toInt64)) 0 a _ _ _ hw (lv_sub hl [2, 3, 4, 5, 6] rfl)

set_option maxHeartbeats 4000000 in
set_option maxRecDepth 100000 in
theorem la_waxWanted {p9 : Program} {l : Launch} {e : Env} {s9 : State} {m : MethodId} {below : List Frame} {meth : Method} {c : Code} {b L : Nat} {xs : Nat → Int32} (C0 : lw_At p9 s9 m meth c b L xs) (hflags : l.stackTraces = false) (hL : L ≤ 2048) (E : Ev) (hK : va_K E.1 vwCl (tysE E) s9) (hG : Gx s9) (hZ : Zx (aL s9) s9 s9.heap) {Q : State → Prop} (x o : Nat) (A T B M : Nat → Nat) (S U : CS) (G : HS) (th : Int32) (Hb : MH) (a k : Fn) (f : Nat → Int64) (i cells slots : Nat) (hi : i + 4 ≤ L) (K : Nat) (n1 : Nat) (e1 : xs (i + 1) = nI n1) (hy0 : t_nights (nI n1) 60 = 0) (hy1 : n_ns Hb ≤ 5) (hy2 : n_np Hb ≤ 16) (hy3 : n_nw Hb ≤ 4) (hy4 : ∀ p, p < n_np Hb → n_so Hb p < 5) (hy5 : 1 ≤ n1) (hy6 : n1 ≤ 60) (hy7 : r_enough Hb a 500 n1 = true) (hy8 : ∀ i, i < K → (l_bs (fun w9 => r_enough Hb a (nI w9) n1) i).1 < (l_bs (fun w9 => r_enough Hb a (nI w9) n1) i).2) (hy9 : ¬ (l_bs (fun w9 => r_enough Hb a (nI w9) n1) K).1 < (l_bs (fun w9 => r_enough Hb a (nI w9) n1) K).2) (hy10 : (f_want G S (nI n1).toNatClampNeg : Int32).toInt64 = (nI ((l_bs (fun w9 => r_enough Hb a (nI w9) n1) K).1) : Int32).toInt64) (hc9 : cells + 30 ≤ 1033879) (hs9 : slots + 200 ≤ 5994467) (kk : ∀ (U1 : CS) (f1 : Nat → Int64) (t1 : Int32) (k1 : Fn) (H : Heap) (locs : List Loc) (ls : Array Slot), Wd E (aL s9) s9.heap (wX x A T B ++ wC E A (B 0) S ++ wC E T (B 0) U1 ++ wG E B G ++ [(o, aJ E 1 f1)] ++ wN E M (t1, Hb, a, k1)) H locs → lv_has ls 9 [(0, .ref b), (1, .ref x), (2, .ref (M 0)), (3, .ref o), (4, .int (nI i))] → W p9 l e room_1 s9 m #[Value.ref b] below meth c H locs (cells + 30) (slots + 200) Q (F0 m 2161 ls [])) {H : Heap} {locs : List Loc} {ls : Array Slot} (hw : Wd E (aL s9) s9.heap (wX x A T B ++ wC E A (B 0) S ++ wC E T (B 0) U ++ wG E B G ++ [(o, aJ E 1 f)] ++ wN E M (th, Hb, a, k)) H locs) (hl : lv_has ls 9 [(0, .ref b), (1, .ref x), (2, .ref (M 0)), (3, .ref o), (4, .int (nI i))]) : W p9 l e room_1 s9 m #[Value.ref b] below meth c H locs cells slots Q (F0 m 2050 ls []) := by
  obtain ⟨hx, hb, hr, hml, hown, hts0, hX, hbl, hlocks, hgv⟩ := C0
  have hts : ∀ w ∈ wsL_law, w.before #[Value.ref b] s9 = true := fun w h => hts0 w (wsL_law_in w h)
  have hown : s9.vm.findClass RL = some m.cls := hown
  have hA : ∀ q, s9.heap.size ≤ q → aL s9 q := fun _ h => h
  refine lv_aload_n hx hb dL_law_2050 rfl (lv_at hl 1 rfl) ?_
  refine lv_aload_n hx hb dL_law_2051 rfl (lv_at hl 0 rfl) ?_
  refine lv_iload hx hb dL_law_2052 (lv_at hl 4 rfl) ?_
  refine lv_iconst (v := 1) hx hb dL_law_2054 (by decide) ?_
  refine k_iaddN (a := i) (b := 1) hx hb dL_law_2055 ?_
  refine k_sldv (i := i + 1) (v := nI n1) hx hb hX hbl hw (by omega) (by omega) e1 dL_law_2056 ?_
  refine lv_aload_n hx hb dL_law_2057 rfl (lv_at hl 3 rfl) ?_
  refine krx_ie (wU' := fun U9 => wX x A T B ++ wC E A (B 0) S ++ wC E T (B 0) U9 ++ wG E B G ++ [(o, aJ E 1 (vp_updL f 0 ((f_want G S (nI n1).toNatClampNeg : Int32).toInt64)))] ++ wN E M (th, Hb, a, k)) (vx_runSX (As := [.ref x, .int (nI n1), .ref o]) (rest := []) ⟨hx, hb, hml, hown, hts⟩ (c_L_waxWanted l hflags E x A T B S U G (nI n1) o f hy0 _) (vx_cwSW 3 hts gL_law_L_waxWanted rfl rfl rfl hd_L_waxWanted ⟨Nat.le_of_ble_eq_true rfl, Nat.le_of_ble_eq_true rfl⟩) (rpX (AV := [.ref x, .int (nI n1), .ref o]) hw hK hG hZ hA rp_86) rfl rfl hl.1 rfl (lv_room (Nat.le_of_ble_eq_true rfl)) dL_law_2058 ⟨(show cells + 1 ≤ 1033879 by omega), (show slots + 6 ≤ 5994467 by omega)⟩) hw hA (fun _ => rp_94) rp_86 (fun H locs ce9 q9 t_2 hw hy1 hy2 hy3 => absurd rfl t_2) (fun U_1 H locs t_2 hw => ?_)
  refine lv_istore (lv' := [(5, .int 0), (0, .ref b), (1, .ref x), (2, .ref (M 0)), (3, .ref o), (4, .int (nI i))]) hx hb dL_law_2061 hl (by decide) rfl (fun ls hl => ?_)
  refine lv_aload_n hx hb dL_law_2063 rfl (lv_at hl 3 rfl) ?_
  refine lv_aload_n hx hb dL_law_2064 rfl (lv_at hl 1 rfl) ?_
  refine lv_iload hx hb dL_law_2065 (lv_at hl 5 rfl) ?_
  refine lv_iconst (v := 1) hx hb dL_law_2067 (by decide) ?_
  refine k_iaddN (a := i) (b := 1) hx hb dL_law_2068 ?_
  refine k_sldv (i := i + 1) (v := nI n1) hx hb hX hbl hw (by omega) (by omega) e1 dL_law_2069 ?_
  refine kr_i (ws' := wX x A T B ++ wC E A (B 0) S ++ wC E T (B 0) U_1 ++ wG E B G ++ [(o, aJ E 1 (vp_updL f 0 ((f_want G S (nI n1).toNatClampNeg : Int32).toInt64)))] ++ wN E M (0, Hb, a, a)) (va_runV (As := [.int (nI n1)]) (rest := []) ⟨hx, hb, hml, hown, hts⟩ (c_X3_waxWanted l E M th Hb a k n1 K hy1 hy2 hy3 hy4 hy5 hy6 hy7 hy8 hy9 _) (cwV 1 hts gL_law_X3_waxWanted rfl rfl rfl ⟨rfl, hd_X3_waxWanted⟩ ⟨Nat.le_of_ble_eq_true rfl, Nat.le_of_ble_eq_true rfl⟩) (pwV (ci := 3) (q0 := 22) (C := RX3) hw hK rfl rfl rfl (rpS (AV := [.ref (M 0), .int (nI n1)]) hw hK hG rp_88)) rfl rfl hl.1 rfl (lv_room (Nat.le_of_ble_eq_true rfl)) dL_law_2070 ⟨(show cells + 1 + 0 ≤ 1033879 by omega), (show slots + 6 + 0 ≤ 5994467 by omega)⟩) hw hA rp_87 (fun H locs hw => ?_)
  refine lv_istore (lv' := [(6, .int (nI ((l_bs (fun w9 => r_enough Hb a (nI w9) n1) K).1))), (5, .int 0), (0, .ref b), (1, .ref x), (2, .ref (M 0)), (3, .ref o), (4, .int (nI i))]) hx hb dL_law_2073 hl (by decide) rfl (fun ls hl => ?_)
  refine lv_aload_n hx hb dL_law_2075 rfl (lv_at hl 4 rfl) ?_
  refine kr_i (ws' := wX x A T B ++ wC E A (B 0) S ++ wC E T (B 0) U_1 ++ wG E B G ++ [(o, aJ E 1 (vp_updL f 0 ((f_want G S (nI n1).toNatClampNeg : Int32).toInt64)))] ++ wN E M (0, Hb, a, a)) (va_runV (As := []) (rest := []) ⟨hx, hb, hml, hown, hts⟩ (c_X3_thrown l E M 0 Hb a a  _) (cwV 0 hts gL_law_X3_thrown rfl rfl rfl ⟨rfl, hd_X3_thrown⟩ ⟨Nat.le_of_ble_eq_true rfl, Nat.le_of_ble_eq_true rfl⟩) (pwV (ci := 3) (q0 := 22) (C := RX3) hw hK rfl rfl rfl (rpS (AV := [.ref (M 0)]) hw hK hG rp_88)) rfl rfl hl.1 rfl (lv_room (Nat.le_of_ble_eq_true rfl)) dL_law_2076 ⟨(show cells + 1 + 0 ≤ 1033879 by omega), (show slots + 6 + 0 ≤ 5994467 by omega)⟩) hw hA rp_88 (fun H locs hw => ?_)
  refine lv_iload hx hb dL_law_2079 (lv_at hl 1 rfl) ?_
  refine lv_icmp_eq (tgt := 2086) hx hb dL_law_2081 (by decide) (fun _ => ?_) (fun q8 => absurd (by decide) q8)
  refine lv_iload hx hb dL_law_2086 (lv_at hl 1 rfl) ?_
  refine lv_if_ne (tgt := 2103) hx hb dL_law_2088 (by decide) (fun q8 => absurd (by decide) q8) (fun _ => ?_)
  refine lv_aload_n hx hb dL_law_2091 rfl (lv_at hl 5 rfl) ?_
  refine lv_iconst (v := 0) hx hb dL_law_2092 (by decide) ?_
  refine k_lld (v := (vp_updL f 0 ((f_want G S (nI n1).toNatClampNeg : Int32).toInt64)) 0) hx hb hK hw 21 rfl (vp_in_nI (n := 0) (N := 1) (by decide) (by decide)) rfl dL_law_2093 ?_
  refine lv_iload hx hb dL_law_2094 (lv_at hl 0 rfl) ?_
  refine lv_i2l (v := (nI ((l_bs (fun w9 => r_enough Hb a (nI w9) n1) K).1) : Int32).toInt64) hx hb dL_law_2096 rfl ?_
  refine k_lcmpE hx hb dL_law_2097 (pk_uLs.trans hy10) ?_
  refine lv_if_eq (tgt := 2103) hx hb dL_law_2098 (by decide) (fun _ => ?_) (fun q8 => absurd (by decide) q8)
  refine lv_goto (tgt := 2161) hx hb dL_law_2103 (by decide) ?_
  refine W.widen (k := cells + 30) (n := slots + 200) (show cells + 1 ≤ cells + 30 by omega) (show slots + 6 ≤ slots + 200 by omega) ?_
  exact kk U_1 (vp_updL f 0 ((f_want G S (nI n1).toNatClampNeg : Int32).toInt64)) 0 a _ _ _ hw (lv_sub hl [2, 3, 4, 5, 6] rfl)

set_option maxHeartbeats 4000000 in
set_option maxRecDepth 100000 in
theorem la_meanTrust {p9 : Program} {l : Launch} {e : Env} {s9 : State} {m : MethodId} {below : List Frame} {meth : Method} {c : Code} {b L : Nat} {xs : Nat → Int32} (C0 : lw_At p9 s9 m meth c b L xs) (hflags : l.stackTraces = false) (hL : L ≤ 2048) (E : Ev) (hK : va_K E.1 vwCl (tysE E) s9) (hG : Gx s9) (hZ : Zx (aL s9) s9 s9.heap) {Q : State → Prop} (x o : Nat) (A T B M : Nat → Nat) (S U : CS) (G : HS) (th : Int32) (Hb : MH) (a k : Fn) (f : Nat → Int64) (i cells slots : Nat) (hi : i + 4 ≤ L) (hy0 : 0 < nI (g_wc G) → vf_n64 (FP.ddiv (FP.i2d (l_sumT (c_tr S) (g_wc G))) (FP.i2d (nI (g_wc G))))) (hy1 : g_wc G ≤ 4) (hy2 : n_ns Hb ≤ 5) (hy3 : n_np Hb ≤ 16) (hy4 : n_nw Hb ≤ 4) (hy5 : ∀ p, p < n_np Hb → n_so Hb p < 5) (hy6 : ¬ nI (n_nw Hb) = 0 → vf_n64 (FP.ddiv (FP.i2d (l_msum a (n_nw Hb))) (FP.i2d (nI (n_nw Hb))))) (hy7 : f_mean G S = r_mean Hb a) (hy8 : FP.dcmp (f_mean G S) (f_mean G S) = some .eq) (hc9 : cells + 30 ≤ 1033879) (hs9 : slots + 200 ≤ 5994467) (kk : ∀ (U1 : CS) (f1 : Nat → Int64) (t1 : Int32) (k1 : Fn) (H : Heap) (locs : List Loc) (ls : Array Slot), Wd E (aL s9) s9.heap (wX x A T B ++ wC E A (B 0) S ++ wC E T (B 0) U1 ++ wG E B G ++ [(o, aJ E 1 f1)] ++ wN E M (t1, Hb, a, k1)) H locs → lv_has ls 9 [(0, .ref b), (1, .ref x), (2, .ref (M 0)), (3, .ref o), (4, .int (nI i))] → W p9 l e room_1 s9 m #[Value.ref b] below meth c H locs (cells + 30) (slots + 200) Q (F0 m 2161 ls [])) {H : Heap} {locs : List Loc} {ls : Array Slot} (hw : Wd E (aL s9) s9.heap (wX x A T B ++ wC E A (B 0) S ++ wC E T (B 0) U ++ wG E B G ++ [(o, aJ E 1 f)] ++ wN E M (th, Hb, a, k)) H locs) (hl : lv_has ls 9 [(0, .ref b), (1, .ref x), (2, .ref (M 0)), (3, .ref o), (4, .int (nI i))]) : W p9 l e room_1 s9 m #[Value.ref b] below meth c H locs cells slots Q (F0 m 2106 ls []) := by
  obtain ⟨hx, hb, hr, hml, hown, hts0, hX, hbl, hlocks, hgv⟩ := C0
  have hts : ∀ w ∈ wsL_law, w.before #[Value.ref b] s9 = true := fun w h => hts0 w (wsL_law_in w h)
  have hown : s9.vm.findClass RL = some m.cls := hown
  have hA : ∀ q, s9.heap.size ≤ q → aL s9 q := fun _ h => h
  refine lv_aload_n hx hb dL_law_2106 rfl (lv_at hl 1 rfl) ?_
  refine kr_d (ws' := wX x A T B ++ wC E A (B 0) S ++ wC E T (B 0) U ++ wG E B G ++ [(o, aJ E 1 f)] ++ wN E M (th, Hb, a, k)) (va_runV (As := []) (rest := []) ⟨hx, hb, hml, hown, hts⟩ (c_X2_meanTrust l E x A T B S U G hy0 hy1 _) (cwV 0 hts gL_law_X2_meanTrust rfl rfl rfl ⟨rfl, hd_X2_meanTrust⟩ ⟨Nat.le_of_ble_eq_true rfl, Nat.le_of_ble_eq_true rfl⟩) (pwV (ci := 2) (q0 := 0) (C := RX2) hw hK rfl rfl rfl (rpS (AV := [.ref x]) hw hK hG rp_92)) rfl rfl hl.1 rfl (lv_room (Nat.le_of_ble_eq_true rfl)) dL_law_2107 ⟨(show cells + 0 ≤ 1033879 by omega), (show slots + 0 ≤ 5994467 by omega)⟩) hw hA rp_92 (fun H locs hw => ?_)
  refine lv_dstore (lv' := [(5, .double (f_mean G S)), (0, .ref b), (1, .ref x), (2, .ref (M 0)), (3, .ref o), (4, .int (nI i))]) hx hb dL_law_2110 hl (by decide) rfl (fun ls hl => ?_)
  refine lv_aload_n hx hb dL_law_2112 rfl (lv_at hl 3 rfl) ?_
  refine kr_d (ws' := wX x A T B ++ wC E A (B 0) S ++ wC E T (B 0) U ++ wG E B G ++ [(o, aJ E 1 f)] ++ wN E M (0, Hb, a, k)) (va_runV (As := []) (rest := []) ⟨hx, hb, hml, hown, hts⟩ (c_X3_meanTrust l E M th Hb a k hy2 hy3 hy4 hy5 hy6 _) (cwV 0 hts gL_law_X3_meanTrust rfl rfl rfl ⟨rfl, hd_X3_meanTrust⟩ ⟨Nat.le_of_ble_eq_true rfl, Nat.le_of_ble_eq_true rfl⟩) (pwV (ci := 3) (q0 := 22) (C := RX3) hw hK rfl rfl rfl (rpS (AV := [.ref (M 0)]) hw hK hG rp_88)) rfl rfl hl.1 rfl (lv_room (Nat.le_of_ble_eq_true rfl)) dL_law_2113 ⟨(show cells + 0 ≤ 1033879 by omega), (show slots + 0 ≤ 5994467 by omega)⟩) hw hA rp_87 (fun H locs hw => ?_)
  refine lv_dstore (lv' := [(7, .double (r_mean Hb a)), (5, .double (f_mean G S)), (0, .ref b), (1, .ref x), (2, .ref (M 0)), (3, .ref o), (4, .int (nI i))]) hx hb dL_law_2116 hl (by decide) rfl (fun ls hl => ?_)
  refine lv_dload hx hb dL_law_2118 (lv_at hl 1 rfl) ?_
  refine lv_dload hx hb dL_law_2120 (lv_at hl 0 rfl) ?_
  refine k_dcmpE hx hb dL_law_2122 hy7 hy8 ?_
  refine lv_if_eq (tgt := 2144) hx hb dL_law_2123 (by decide) (fun _ => ?_) (fun q8 => absurd (by decide) q8)
  refine lv_goto (tgt := 2161) hx hb dL_law_2144 (by decide) ?_
  refine W.widen (k := cells + 30) (n := slots + 200) (show cells ≤ cells + 30 by omega) (show slots ≤ slots + 200 by omega) ?_
  exact kk U f 0 k _ _ _ hw (lv_sub hl [2, 3, 4, 5, 6] rfl)

set_option maxHeartbeats 4000000 in
set_option maxRecDepth 100000 in
theorem la_digest {p9 : Program} {l : Launch} {e : Env} {s9 : State} {m : MethodId} {below : List Frame} {meth : Method} {c : Code} {b L : Nat} {xs : Nat → Int32} (C0 : lw_At p9 s9 m meth c b L xs) (hflags : l.stackTraces = false) (hL : L ≤ 2048) (E : Ev) (hK : va_K E.1 vwCl (tysE E) s9) (hG : Gx s9) (hZ : Zx (aL s9) s9 s9.heap) {Q : State → Prop} (x o : Nat) (A T B M : Nat → Nat) (S U : CS) (G : HS) (th : Int32) (Hb : MH) (a k : Fn) (f : Nat → Int64) (i cells slots : Nat) (hi : i + 4 ≤ L) (hy0 : g_sc G ≤ 5) (hy1 : g_pc G ≤ 16) (hy2 : g_wc G ≤ 4) (hy3 : n_ns Hb ≤ 5) (hy4 : n_np Hb ≤ 16) (hy5 : n_nw Hb ≤ 4) (hy6 : ∀ p, p < n_np Hb → n_so Hb p < 5) (hy7 : f_digest G S = r_digest Hb a) (hc9 : cells + 30 ≤ 1033879) (hs9 : slots + 200 ≤ 5994467) (kk : ∀ (U1 : CS) (f1 : Nat → Int64) (t1 : Int32) (k1 : Fn) (H : Heap) (locs : List Loc) (ls : Array Slot), Wd E (aL s9) s9.heap (wX x A T B ++ wC E A (B 0) S ++ wC E T (B 0) U1 ++ wG E B G ++ [(o, aJ E 1 f1)] ++ wN E M (t1, Hb, a, k1)) H locs → lv_has ls 9 [(0, .ref b), (1, .ref x), (2, .ref (M 0)), (3, .ref o), (4, .int (nI i))] → W p9 l e room_1 s9 m #[Value.ref b] below meth c H locs (cells + 30) (slots + 200) Q (F0 m 2161 ls [])) {H : Heap} {locs : List Loc} {ls : Array Slot} (hw : Wd E (aL s9) s9.heap (wX x A T B ++ wC E A (B 0) S ++ wC E T (B 0) U ++ wG E B G ++ [(o, aJ E 1 f)] ++ wN E M (th, Hb, a, k)) H locs) (hl : lv_has ls 9 [(0, .ref b), (1, .ref x), (2, .ref (M 0)), (3, .ref o), (4, .int (nI i))]) : W p9 l e room_1 s9 m #[Value.ref b] below meth c H locs cells slots Q (F0 m 2147 ls []) := by
  obtain ⟨hx, hb, hr, hml, hown, hts0, hX, hbl, hlocks, hgv⟩ := C0
  have hts : ∀ w ∈ wsL_law, w.before #[Value.ref b] s9 = true := fun w h => hts0 w (wsL_law_in w h)
  have hown : s9.vm.findClass RL = some m.cls := hown
  have hA : ∀ q, s9.heap.size ≤ q → aL s9 q := fun _ h => h
  refine lv_aload_n hx hb dL_law_2147 rfl (lv_at hl 1 rfl) ?_
  refine kr_l (ws' := wX x A T B ++ wC E A (B 0) S ++ wC E T (B 0) U ++ wG E B G ++ [(o, aJ E 1 f)] ++ wN E M (th, Hb, a, k)) (va_runV (As := []) (rest := []) ⟨hx, hb, hml, hown, hts⟩ (c_X2_digest l E x A T B S U G hy0 hy1 hy2 _) (cwV 0 hts gL_law_X2_digest rfl rfl rfl ⟨rfl, hd_X2_digest⟩ ⟨Nat.le_of_ble_eq_true rfl, Nat.le_of_ble_eq_true rfl⟩) (pwV (ci := 2) (q0 := 0) (C := RX2) hw hK rfl rfl rfl (rpS (AV := [.ref x]) hw hK hG rp_92)) rfl rfl hl.1 rfl (lv_room (Nat.le_of_ble_eq_true rfl)) dL_law_2148 ⟨(show cells + 0 ≤ 1033879 by omega), (show slots + 0 ≤ 5994467 by omega)⟩) hw hA rp_92 (fun H locs hw => ?_)
  refine lv_aload_n hx hb dL_law_2151 rfl (lv_at hl 2 rfl) ?_
  refine kr_l (ws' := wX x A T B ++ wC E A (B 0) S ++ wC E T (B 0) U ++ wG E B G ++ [(o, aJ E 1 f)] ++ wN E M (0, Hb, a, k)) (va_runV (As := []) (rest := [.long (f_digest G S)]) ⟨hx, hb, hml, hown, hts⟩ (c_X3_digest l E M th Hb a k hy3 hy4 hy5 hy6 _) (cwV 0 hts gL_law_X3_digest rfl rfl rfl ⟨rfl, hd_X3_digest⟩ ⟨Nat.le_of_ble_eq_true rfl, Nat.le_of_ble_eq_true rfl⟩) (pwV (ci := 3) (q0 := 22) (C := RX3) hw hK rfl rfl rfl (rpS (AV := [.ref (M 0)]) hw hK hG rp_88)) rfl rfl hl.1 rfl (lv_room (Nat.le_of_ble_eq_true rfl)) dL_law_2152 ⟨(show cells + 22 ≤ 1033879 by omega), (show slots + 129 ≤ 5994467 by omega)⟩) hw hA rp_87 (fun H locs hw => ?_)
  refine k_lcmpE hx hb dL_law_2155 (hy7) ?_
  refine lv_if_eq (tgt := 2161) hx hb dL_law_2156 (by decide) (fun _ => ?_) (fun q8 => absurd (by decide) q8)
  refine W.widen (k := cells + 30) (n := slots + 200) (show cells + 22 ≤ cells + 30 by omega) (show slots + 129 ≤ slots + 200 by omega) ?_
  exact kk U f 0 k _ _ _ hw (lv_sub hl [0, 1, 2, 3, 4] rfl)
