set_option maxHeartbeats 4000000 in
set_option maxRecDepth 100000 in
theorem la_trustIn {p9 : Program} {l : Launch} {e : Env} {s9 : State} {m : MethodId} {below : List Frame} {meth : Method} {c : Code} {b L : Nat} {xs : Nat → Int32} (C0 : lw_At p9 s9 m meth c b L xs) (hflags : l.stackTraces = false) (hL : L ≤ 2048) (E : Ev) (hK : va_K E.1 vwCl (tysE E) s9) (hG : Gx s9) (hZ : Zx (aL s9) s9 s9.heap) {Q : State → Prop} (x o : Nat) (A T B M : Nat → Nat) (S U : CS) (G : HS) (th : Int32) (Hb : MH) (a k : Fn) (f : Nat → Int64) (i cells slots : Nat) (hi : i + 4 ≤ L) (n1 : Nat) (e1 : xs (i + 1) = nI n1) (hy0 : t_ship G (nI n1) = 0) (hy1 : n_ns Hb ≤ 5) (hy2 : n_np Hb ≤ 16) (hy3 : n_nw Hb ≤ 4) (hy4 : ∀ p, p < n_np Hb → n_so Hb p < 5) (hy5 : n1 < n_ns Hb) (hy6 : (f_trust S (nI n1) : Int32).toInt64 = (l_mtr a n1 (n_nw Hb) : Int32).toInt64) (hc9 : cells + 30 ≤ 1033879) (hs9 : slots + 200 ≤ 5994467) (kk : ∀ (U1 : CS) (f1 : Nat → Int64) (t1 : Int32) (k1 : Fn) (H : Heap) (locs : List Loc) (ls : Array Slot), Wd E (aL s9) s9.heap (wX x A T B ++ wC E A (B 0) S ++ wC E T (B 0) U1 ++ wG E B G ++ [(o, aJ E 1 f1)] ++ wN E M (t1, Hb, a, k1)) H locs → lv_has ls 9 [(0, .ref b), (1, .ref x), (2, .ref (M 0)), (3, .ref o), (4, .int (nI i))] → W p9 l e room_1 s9 m #[Value.ref b] below meth c H locs (cells + 30) (slots + 200) Q (F0 m 2161 ls [])) {H : Heap} {locs : List Loc} {ls : Array Slot} (hw : Wd E (aL s9) s9.heap (wX x A T B ++ wC E A (B 0) S ++ wC E T (B 0) U ++ wG E B G ++ [(o, aJ E 1 f)] ++ wN E M (th, Hb, a, k)) H locs) (hl : lv_has ls 9 [(0, .ref b), (1, .ref x), (2, .ref (M 0)), (3, .ref o), (4, .int (nI i))]) : W p9 l e room_1 s9 m #[Value.ref b] below meth c H locs cells slots Q (F0 m 1109 ls []) := by
  obtain ⟨hx, hb, hr, hml, hown, hts0, hX, hbl, hlocks, hgv⟩ := C0
  have hts : ∀ w ∈ wsL_law, w.before #[Value.ref b] s9 = true := fun w h => hts0 w (wsL_law_in w h)
  have hown : s9.vm.findClass RL = some m.cls := hown
  have hA : ∀ q, s9.heap.size ≤ q → aL s9 q := fun _ h => h
  refine lv_aload_n hx hb dL_law_1109 rfl (lv_at hl 1 rfl) ?_
  refine lv_aload_n hx hb dL_law_1110 rfl (lv_at hl 0 rfl) ?_
  refine lv_iload hx hb dL_law_1111 (lv_at hl 4 rfl) ?_
  refine lv_iconst (v := 1) hx hb dL_law_1113 (by decide) ?_
  refine k_iaddN (a := i) (b := 1) hx hb dL_law_1114 ?_
  refine k_sldv (i := i + 1) (v := nI n1) hx hb hX hbl hw (by omega) (by omega) e1 dL_law_1115 ?_
  refine lv_aload_n hx hb dL_law_1116 rfl (lv_at hl 3 rfl) ?_
  refine krx_i (ws' := wX x A T B ++ wC E A (B 0) S ++ wC E T (B 0) U ++ wG E B G ++ [(o, aJ E 1 (vp_updL f 0 ((f_trust S (nI n1) : Int32).toInt64)))] ++ wN E M (th, Hb, a, k)) (vx_runSX (As := [.ref x, .int (nI n1), .ref o]) (rest := []) ⟨hx, hb, hml, hown, hts⟩ (c_L_trustIn l hflags E x A T B S U G (nI n1) o f hy0 _) (vx_cwSW 3 hts gL_law_L_trustIn rfl rfl rfl hd_L_trustIn ⟨Nat.le_of_ble_eq_true rfl, Nat.le_of_ble_eq_true rfl⟩) (rpX (AV := [.ref x, .int (nI n1), .ref o]) hw hK hG hZ hA rp_86) rfl rfl hl.1 rfl (lv_room (Nat.le_of_ble_eq_true rfl)) dL_law_1117 ⟨(show cells + 1 ≤ 1033879 by omega), (show slots + 6 ≤ 5994467 by omega)⟩) hw hA rp_93 rp_86 (fun H locs ce9 q9 t_1 hw hy1 hy2 hy3 => absurd rfl t_1) (fun H locs t_1 hw => ?_)
  refine lv_istore (lv' := [(5, .int 0), (0, .ref b), (1, .ref x), (2, .ref (M 0)), (3, .ref o), (4, .int (nI i))]) hx hb dL_law_1120 hl (by decide) rfl (fun ls hl => ?_)
  refine lv_aload_n hx hb dL_law_1122 rfl (lv_at hl 3 rfl) ?_
  refine lv_aload_n hx hb dL_law_1123 rfl (lv_at hl 1 rfl) ?_
  refine lv_iload hx hb dL_law_1124 (lv_at hl 5 rfl) ?_
  refine lv_iconst (v := 1) hx hb dL_law_1126 (by decide) ?_
  refine k_iaddN (a := i) (b := 1) hx hb dL_law_1127 ?_
  refine k_sldv (i := i + 1) (v := nI n1) hx hb hX hbl hw (by omega) (by omega) e1 dL_law_1128 ?_
  refine kr_i (ws' := wX x A T B ++ wC E A (B 0) S ++ wC E T (B 0) U ++ wG E B G ++ [(o, aJ E 1 (vp_updL f 0 ((f_trust S (nI n1) : Int32).toInt64)))] ++ wN E M (0, Hb, a, k)) (va_runV (As := [.int (nI n1)]) (rest := []) ⟨hx, hb, hml, hown, hts⟩ (c_X3_trustIn l E M th Hb a k n1 hy1 hy2 hy3 hy4 hy5 _) (cwV 1 hts gL_law_X3_trustIn rfl rfl rfl ⟨rfl, hd_X3_trustIn⟩ ⟨Nat.le_of_ble_eq_true rfl, Nat.le_of_ble_eq_true rfl⟩) (pwV (ci := 3) (q0 := 22) (C := RX3) hw hK rfl rfl rfl (rpS (AV := [.ref (M 0), .int (nI n1)]) hw hK hG rp_88)) rfl rfl hl.1 rfl (lv_room (Nat.le_of_ble_eq_true rfl)) dL_law_1129 ⟨(show cells + 1 + 0 ≤ 1033879 by omega), (show slots + 6 + 0 ≤ 5994467 by omega)⟩) hw hA rp_87 (fun H locs hw => ?_)
  refine lv_istore (lv' := [(6, .int (l_mtr a n1 (n_nw Hb))), (5, .int 0), (0, .ref b), (1, .ref x), (2, .ref (M 0)), (3, .ref o), (4, .int (nI i))]) hx hb dL_law_1132 hl (by decide) rfl (fun ls hl => ?_)
  refine lv_aload_n hx hb dL_law_1134 rfl (lv_at hl 4 rfl) ?_
  refine kr_i (ws' := wX x A T B ++ wC E A (B 0) S ++ wC E T (B 0) U ++ wG E B G ++ [(o, aJ E 1 (vp_updL f 0 ((f_trust S (nI n1) : Int32).toInt64)))] ++ wN E M (0, Hb, a, k)) (va_runV (As := []) (rest := []) ⟨hx, hb, hml, hown, hts⟩ (c_X3_thrown l E M 0 Hb a k  _) (cwV 0 hts gL_law_X3_thrown rfl rfl rfl ⟨rfl, hd_X3_thrown⟩ ⟨Nat.le_of_ble_eq_true rfl, Nat.le_of_ble_eq_true rfl⟩) (pwV (ci := 3) (q0 := 22) (C := RX3) hw hK rfl rfl rfl (rpS (AV := [.ref (M 0)]) hw hK hG rp_88)) rfl rfl hl.1 rfl (lv_room (Nat.le_of_ble_eq_true rfl)) dL_law_1135 ⟨(show cells + 1 + 0 ≤ 1033879 by omega), (show slots + 6 + 0 ≤ 5994467 by omega)⟩) hw hA rp_88 (fun H locs hw => ?_)
  refine lv_iload hx hb dL_law_1138 (lv_at hl 1 rfl) ?_
  refine lv_icmp_eq (tgt := 1145) hx hb dL_law_1140 (by decide) (fun _ => ?_) (fun q8 => absurd (by decide) q8)
  refine lv_iload hx hb dL_law_1145 (lv_at hl 1 rfl) ?_
  refine lv_if_ne (tgt := 1162) hx hb dL_law_1147 (by decide) (fun q8 => absurd (by decide) q8) (fun _ => ?_)
  refine lv_aload_n hx hb dL_law_1150 rfl (lv_at hl 5 rfl) ?_
  refine lv_iconst (v := 0) hx hb dL_law_1151 (by decide) ?_
  refine k_lld (v := (vp_updL f 0 ((f_trust S (nI n1) : Int32).toInt64)) 0) hx hb hK hw 21 rfl (vp_in_nI (n := 0) (N := 1) (by decide) (by decide)) rfl dL_law_1152 ?_
  refine lv_iload hx hb dL_law_1153 (lv_at hl 0 rfl) ?_
  refine lv_i2l (v := (l_mtr a n1 (n_nw Hb) : Int32).toInt64) hx hb dL_law_1155 rfl ?_
  refine k_lcmpE hx hb dL_law_1156 (pk_uLs.trans hy6) ?_
  refine lv_if_eq (tgt := 1162) hx hb dL_law_1157 (by decide) (fun _ => ?_) (fun q8 => absurd (by decide) q8)
  refine lv_goto (tgt := 2161) hx hb dL_law_1162 (by decide) ?_
  refine W.widen (k := cells + 30) (n := slots + 200) (show cells + 1 ≤ cells + 30 by omega) (show slots + 6 ≤ slots + 200 by omega) ?_
  exact kk U (vp_updL f 0 ((f_trust S (nI n1) : Int32).toInt64)) 0 k _ _ _ hw (lv_sub hl [2, 3, 4, 5, 6] rfl)

set_option maxHeartbeats 4000000 in
set_option maxRecDepth 100000 in
theorem la_voters__1 {p9 : Program} {l : Launch} {e : Env} {s9 : State} {m : MethodId} {below : List Frame} {meth : Method} {c : Code} {b L : Nat} {xs : Nat → Int32} (C0 : lw_At p9 s9 m meth c b L xs) (hflags : l.stackTraces = false) (hL : L ≤ 2048) (E : Ev) (hK : va_K E.1 vwCl (tysE E) s9) (hG : Gx s9) (hZ : Zx (aL s9) s9 s9.heap) {Q : State → Prop} (x o : Nat) (A T B M : Nat → Nat) (S U : CS) (G : HS) (th : Int32) (Hb : MH) (a k : Fn) (f : Nat → Int64) (i cells slots : Nat) (hi : i + 4 ≤ L) (z1 : Int32) (e1 : xs (i + 1) = z1) (hy0 : t_ship G z1 = 1) (hy1 : n_ns Hb ≤ 5) (hy2 : n_np Hb ≤ 16) (hy3 : n_nw Hb ≤ 4) (hy4 : ∀ p, p < n_np Hb → n_so Hb p < 5) (hy5 : d_in z1 0 (nI (n_ns Hb) - 1) = false) (hc9 : cells + 30 ≤ 1033879) (hs9 : slots + 200 ≤ 5994467) (kk : ∀ (U1 : CS) (f1 : Nat → Int64) (t1 : Int32) (k1 : Fn) (H : Heap) (locs : List Loc) (ls : Array Slot), Wd E (aL s9) s9.heap (wX x A T B ++ wC E A (B 0) S ++ wC E T (B 0) U1 ++ wG E B G ++ [(o, aJ E 1 f1)] ++ wN E M (t1, Hb, a, k1)) H locs → lv_has ls 9 [(0, .ref b), (1, .ref x), (2, .ref (M 0)), (3, .ref o), (4, .int (nI i))] → W p9 l e room_1 s9 m #[Value.ref b] below meth c H locs (cells + 30) (slots + 200) Q (F0 m 2161 ls [])) {H : Heap} {locs : List Loc} {ls : Array Slot} (hw : Wd E (aL s9) s9.heap (wX x A T B ++ wC E A (B 0) S ++ wC E T (B 0) U ++ wG E B G ++ [(o, aJ E 1 f)] ++ wN E M (th, Hb, a, k)) H locs) (hl : lv_has ls 9 [(0, .ref b), (1, .ref x), (2, .ref (M 0)), (3, .ref o), (4, .int (nI i))]) : W p9 l e room_1 s9 m #[Value.ref b] below meth c H locs cells slots Q (F0 m 1165 ls []) := by
  obtain ⟨hx, hb, hr, hml, hown, hts0, hX, hbl, hlocks, hgv⟩ := C0
  have hts : ∀ w ∈ wsL_law, w.before #[Value.ref b] s9 = true := fun w h => hts0 w (wsL_law_in w h)
  have hown : s9.vm.findClass RL = some m.cls := hown
  have hA : ∀ q, s9.heap.size ≤ q → aL s9 q := fun _ h => h
  refine lv_aload_n hx hb dL_law_1165 rfl (lv_at hl 1 rfl) ?_
  refine lv_aload_n hx hb dL_law_1166 rfl (lv_at hl 0 rfl) ?_
  refine lv_iload hx hb dL_law_1167 (lv_at hl 4 rfl) ?_
  refine lv_iconst (v := 1) hx hb dL_law_1169 (by decide) ?_
  refine k_iaddN (a := i) (b := 1) hx hb dL_law_1170 ?_
  refine k_sldv (i := i + 1) (v := z1) hx hb hX hbl hw (by omega) (by omega) e1 dL_law_1171 ?_
  refine lv_aload_n hx hb dL_law_1172 rfl (lv_at hl 3 rfl) ?_
  refine krx_i (ws' := wX x A T B ++ wC E A (B 0) S ++ wC E T (B 0) U ++ wG E B G ++ [(o, aJ E 1 f)] ++ wN E M (th, Hb, a, k)) (vx_runSX (As := [.ref x, .int z1, .ref o]) (rest := []) ⟨hx, hb, hml, hown, hts⟩ (c_L_voters_1 l hflags E x A T B S U G z1 o f hy0 _) (vx_cwSW 3 hts gL_law_L_voters rfl rfl rfl hd_L_voters ⟨Nat.le_of_ble_eq_true rfl, Nat.le_of_ble_eq_true rfl⟩) (rpX (AV := [.ref x, .int z1, .ref o]) hw hK hG hZ hA rp_86) rfl rfl hl.1 rfl (lv_room (Nat.le_of_ble_eq_true rfl)) dL_law_1173 ⟨(show cells + 1 ≤ 1033879 by omega), (show slots + 6 ≤ 5994467 by omega)⟩) hw hA rp_86 rp_86 (fun H locs ce9 q9 t_1 hw hy1 hy2 hy3 => absurd rfl t_1) (fun H locs t_1 hw => ?_)
  refine lv_istore (lv' := [(5, .int 1), (0, .ref b), (1, .ref x), (2, .ref (M 0)), (3, .ref o), (4, .int (nI i))]) hx hb dL_law_1176 hl (by decide) rfl (fun ls hl => ?_)
  refine lv_aload_n hx hb dL_law_1178 rfl (lv_at hl 3 rfl) ?_
  refine lv_aload_n hx hb dL_law_1179 rfl (lv_at hl 1 rfl) ?_
  refine lv_iload hx hb dL_law_1180 (lv_at hl 5 rfl) ?_
  refine lv_iconst (v := 1) hx hb dL_law_1182 (by decide) ?_
  refine k_iaddN (a := i) (b := 1) hx hb dL_law_1183 ?_
  refine k_sldv (i := i + 1) (v := z1) hx hb hX hbl hw (by omega) (by omega) e1 dL_law_1184 ?_
  refine kr_i (ws' := wX x A T B ++ wC E A (B 0) S ++ wC E T (B 0) U ++ wG E B G ++ [(o, aJ E 1 f)] ++ wN E M (1, Hb, a, k)) (va_runV (As := [.int z1]) (rest := []) ⟨hx, hb, hml, hown, hts⟩ (c_X3_voters__1 l E M th Hb a k z1 hy1 hy2 hy3 hy4 hy5 _) (cwV 1 hts gL_law_X3_voters_ rfl rfl rfl ⟨rfl, hd_X3_voters_⟩ ⟨Nat.le_of_ble_eq_true rfl, Nat.le_of_ble_eq_true rfl⟩) (pwV (ci := 3) (q0 := 22) (C := RX3) hw hK rfl rfl rfl (rpS (AV := [.ref (M 0), .int z1]) hw hK hG rp_88)) rfl rfl hl.1 rfl (lv_room (Nat.le_of_ble_eq_true rfl)) dL_law_1185 ⟨(show cells + 1 + 0 ≤ 1033879 by omega), (show slots + 6 + 0 ≤ 5994467 by omega)⟩) hw hA rp_87 (fun H locs hw => ?_)
  refine lv_istore (lv' := [(6, .int 0), (5, .int 1), (0, .ref b), (1, .ref x), (2, .ref (M 0)), (3, .ref o), (4, .int (nI i))]) hx hb dL_law_1188 hl (by decide) rfl (fun ls hl => ?_)
  refine lv_aload_n hx hb dL_law_1190 rfl (lv_at hl 4 rfl) ?_
  refine kr_i (ws' := wX x A T B ++ wC E A (B 0) S ++ wC E T (B 0) U ++ wG E B G ++ [(o, aJ E 1 f)] ++ wN E M (1, Hb, a, k)) (va_runV (As := []) (rest := []) ⟨hx, hb, hml, hown, hts⟩ (c_X3_thrown l E M 1 Hb a k  _) (cwV 0 hts gL_law_X3_thrown rfl rfl rfl ⟨rfl, hd_X3_thrown⟩ ⟨Nat.le_of_ble_eq_true rfl, Nat.le_of_ble_eq_true rfl⟩) (pwV (ci := 3) (q0 := 22) (C := RX3) hw hK rfl rfl rfl (rpS (AV := [.ref (M 0)]) hw hK hG rp_88)) rfl rfl hl.1 rfl (lv_room (Nat.le_of_ble_eq_true rfl)) dL_law_1191 ⟨(show cells + 1 + 0 ≤ 1033879 by omega), (show slots + 6 + 0 ≤ 5994467 by omega)⟩) hw hA rp_88 (fun H locs hw => ?_)
  refine lv_iload hx hb dL_law_1194 (lv_at hl 1 rfl) ?_
  refine lv_icmp_eq (tgt := 1201) hx hb dL_law_1196 (by decide) (fun _ => ?_) (fun q8 => absurd (by decide) q8)
  refine lv_iload hx hb dL_law_1201 (lv_at hl 1 rfl) ?_
  refine lv_if_ne (tgt := 1218) hx hb dL_law_1203 (by decide) (fun _ => ?_) (fun q8 => absurd q8 (by decide))
  refine lv_goto (tgt := 2161) hx hb dL_law_1218 (by decide) ?_
  refine W.widen (k := cells + 30) (n := slots + 200) (show cells + 1 ≤ cells + 30 by omega) (show slots + 6 ≤ slots + 200 by omega) ?_
  exact kk U f 1 k _ _ _ hw (lv_sub hl [2, 3, 4, 5, 6] rfl)

set_option maxHeartbeats 4000000 in
set_option maxRecDepth 100000 in
theorem la_voters_ {p9 : Program} {l : Launch} {e : Env} {s9 : State} {m : MethodId} {below : List Frame} {meth : Method} {c : Code} {b L : Nat} {xs : Nat → Int32} (C0 : lw_At p9 s9 m meth c b L xs) (hflags : l.stackTraces = false) (hL : L ≤ 2048) (E : Ev) (hK : va_K E.1 vwCl (tysE E) s9) (hG : Gx s9) (hZ : Zx (aL s9) s9 s9.heap) {Q : State → Prop} (x o : Nat) (A T B M : Nat → Nat) (S U : CS) (G : HS) (th : Int32) (Hb : MH) (a k : Fn) (f : Nat → Int64) (i cells slots : Nat) (hi : i + 4 ≤ L) (n1 : Nat) (e1 : xs (i + 1) = nI n1) (hy0 : t_ship G (nI n1) = 0) (hy1 : n_ns Hb ≤ 5) (hy2 : n_np Hb ≤ 16) (hy3 : n_nw Hb ≤ 4) (hy4 : ∀ p, p < n_np Hb → n_so Hb p < 5) (hy5 : n1 < n_ns Hb) (hy6 : (f_voters G (nI n1) : Int32).toInt64 = (l_mvo Hb a n1 false (n_np Hb) : Int32).toInt64) (hc9 : cells + 30 ≤ 1033879) (hs9 : slots + 200 ≤ 5994467) (kk : ∀ (U1 : CS) (f1 : Nat → Int64) (t1 : Int32) (k1 : Fn) (H : Heap) (locs : List Loc) (ls : Array Slot), Wd E (aL s9) s9.heap (wX x A T B ++ wC E A (B 0) S ++ wC E T (B 0) U1 ++ wG E B G ++ [(o, aJ E 1 f1)] ++ wN E M (t1, Hb, a, k1)) H locs → lv_has ls 9 [(0, .ref b), (1, .ref x), (2, .ref (M 0)), (3, .ref o), (4, .int (nI i))] → W p9 l e room_1 s9 m #[Value.ref b] below meth c H locs (cells + 30) (slots + 200) Q (F0 m 2161 ls [])) {H : Heap} {locs : List Loc} {ls : Array Slot} (hw : Wd E (aL s9) s9.heap (wX x A T B ++ wC E A (B 0) S ++ wC E T (B 0) U ++ wG E B G ++ [(o, aJ E 1 f)] ++ wN E M (th, Hb, a, k)) H locs) (hl : lv_has ls 9 [(0, .ref b), (1, .ref x), (2, .ref (M 0)), (3, .ref o), (4, .int (nI i))]) : W p9 l e room_1 s9 m #[Value.ref b] below meth c H locs cells slots Q (F0 m 1165 ls []) := by
  obtain ⟨hx, hb, hr, hml, hown, hts0, hX, hbl, hlocks, hgv⟩ := C0
  have hts : ∀ w ∈ wsL_law, w.before #[Value.ref b] s9 = true := fun w h => hts0 w (wsL_law_in w h)
  have hown : s9.vm.findClass RL = some m.cls := hown
  have hA : ∀ q, s9.heap.size ≤ q → aL s9 q := fun _ h => h
  refine lv_aload_n hx hb dL_law_1165 rfl (lv_at hl 1 rfl) ?_
  refine lv_aload_n hx hb dL_law_1166 rfl (lv_at hl 0 rfl) ?_
  refine lv_iload hx hb dL_law_1167 (lv_at hl 4 rfl) ?_
  refine lv_iconst (v := 1) hx hb dL_law_1169 (by decide) ?_
  refine k_iaddN (a := i) (b := 1) hx hb dL_law_1170 ?_
  refine k_sldv (i := i + 1) (v := nI n1) hx hb hX hbl hw (by omega) (by omega) e1 dL_law_1171 ?_
  refine lv_aload_n hx hb dL_law_1172 rfl (lv_at hl 3 rfl) ?_
  refine krx_i (ws' := wX x A T B ++ wC E A (B 0) S ++ wC E T (B 0) U ++ wG E B G ++ [(o, aJ E 1 (vp_updL f 0 ((f_voters G (nI n1) : Int32).toInt64)))] ++ wN E M (th, Hb, a, k)) (vx_runSX (As := [.ref x, .int (nI n1), .ref o]) (rest := []) ⟨hx, hb, hml, hown, hts⟩ (c_L_voters l hflags E x A T B S U G (nI n1) o f hy0 _) (vx_cwSW 3 hts gL_law_L_voters rfl rfl rfl hd_L_voters ⟨Nat.le_of_ble_eq_true rfl, Nat.le_of_ble_eq_true rfl⟩) (rpX (AV := [.ref x, .int (nI n1), .ref o]) hw hK hG hZ hA rp_86) rfl rfl hl.1 rfl (lv_room (Nat.le_of_ble_eq_true rfl)) dL_law_1173 ⟨(show cells + 1 ≤ 1033879 by omega), (show slots + 6 ≤ 5994467 by omega)⟩) hw hA rp_93 rp_86 (fun H locs ce9 q9 t_1 hw hy1 hy2 hy3 => absurd rfl t_1) (fun H locs t_1 hw => ?_)
  refine lv_istore (lv' := [(5, .int 0), (0, .ref b), (1, .ref x), (2, .ref (M 0)), (3, .ref o), (4, .int (nI i))]) hx hb dL_law_1176 hl (by decide) rfl (fun ls hl => ?_)
  refine lv_aload_n hx hb dL_law_1178 rfl (lv_at hl 3 rfl) ?_
  refine lv_aload_n hx hb dL_law_1179 rfl (lv_at hl 1 rfl) ?_
  refine lv_iload hx hb dL_law_1180 (lv_at hl 5 rfl) ?_
  refine lv_iconst (v := 1) hx hb dL_law_1182 (by decide) ?_
  refine k_iaddN (a := i) (b := 1) hx hb dL_law_1183 ?_
  refine k_sldv (i := i + 1) (v := nI n1) hx hb hX hbl hw (by omega) (by omega) e1 dL_law_1184 ?_
  refine kr_i (ws' := wX x A T B ++ wC E A (B 0) S ++ wC E T (B 0) U ++ wG E B G ++ [(o, aJ E 1 (vp_updL f 0 ((f_voters G (nI n1) : Int32).toInt64)))] ++ wN E M (0, Hb, a, k)) (va_runV (As := [.int (nI n1)]) (rest := []) ⟨hx, hb, hml, hown, hts⟩ (c_X3_voters_ l E M th Hb a k n1 hy1 hy2 hy3 hy4 hy5 _) (cwV 1 hts gL_law_X3_voters_ rfl rfl rfl ⟨rfl, hd_X3_voters_⟩ ⟨Nat.le_of_ble_eq_true rfl, Nat.le_of_ble_eq_true rfl⟩) (pwV (ci := 3) (q0 := 22) (C := RX3) hw hK rfl rfl rfl (rpS (AV := [.ref (M 0), .int (nI n1)]) hw hK hG rp_88)) rfl rfl hl.1 rfl (lv_room (Nat.le_of_ble_eq_true rfl)) dL_law_1185 ⟨(show cells + 1 + 0 ≤ 1033879 by omega), (show slots + 6 + 0 ≤ 5994467 by omega)⟩) hw hA rp_87 (fun H locs hw => ?_)
  refine lv_istore (lv' := [(6, .int (l_mvo Hb a n1 false (n_np Hb))), (5, .int 0), (0, .ref b), (1, .ref x), (2, .ref (M 0)), (3, .ref o), (4, .int (nI i))]) hx hb dL_law_1188 hl (by decide) rfl (fun ls hl => ?_)
  refine lv_aload_n hx hb dL_law_1190 rfl (lv_at hl 4 rfl) ?_
  refine kr_i (ws' := wX x A T B ++ wC E A (B 0) S ++ wC E T (B 0) U ++ wG E B G ++ [(o, aJ E 1 (vp_updL f 0 ((f_voters G (nI n1) : Int32).toInt64)))] ++ wN E M (0, Hb, a, k)) (va_runV (As := []) (rest := []) ⟨hx, hb, hml, hown, hts⟩ (c_X3_thrown l E M 0 Hb a k  _) (cwV 0 hts gL_law_X3_thrown rfl rfl rfl ⟨rfl, hd_X3_thrown⟩ ⟨Nat.le_of_ble_eq_true rfl, Nat.le_of_ble_eq_true rfl⟩) (pwV (ci := 3) (q0 := 22) (C := RX3) hw hK rfl rfl rfl (rpS (AV := [.ref (M 0)]) hw hK hG rp_88)) rfl rfl hl.1 rfl (lv_room (Nat.le_of_ble_eq_true rfl)) dL_law_1191 ⟨(show cells + 1 + 0 ≤ 1033879 by omega), (show slots + 6 + 0 ≤ 5994467 by omega)⟩) hw hA rp_88 (fun H locs hw => ?_)
  refine lv_iload hx hb dL_law_1194 (lv_at hl 1 rfl) ?_
  refine lv_icmp_eq (tgt := 1201) hx hb dL_law_1196 (by decide) (fun _ => ?_) (fun q8 => absurd (by decide) q8)
  refine lv_iload hx hb dL_law_1201 (lv_at hl 1 rfl) ?_
  refine lv_if_ne (tgt := 1218) hx hb dL_law_1203 (by decide) (fun q8 => absurd (by decide) q8) (fun _ => ?_)
  refine lv_aload_n hx hb dL_law_1206 rfl (lv_at hl 5 rfl) ?_
  refine lv_iconst (v := 0) hx hb dL_law_1207 (by decide) ?_
  refine k_lld (v := (vp_updL f 0 ((f_voters G (nI n1) : Int32).toInt64)) 0) hx hb hK hw 21 rfl (vp_in_nI (n := 0) (N := 1) (by decide) (by decide)) rfl dL_law_1208 ?_
  refine lv_iload hx hb dL_law_1209 (lv_at hl 0 rfl) ?_
  refine lv_i2l (v := (l_mvo Hb a n1 false (n_np Hb) : Int32).toInt64) hx hb dL_law_1211 rfl ?_
  refine k_lcmpE hx hb dL_law_1212 (pk_uLs.trans hy6) ?_
  refine lv_if_eq (tgt := 1218) hx hb dL_law_1213 (by decide) (fun _ => ?_) (fun q8 => absurd (by decide) q8)
  refine lv_goto (tgt := 2161) hx hb dL_law_1218 (by decide) ?_
  refine W.widen (k := cells + 30) (n := slots + 200) (show cells + 1 ≤ cells + 30 by omega) (show slots + 6 ≤ slots + 200 by omega) ?_
  exact kk U (vp_updL f 0 ((f_voters G (nI n1) : Int32).toInt64)) 0 k _ _ _ hw (lv_sub hl [2, 3, 4, 5, 6] rfl)

set_option maxHeartbeats 4000000 in
set_option maxRecDepth 100000 in
theorem la_votesForLost_1 {p9 : Program} {l : Launch} {e : Env} {s9 : State} {m : MethodId} {below : List Frame} {meth : Method} {c : Code} {b L : Nat} {xs : Nat → Int32} (C0 : lw_At p9 s9 m meth c b L xs) (hflags : l.stackTraces = false) (hL : L ≤ 2048) (E : Ev) (hK : va_K E.1 vwCl (tysE E) s9) (hG : Gx s9) (hZ : Zx (aL s9) s9 s9.heap) {Q : State → Prop} (x o : Nat) (A T B M : Nat → Nat) (S U : CS) (G : HS) (th : Int32) (Hb : MH) (a k : Fn) (f : Nat → Int64) (i cells slots : Nat) (hi : i + 4 ≤ L) (z1 : Int32) (e1 : xs (i + 1) = z1) (hy0 : t_ship G z1 = 1) (hy1 : n_ns Hb ≤ 5) (hy2 : n_np Hb ≤ 16) (hy3 : n_nw Hb ≤ 4) (hy4 : ∀ p, p < n_np Hb → n_so Hb p < 5) (hy5 : d_in z1 0 (nI (n_ns Hb) - 1) = false) (hc9 : cells + 30 ≤ 1033879) (hs9 : slots + 200 ≤ 5994467) (kk : ∀ (U1 : CS) (f1 : Nat → Int64) (t1 : Int32) (k1 : Fn) (H : Heap) (locs : List Loc) (ls : Array Slot), Wd E (aL s9) s9.heap (wX x A T B ++ wC E A (B 0) S ++ wC E T (B 0) U1 ++ wG E B G ++ [(o, aJ E 1 f1)] ++ wN E M (t1, Hb, a, k1)) H locs → lv_has ls 9 [(0, .ref b), (1, .ref x), (2, .ref (M 0)), (3, .ref o), (4, .int (nI i))] → W p9 l e room_1 s9 m #[Value.ref b] below meth c H locs (cells + 30) (slots + 200) Q (F0 m 2161 ls [])) {H : Heap} {locs : List Loc} {ls : Array Slot} (hw : Wd E (aL s9) s9.heap (wX x A T B ++ wC E A (B 0) S ++ wC E T (B 0) U ++ wG E B G ++ [(o, aJ E 1 f)] ++ wN E M (th, Hb, a, k)) H locs) (hl : lv_has ls 9 [(0, .ref b), (1, .ref x), (2, .ref (M 0)), (3, .ref o), (4, .int (nI i))]) : W p9 l e room_1 s9 m #[Value.ref b] below meth c H locs cells slots Q (F0 m 1221 ls []) := by
  obtain ⟨hx, hb, hr, hml, hown, hts0, hX, hbl, hlocks, hgv⟩ := C0
  have hts : ∀ w ∈ wsL_law, w.before #[Value.ref b] s9 = true := fun w h => hts0 w (wsL_law_in w h)
  have hown : s9.vm.findClass RL = some m.cls := hown
  have hA : ∀ q, s9.heap.size ≤ q → aL s9 q := fun _ h => h
  refine lv_aload_n hx hb dL_law_1221 rfl (lv_at hl 1 rfl) ?_
  refine lv_aload_n hx hb dL_law_1222 rfl (lv_at hl 0 rfl) ?_
  refine lv_iload hx hb dL_law_1223 (lv_at hl 4 rfl) ?_
  refine lv_iconst (v := 1) hx hb dL_law_1225 (by decide) ?_
  refine k_iaddN (a := i) (b := 1) hx hb dL_law_1226 ?_
  refine k_sldv (i := i + 1) (v := z1) hx hb hX hbl hw (by omega) (by omega) e1 dL_law_1227 ?_
  refine lv_aload_n hx hb dL_law_1228 rfl (lv_at hl 3 rfl) ?_
  refine krx_i (ws' := wX x A T B ++ wC E A (B 0) S ++ wC E T (B 0) U ++ wG E B G ++ [(o, aJ E 1 f)] ++ wN E M (th, Hb, a, k)) (vx_runSX (As := [.ref x, .int z1, .ref o]) (rest := []) ⟨hx, hb, hml, hown, hts⟩ (c_L_votesForLost_1 l hflags E x A T B S U G z1 o f hy0 _) (vx_cwSW 3 hts gL_law_L_votesForLost rfl rfl rfl hd_L_votesForLost ⟨Nat.le_of_ble_eq_true rfl, Nat.le_of_ble_eq_true rfl⟩) (rpX (AV := [.ref x, .int z1, .ref o]) hw hK hG hZ hA rp_86) rfl rfl hl.1 rfl (lv_room (Nat.le_of_ble_eq_true rfl)) dL_law_1229 ⟨(show cells + 1 ≤ 1033879 by omega), (show slots + 6 ≤ 5994467 by omega)⟩) hw hA rp_86 rp_86 (fun H locs ce9 q9 t_1 hw hy1 hy2 hy3 => absurd rfl t_1) (fun H locs t_1 hw => ?_)
  refine lv_istore (lv' := [(5, .int 1), (0, .ref b), (1, .ref x), (2, .ref (M 0)), (3, .ref o), (4, .int (nI i))]) hx hb dL_law_1232 hl (by decide) rfl (fun ls hl => ?_)
  refine lv_aload_n hx hb dL_law_1234 rfl (lv_at hl 3 rfl) ?_
  refine lv_aload_n hx hb dL_law_1235 rfl (lv_at hl 1 rfl) ?_
  refine lv_iload hx hb dL_law_1236 (lv_at hl 5 rfl) ?_
  refine lv_iconst (v := 1) hx hb dL_law_1238 (by decide) ?_
  refine k_iaddN (a := i) (b := 1) hx hb dL_law_1239 ?_
  refine k_sldv (i := i + 1) (v := z1) hx hb hX hbl hw (by omega) (by omega) e1 dL_law_1240 ?_
  refine kr_i (ws' := wX x A T B ++ wC E A (B 0) S ++ wC E T (B 0) U ++ wG E B G ++ [(o, aJ E 1 f)] ++ wN E M (1, Hb, a, k)) (va_runV (As := [.int z1]) (rest := []) ⟨hx, hb, hml, hown, hts⟩ (c_X3_votesForLost_1 l E M th Hb a k z1 hy1 hy2 hy3 hy4 hy5 _) (cwV 1 hts gL_law_X3_votesForLost rfl rfl rfl ⟨rfl, hd_X3_votesForLost⟩ ⟨Nat.le_of_ble_eq_true rfl, Nat.le_of_ble_eq_true rfl⟩) (pwV (ci := 3) (q0 := 22) (C := RX3) hw hK rfl rfl rfl (rpS (AV := [.ref (M 0), .int z1]) hw hK hG rp_88)) rfl rfl hl.1 rfl (lv_room (Nat.le_of_ble_eq_true rfl)) dL_law_1241 ⟨(show cells + 1 + 0 ≤ 1033879 by omega), (show slots + 6 + 0 ≤ 5994467 by omega)⟩) hw hA rp_87 (fun H locs hw => ?_)
  refine lv_istore (lv' := [(6, .int 0), (5, .int 1), (0, .ref b), (1, .ref x), (2, .ref (M 0)), (3, .ref o), (4, .int (nI i))]) hx hb dL_law_1244 hl (by decide) rfl (fun ls hl => ?_)
  refine lv_aload_n hx hb dL_law_1246 rfl (lv_at hl 4 rfl) ?_
  refine kr_i (ws' := wX x A T B ++ wC E A (B 0) S ++ wC E T (B 0) U ++ wG E B G ++ [(o, aJ E 1 f)] ++ wN E M (1, Hb, a, k)) (va_runV (As := []) (rest := []) ⟨hx, hb, hml, hown, hts⟩ (c_X3_thrown l E M 1 Hb a k  _) (cwV 0 hts gL_law_X3_thrown rfl rfl rfl ⟨rfl, hd_X3_thrown⟩ ⟨Nat.le_of_ble_eq_true rfl, Nat.le_of_ble_eq_true rfl⟩) (pwV (ci := 3) (q0 := 22) (C := RX3) hw hK rfl rfl rfl (rpS (AV := [.ref (M 0)]) hw hK hG rp_88)) rfl rfl hl.1 rfl (lv_room (Nat.le_of_ble_eq_true rfl)) dL_law_1247 ⟨(show cells + 1 + 0 ≤ 1033879 by omega), (show slots + 6 + 0 ≤ 5994467 by omega)⟩) hw hA rp_88 (fun H locs hw => ?_)
  refine lv_iload hx hb dL_law_1250 (lv_at hl 1 rfl) ?_
  refine lv_icmp_eq (tgt := 1257) hx hb dL_law_1252 (by decide) (fun _ => ?_) (fun q8 => absurd (by decide) q8)
  refine lv_iload hx hb dL_law_1257 (lv_at hl 1 rfl) ?_
  refine lv_if_ne (tgt := 1274) hx hb dL_law_1259 (by decide) (fun _ => ?_) (fun q8 => absurd q8 (by decide))
  refine lv_goto (tgt := 2161) hx hb dL_law_1274 (by decide) ?_
  refine W.widen (k := cells + 30) (n := slots + 200) (show cells + 1 ≤ cells + 30 by omega) (show slots + 6 ≤ slots + 200 by omega) ?_
  exact kk U f 1 k _ _ _ hw (lv_sub hl [2, 3, 4, 5, 6] rfl)

set_option maxHeartbeats 4000000 in
set_option maxRecDepth 100000 in
theorem la_votesForLost {p9 : Program} {l : Launch} {e : Env} {s9 : State} {m : MethodId} {below : List Frame} {meth : Method} {c : Code} {b L : Nat} {xs : Nat → Int32} (C0 : lw_At p9 s9 m meth c b L xs) (hflags : l.stackTraces = false) (hL : L ≤ 2048) (E : Ev) (hK : va_K E.1 vwCl (tysE E) s9) (hG : Gx s9) (hZ : Zx (aL s9) s9 s9.heap) {Q : State → Prop} (x o : Nat) (A T B M : Nat → Nat) (S U : CS) (G : HS) (th : Int32) (Hb : MH) (a k : Fn) (f : Nat → Int64) (i cells slots : Nat) (hi : i + 4 ≤ L) (n1 : Nat) (e1 : xs (i + 1) = nI n1) (hy0 : t_ship G (nI n1) = 0) (hy1 : n_ns Hb ≤ 5) (hy2 : n_np Hb ≤ 16) (hy3 : n_nw Hb ≤ 4) (hy4 : ∀ p, p < n_np Hb → n_so Hb p < 5) (hy5 : n1 < n_ns Hb) (hy6 : (f_votes G (nI n1) : Int32).toInt64 = (l_mvo Hb a n1 true (n_np Hb) : Int32).toInt64) (hc9 : cells + 30 ≤ 1033879) (hs9 : slots + 200 ≤ 5994467) (kk : ∀ (U1 : CS) (f1 : Nat → Int64) (t1 : Int32) (k1 : Fn) (H : Heap) (locs : List Loc) (ls : Array Slot), Wd E (aL s9) s9.heap (wX x A T B ++ wC E A (B 0) S ++ wC E T (B 0) U1 ++ wG E B G ++ [(o, aJ E 1 f1)] ++ wN E M (t1, Hb, a, k1)) H locs → lv_has ls 9 [(0, .ref b), (1, .ref x), (2, .ref (M 0)), (3, .ref o), (4, .int (nI i))] → W p9 l e room_1 s9 m #[Value.ref b] below meth c H locs (cells + 30) (slots + 200) Q (F0 m 2161 ls [])) {H : Heap} {locs : List Loc} {ls : Array Slot} (hw : Wd E (aL s9) s9.heap (wX x A T B ++ wC E A (B 0) S ++ wC E T (B 0) U ++ wG E B G ++ [(o, aJ E 1 f)] ++ wN E M (th, Hb, a, k)) H locs) (hl : lv_has ls 9 [(0, .ref b), (1, .ref x), (2, .ref (M 0)), (3, .ref o), (4, .int (nI i))]) : W p9 l e room_1 s9 m #[Value.ref b] below meth c H locs cells slots Q (F0 m 1221 ls []) := by
  obtain ⟨hx, hb, hr, hml, hown, hts0, hX, hbl, hlocks, hgv⟩ := C0
  have hts : ∀ w ∈ wsL_law, w.before #[Value.ref b] s9 = true := fun w h => hts0 w (wsL_law_in w h)
  have hown : s9.vm.findClass RL = some m.cls := hown
  have hA : ∀ q, s9.heap.size ≤ q → aL s9 q := fun _ h => h
  refine lv_aload_n hx hb dL_law_1221 rfl (lv_at hl 1 rfl) ?_
  refine lv_aload_n hx hb dL_law_1222 rfl (lv_at hl 0 rfl) ?_
  refine lv_iload hx hb dL_law_1223 (lv_at hl 4 rfl) ?_
  refine lv_iconst (v := 1) hx hb dL_law_1225 (by decide) ?_
  refine k_iaddN (a := i) (b := 1) hx hb dL_law_1226 ?_
  refine k_sldv (i := i + 1) (v := nI n1) hx hb hX hbl hw (by omega) (by omega) e1 dL_law_1227 ?_
  refine lv_aload_n hx hb dL_law_1228 rfl (lv_at hl 3 rfl) ?_
  refine krx_i (ws' := wX x A T B ++ wC E A (B 0) S ++ wC E T (B 0) U ++ wG E B G ++ [(o, aJ E 1 (vp_updL f 0 ((f_votes G (nI n1) : Int32).toInt64)))] ++ wN E M (th, Hb, a, k)) (vx_runSX (As := [.ref x, .int (nI n1), .ref o]) (rest := []) ⟨hx, hb, hml, hown, hts⟩ (c_L_votesForLost l hflags E x A T B S U G (nI n1) o f hy0 _) (vx_cwSW 3 hts gL_law_L_votesForLost rfl rfl rfl hd_L_votesForLost ⟨Nat.le_of_ble_eq_true rfl, Nat.le_of_ble_eq_true rfl⟩) (rpX (AV := [.ref x, .int (nI n1), .ref o]) hw hK hG hZ hA rp_86) rfl rfl hl.1 rfl (lv_room (Nat.le_of_ble_eq_true rfl)) dL_law_1229 ⟨(show cells + 1 ≤ 1033879 by omega), (show slots + 6 ≤ 5994467 by omega)⟩) hw hA rp_93 rp_86 (fun H locs ce9 q9 t_1 hw hy1 hy2 hy3 => absurd rfl t_1) (fun H locs t_1 hw => ?_)
  refine lv_istore (lv' := [(5, .int 0), (0, .ref b), (1, .ref x), (2, .ref (M 0)), (3, .ref o), (4, .int (nI i))]) hx hb dL_law_1232 hl (by decide) rfl (fun ls hl => ?_)
  refine lv_aload_n hx hb dL_law_1234 rfl (lv_at hl 3 rfl) ?_
  refine lv_aload_n hx hb dL_law_1235 rfl (lv_at hl 1 rfl) ?_
  refine lv_iload hx hb dL_law_1236 (lv_at hl 5 rfl) ?_
  refine lv_iconst (v := 1) hx hb dL_law_1238 (by decide) ?_
  refine k_iaddN (a := i) (b := 1) hx hb dL_law_1239 ?_
  refine k_sldv (i := i + 1) (v := nI n1) hx hb hX hbl hw (by omega) (by omega) e1 dL_law_1240 ?_
  refine kr_i (ws' := wX x A T B ++ wC E A (B 0) S ++ wC E T (B 0) U ++ wG E B G ++ [(o, aJ E 1 (vp_updL f 0 ((f_votes G (nI n1) : Int32).toInt64)))] ++ wN E M (0, Hb, a, k)) (va_runV (As := [.int (nI n1)]) (rest := []) ⟨hx, hb, hml, hown, hts⟩ (c_X3_votesForLost l E M th Hb a k n1 hy1 hy2 hy3 hy4 hy5 _) (cwV 1 hts gL_law_X3_votesForLost rfl rfl rfl ⟨rfl, hd_X3_votesForLost⟩ ⟨Nat.le_of_ble_eq_true rfl, Nat.le_of_ble_eq_true rfl⟩) (pwV (ci := 3) (q0 := 22) (C := RX3) hw hK rfl rfl rfl (rpS (AV := [.ref (M 0), .int (nI n1)]) hw hK hG rp_88)) rfl rfl hl.1 rfl (lv_room (Nat.le_of_ble_eq_true rfl)) dL_law_1241 ⟨(show cells + 1 + 0 ≤ 1033879 by omega), (show slots + 6 + 0 ≤ 5994467 by omega)⟩) hw hA rp_87 (fun H locs hw => ?_)
  refine lv_istore (lv' := [(6, .int (l_mvo Hb a n1 true (n_np Hb))), (5, .int 0), (0, .ref b), (1, .ref x), (2, .ref (M 0)), (3, .ref o), (4, .int (nI i))]) hx hb dL_law_1244 hl (by decide) rfl (fun ls hl => ?_)
  refine lv_aload_n hx hb dL_law_1246 rfl (lv_at hl 4 rfl) ?_
  refine kr_i (ws' := wX x A T B ++ wC E A (B 0) S ++ wC E T (B 0) U ++ wG E B G ++ [(o, aJ E 1 (vp_updL f 0 ((f_votes G (nI n1) : Int32).toInt64)))] ++ wN E M (0, Hb, a, k)) (va_runV (As := []) (rest := []) ⟨hx, hb, hml, hown, hts⟩ (c_X3_thrown l E M 0 Hb a k  _) (cwV 0 hts gL_law_X3_thrown rfl rfl rfl ⟨rfl, hd_X3_thrown⟩ ⟨Nat.le_of_ble_eq_true rfl, Nat.le_of_ble_eq_true rfl⟩) (pwV (ci := 3) (q0 := 22) (C := RX3) hw hK rfl rfl rfl (rpS (AV := [.ref (M 0)]) hw hK hG rp_88)) rfl rfl hl.1 rfl (lv_room (Nat.le_of_ble_eq_true rfl)) dL_law_1247 ⟨(show cells + 1 + 0 ≤ 1033879 by omega), (show slots + 6 + 0 ≤ 5994467 by omega)⟩) hw hA rp_88 (fun H locs hw => ?_)
  refine lv_iload hx hb dL_law_1250 (lv_at hl 1 rfl) ?_
  refine lv_icmp_eq (tgt := 1257) hx hb dL_law_1252 (by decide) (fun _ => ?_) (fun q8 => absurd (by decide) q8)
  refine lv_iload hx hb dL_law_1257 (lv_at hl 1 rfl) ?_
  refine lv_if_ne (tgt := 1274) hx hb dL_law_1259 (by decide) (fun q8 => absurd (by decide) q8) (fun _ => ?_)
  refine lv_aload_n hx hb dL_law_1262 rfl (lv_at hl 5 rfl) ?_
  refine lv_iconst (v := 0) hx hb dL_law_1263 (by decide) ?_
  refine k_lld (v := (vp_updL f 0 ((f_votes G (nI n1) : Int32).toInt64)) 0) hx hb hK hw 21 rfl (vp_in_nI (n := 0) (N := 1) (by decide) (by decide)) rfl dL_law_1264 ?_
  refine lv_iload hx hb dL_law_1265 (lv_at hl 0 rfl) ?_
  refine lv_i2l (v := (l_mvo Hb a n1 true (n_np Hb) : Int32).toInt64) hx hb dL_law_1267 rfl ?_
  refine k_lcmpE hx hb dL_law_1268 (pk_uLs.trans hy6) ?_
  refine lv_if_eq (tgt := 1274) hx hb dL_law_1269 (by decide) (fun _ => ?_) (fun q8 => absurd (by decide) q8)
  refine lv_goto (tgt := 2161) hx hb dL_law_1274 (by decide) ?_
  refine W.widen (k := cells + 30) (n := slots + 200) (show cells + 1 ≤ cells + 30 by omega) (show slots + 6 ≤ slots + 200 by omega) ?_
  exact kk U (vp_updL f 0 ((f_votes G (nI n1) : Int32).toInt64)) 0 k _ _ _ hw (lv_sub hl [2, 3, 4, 5, 6] rfl)

set_option maxHeartbeats 4000000 in
set_option maxRecDepth 100000 in
theorem la_votesMissing_1 {p9 : Program} {l : Launch} {e : Env} {s9 : State} {m : MethodId} {below : List Frame} {meth : Method} {c : Code} {b L : Nat} {xs : Nat → Int32} (C0 : lw_At p9 s9 m meth c b L xs) (hflags : l.stackTraces = false) (hL : L ≤ 2048) (E : Ev) (hK : va_K E.1 vwCl (tysE E) s9) (hG : Gx s9) (hZ : Zx (aL s9) s9 s9.heap) {Q : State → Prop} (x o : Nat) (A T B M : Nat → Nat) (S U : CS) (G : HS) (th : Int32) (Hb : MH) (a k : Fn) (f : Nat → Int64) (i cells slots : Nat) (hi : i + 4 ≤ L) (z1 : Int32) (e1 : xs (i + 1) = z1) (hy0 : t_ship G z1 = 1) (hy1 : n_ns Hb ≤ 5) (hy2 : n_np Hb ≤ 16) (hy3 : n_nw Hb ≤ 4) (hy4 : ∀ p, p < n_np Hb → n_so Hb p < 5) (hy5 : d_in z1 0 (nI (n_ns Hb) - 1) = false) (hc9 : cells + 30 ≤ 1033879) (hs9 : slots + 200 ≤ 5994467) (kk : ∀ (U1 : CS) (f1 : Nat → Int64) (t1 : Int32) (k1 : Fn) (H : Heap) (locs : List Loc) (ls : Array Slot), Wd E (aL s9) s9.heap (wX x A T B ++ wC E A (B 0) S ++ wC E T (B 0) U1 ++ wG E B G ++ [(o, aJ E 1 f1)] ++ wN E M (t1, Hb, a, k1)) H locs → lv_has ls 9 [(0, .ref b), (1, .ref x), (2, .ref (M 0)), (3, .ref o), (4, .int (nI i))] → W p9 l e room_1 s9 m #[Value.ref b] below meth c H locs (cells + 30) (slots + 200) Q (F0 m 2161 ls [])) {H : Heap} {locs : List Loc} {ls : Array Slot} (hw : Wd E (aL s9) s9.heap (wX x A T B ++ wC E A (B 0) S ++ wC E T (B 0) U ++ wG E B G ++ [(o, aJ E 1 f)] ++ wN E M (th, Hb, a, k)) H locs) (hl : lv_has ls 9 [(0, .ref b), (1, .ref x), (2, .ref (M 0)), (3, .ref o), (4, .int (nI i))]) : W p9 l e room_1 s9 m #[Value.ref b] below meth c H locs cells slots Q (F0 m 1277 ls []) := by
  obtain ⟨hx, hb, hr, hml, hown, hts0, hX, hbl, hlocks, hgv⟩ := C0
  have hts : ∀ w ∈ wsL_law, w.before #[Value.ref b] s9 = true := fun w h => hts0 w (wsL_law_in w h)
  have hown : s9.vm.findClass RL = some m.cls := hown
  have hA : ∀ q, s9.heap.size ≤ q → aL s9 q := fun _ h => h
  refine lv_aload_n hx hb dL_law_1277 rfl (lv_at hl 1 rfl) ?_
  refine lv_aload_n hx hb dL_law_1278 rfl (lv_at hl 0 rfl) ?_
  refine lv_iload hx hb dL_law_1279 (lv_at hl 4 rfl) ?_
  refine lv_iconst (v := 1) hx hb dL_law_1281 (by decide) ?_
  refine k_iaddN (a := i) (b := 1) hx hb dL_law_1282 ?_
  refine k_sldv (i := i + 1) (v := z1) hx hb hX hbl hw (by omega) (by omega) e1 dL_law_1283 ?_
  refine lv_aload_n hx hb dL_law_1284 rfl (lv_at hl 3 rfl) ?_
  refine krx_i (ws' := wX x A T B ++ wC E A (B 0) S ++ wC E T (B 0) U ++ wG E B G ++ [(o, aJ E 1 f)] ++ wN E M (th, Hb, a, k)) (vx_runSX (As := [.ref x, .int z1, .ref o]) (rest := []) ⟨hx, hb, hml, hown, hts⟩ (c_L_votesMissing_1 l hflags E x A T B S U G z1 o f hy0 _) (vx_cwSW 3 hts gL_law_L_votesMissing rfl rfl rfl hd_L_votesMissing ⟨Nat.le_of_ble_eq_true rfl, Nat.le_of_ble_eq_true rfl⟩) (rpX (AV := [.ref x, .int z1, .ref o]) hw hK hG hZ hA rp_86) rfl rfl hl.1 rfl (lv_room (Nat.le_of_ble_eq_true rfl)) dL_law_1285 ⟨(show cells + 1 ≤ 1033879 by omega), (show slots + 6 ≤ 5994467 by omega)⟩) hw hA rp_86 rp_86 (fun H locs ce9 q9 t_1 hw hy1 hy2 hy3 => absurd rfl t_1) (fun H locs t_1 hw => ?_)
  refine lv_istore (lv' := [(5, .int 1), (0, .ref b), (1, .ref x), (2, .ref (M 0)), (3, .ref o), (4, .int (nI i))]) hx hb dL_law_1288 hl (by decide) rfl (fun ls hl => ?_)
  refine lv_aload_n hx hb dL_law_1290 rfl (lv_at hl 3 rfl) ?_
  refine lv_aload_n hx hb dL_law_1291 rfl (lv_at hl 1 rfl) ?_
  refine lv_iload hx hb dL_law_1292 (lv_at hl 5 rfl) ?_
  refine lv_iconst (v := 1) hx hb dL_law_1294 (by decide) ?_
  refine k_iaddN (a := i) (b := 1) hx hb dL_law_1295 ?_
  refine k_sldv (i := i + 1) (v := z1) hx hb hX hbl hw (by omega) (by omega) e1 dL_law_1296 ?_
  refine kr_i (ws' := wX x A T B ++ wC E A (B 0) S ++ wC E T (B 0) U ++ wG E B G ++ [(o, aJ E 1 f)] ++ wN E M (1, Hb, a, k)) (va_runV (As := [.int z1]) (rest := []) ⟨hx, hb, hml, hown, hts⟩ (c_X3_votesMissing_1 l E M th Hb a k z1 hy1 hy2 hy3 hy4 hy5 _) (cwV 1 hts gL_law_X3_votesMissing rfl rfl rfl ⟨rfl, hd_X3_votesMissing⟩ ⟨Nat.le_of_ble_eq_true rfl, Nat.le_of_ble_eq_true rfl⟩) (pwV (ci := 3) (q0 := 22) (C := RX3) hw hK rfl rfl rfl (rpS (AV := [.ref (M 0), .int z1]) hw hK hG rp_88)) rfl rfl hl.1 rfl (lv_room (Nat.le_of_ble_eq_true rfl)) dL_law_1297 ⟨(show cells + 1 + 0 ≤ 1033879 by omega), (show slots + 6 + 0 ≤ 5994467 by omega)⟩) hw hA rp_87 (fun H locs hw => ?_)
  refine lv_istore (lv' := [(6, .int 0), (5, .int 1), (0, .ref b), (1, .ref x), (2, .ref (M 0)), (3, .ref o), (4, .int (nI i))]) hx hb dL_law_1300 hl (by decide) rfl (fun ls hl => ?_)
  refine lv_aload_n hx hb dL_law_1302 rfl (lv_at hl 4 rfl) ?_
  refine kr_i (ws' := wX x A T B ++ wC E A (B 0) S ++ wC E T (B 0) U ++ wG E B G ++ [(o, aJ E 1 f)] ++ wN E M (1, Hb, a, k)) (va_runV (As := []) (rest := []) ⟨hx, hb, hml, hown, hts⟩ (c_X3_thrown l E M 1 Hb a k  _) (cwV 0 hts gL_law_X3_thrown rfl rfl rfl ⟨rfl, hd_X3_thrown⟩ ⟨Nat.le_of_ble_eq_true rfl, Nat.le_of_ble_eq_true rfl⟩) (pwV (ci := 3) (q0 := 22) (C := RX3) hw hK rfl rfl rfl (rpS (AV := [.ref (M 0)]) hw hK hG rp_88)) rfl rfl hl.1 rfl (lv_room (Nat.le_of_ble_eq_true rfl)) dL_law_1303 ⟨(show cells + 1 + 0 ≤ 1033879 by omega), (show slots + 6 + 0 ≤ 5994467 by omega)⟩) hw hA rp_88 (fun H locs hw => ?_)
  refine lv_iload hx hb dL_law_1306 (lv_at hl 1 rfl) ?_
  refine lv_icmp_eq (tgt := 1313) hx hb dL_law_1308 (by decide) (fun _ => ?_) (fun q8 => absurd (by decide) q8)
  refine lv_iload hx hb dL_law_1313 (lv_at hl 1 rfl) ?_
  refine lv_if_ne (tgt := 1330) hx hb dL_law_1315 (by decide) (fun _ => ?_) (fun q8 => absurd q8 (by decide))
  refine lv_goto (tgt := 2161) hx hb dL_law_1330 (by decide) ?_
  refine W.widen (k := cells + 30) (n := slots + 200) (show cells + 1 ≤ cells + 30 by omega) (show slots + 6 ≤ slots + 200 by omega) ?_
  exact kk U f 1 k _ _ _ hw (lv_sub hl [2, 3, 4, 5, 6] rfl)

set_option maxHeartbeats 4000000 in
set_option maxRecDepth 100000 in
theorem la_votesMissing {p9 : Program} {l : Launch} {e : Env} {s9 : State} {m : MethodId} {below : List Frame} {meth : Method} {c : Code} {b L : Nat} {xs : Nat → Int32} (C0 : lw_At p9 s9 m meth c b L xs) (hflags : l.stackTraces = false) (hL : L ≤ 2048) (E : Ev) (hK : va_K E.1 vwCl (tysE E) s9) (hG : Gx s9) (hZ : Zx (aL s9) s9 s9.heap) {Q : State → Prop} (x o : Nat) (A T B M : Nat → Nat) (S U : CS) (G : HS) (th : Int32) (Hb : MH) (a k : Fn) (f : Nat → Int64) (i cells slots : Nat) (hi : i + 4 ≤ L) (n1 : Nat) (e1 : xs (i + 1) = nI n1) (hy0 : t_ship G (nI n1) = 0) (hy1 : n_ns Hb ≤ 5) (hy2 : n_np Hb ≤ 16) (hy3 : n_nw Hb ≤ 4) (hy4 : ∀ p, p < n_np Hb → n_so Hb p < 5) (hy5 : n1 < n_ns Hb) (hy6 : (f_vtl G (nI n1) : Int32).toInt64 = (if 0 < l_mvo Hb a n1 false (n_np Hb) / 2 + 1 - l_mvo Hb a n1 true (n_np Hb) then l_mvo Hb a n1 false (n_np Hb) / 2 + 1 - l_mvo Hb a n1 true (n_np Hb) else 0 : Int32).toInt64) (hc9 : cells + 30 ≤ 1033879) (hs9 : slots + 200 ≤ 5994467) (kk : ∀ (U1 : CS) (f1 : Nat → Int64) (t1 : Int32) (k1 : Fn) (H : Heap) (locs : List Loc) (ls : Array Slot), Wd E (aL s9) s9.heap (wX x A T B ++ wC E A (B 0) S ++ wC E T (B 0) U1 ++ wG E B G ++ [(o, aJ E 1 f1)] ++ wN E M (t1, Hb, a, k1)) H locs → lv_has ls 9 [(0, .ref b), (1, .ref x), (2, .ref (M 0)), (3, .ref o), (4, .int (nI i))] → W p9 l e room_1 s9 m #[Value.ref b] below meth c H locs (cells + 30) (slots + 200) Q (F0 m 2161 ls [])) {H : Heap} {locs : List Loc} {ls : Array Slot} (hw : Wd E (aL s9) s9.heap (wX x A T B ++ wC E A (B 0) S ++ wC E T (B 0) U ++ wG E B G ++ [(o, aJ E 1 f)] ++ wN E M (th, Hb, a, k)) H locs) (hl : lv_has ls 9 [(0, .ref b), (1, .ref x), (2, .ref (M 0)), (3, .ref o), (4, .int (nI i))]) : W p9 l e room_1 s9 m #[Value.ref b] below meth c H locs cells slots Q (F0 m 1277 ls []) := by
  obtain ⟨hx, hb, hr, hml, hown, hts0, hX, hbl, hlocks, hgv⟩ := C0
  have hts : ∀ w ∈ wsL_law, w.before #[Value.ref b] s9 = true := fun w h => hts0 w (wsL_law_in w h)
  have hown : s9.vm.findClass RL = some m.cls := hown
  have hA : ∀ q, s9.heap.size ≤ q → aL s9 q := fun _ h => h
  refine lv_aload_n hx hb dL_law_1277 rfl (lv_at hl 1 rfl) ?_
  refine lv_aload_n hx hb dL_law_1278 rfl (lv_at hl 0 rfl) ?_
  refine lv_iload hx hb dL_law_1279 (lv_at hl 4 rfl) ?_
  refine lv_iconst (v := 1) hx hb dL_law_1281 (by decide) ?_
  refine k_iaddN (a := i) (b := 1) hx hb dL_law_1282 ?_
  refine k_sldv (i := i + 1) (v := nI n1) hx hb hX hbl hw (by omega) (by omega) e1 dL_law_1283 ?_
  refine lv_aload_n hx hb dL_law_1284 rfl (lv_at hl 3 rfl) ?_
  refine krx_i (ws' := wX x A T B ++ wC E A (B 0) S ++ wC E T (B 0) U ++ wG E B G ++ [(o, aJ E 1 (vp_updL f 0 ((f_vtl G (nI n1) : Int32).toInt64)))] ++ wN E M (th, Hb, a, k)) (vx_runSX (As := [.ref x, .int (nI n1), .ref o]) (rest := []) ⟨hx, hb, hml, hown, hts⟩ (c_L_votesMissing l hflags E x A T B S U G (nI n1) o f hy0 _) (vx_cwSW 3 hts gL_law_L_votesMissing rfl rfl rfl hd_L_votesMissing ⟨Nat.le_of_ble_eq_true rfl, Nat.le_of_ble_eq_true rfl⟩) (rpX (AV := [.ref x, .int (nI n1), .ref o]) hw hK hG hZ hA rp_86) rfl rfl hl.1 rfl (lv_room (Nat.le_of_ble_eq_true rfl)) dL_law_1285 ⟨(show cells + 1 ≤ 1033879 by omega), (show slots + 6 ≤ 5994467 by omega)⟩) hw hA rp_93 rp_86 (fun H locs ce9 q9 t_1 hw hy1 hy2 hy3 => absurd rfl t_1) (fun H locs t_1 hw => ?_)
  refine lv_istore (lv' := [(5, .int 0), (0, .ref b), (1, .ref x), (2, .ref (M 0)), (3, .ref o), (4, .int (nI i))]) hx hb dL_law_1288 hl (by decide) rfl (fun ls hl => ?_)
  refine lv_aload_n hx hb dL_law_1290 rfl (lv_at hl 3 rfl) ?_
  refine lv_aload_n hx hb dL_law_1291 rfl (lv_at hl 1 rfl) ?_
  refine lv_iload hx hb dL_law_1292 (lv_at hl 5 rfl) ?_
  refine lv_iconst (v := 1) hx hb dL_law_1294 (by decide) ?_
  refine k_iaddN (a := i) (b := 1) hx hb dL_law_1295 ?_
  refine k_sldv (i := i + 1) (v := nI n1) hx hb hX hbl hw (by omega) (by omega) e1 dL_law_1296 ?_
  refine kr_i (ws' := wX x A T B ++ wC E A (B 0) S ++ wC E T (B 0) U ++ wG E B G ++ [(o, aJ E 1 (vp_updL f 0 ((f_vtl G (nI n1) : Int32).toInt64)))] ++ wN E M (0, Hb, a, k)) (va_runV (As := [.int (nI n1)]) (rest := []) ⟨hx, hb, hml, hown, hts⟩ (c_X3_votesMissing l E M th Hb a k n1 hy1 hy2 hy3 hy4 hy5 _) (cwV 1 hts gL_law_X3_votesMissing rfl rfl rfl ⟨rfl, hd_X3_votesMissing⟩ ⟨Nat.le_of_ble_eq_true rfl, Nat.le_of_ble_eq_true rfl⟩) (pwV (ci := 3) (q0 := 22) (C := RX3) hw hK rfl rfl rfl (rpS (AV := [.ref (M 0), .int (nI n1)]) hw hK hG rp_88)) rfl rfl hl.1 rfl (lv_room (Nat.le_of_ble_eq_true rfl)) dL_law_1297 ⟨(show cells + 1 + 0 ≤ 1033879 by omega), (show slots + 6 + 0 ≤ 5994467 by omega)⟩) hw hA rp_87 (fun H locs hw => ?_)
  refine lv_istore (lv' := [(6, .int (if 0 < l_mvo Hb a n1 false (n_np Hb) / 2 + 1 - l_mvo Hb a n1 true (n_np Hb) then l_mvo Hb a n1 false (n_np Hb) / 2 + 1 - l_mvo Hb a n1 true (n_np Hb) else 0)), (5, .int 0), (0, .ref b), (1, .ref x), (2, .ref (M 0)), (3, .ref o), (4, .int (nI i))]) hx hb dL_law_1300 hl (by decide) rfl (fun ls hl => ?_)
  refine lv_aload_n hx hb dL_law_1302 rfl (lv_at hl 4 rfl) ?_
  refine kr_i (ws' := wX x A T B ++ wC E A (B 0) S ++ wC E T (B 0) U ++ wG E B G ++ [(o, aJ E 1 (vp_updL f 0 ((f_vtl G (nI n1) : Int32).toInt64)))] ++ wN E M (0, Hb, a, k)) (va_runV (As := []) (rest := []) ⟨hx, hb, hml, hown, hts⟩ (c_X3_thrown l E M 0 Hb a k  _) (cwV 0 hts gL_law_X3_thrown rfl rfl rfl ⟨rfl, hd_X3_thrown⟩ ⟨Nat.le_of_ble_eq_true rfl, Nat.le_of_ble_eq_true rfl⟩) (pwV (ci := 3) (q0 := 22) (C := RX3) hw hK rfl rfl rfl (rpS (AV := [.ref (M 0)]) hw hK hG rp_88)) rfl rfl hl.1 rfl (lv_room (Nat.le_of_ble_eq_true rfl)) dL_law_1303 ⟨(show cells + 1 + 0 ≤ 1033879 by omega), (show slots + 6 + 0 ≤ 5994467 by omega)⟩) hw hA rp_88 (fun H locs hw => ?_)
  refine lv_iload hx hb dL_law_1306 (lv_at hl 1 rfl) ?_
  refine lv_icmp_eq (tgt := 1313) hx hb dL_law_1308 (by decide) (fun _ => ?_) (fun q8 => absurd (by decide) q8)
  refine lv_iload hx hb dL_law_1313 (lv_at hl 1 rfl) ?_
  refine lv_if_ne (tgt := 1330) hx hb dL_law_1315 (by decide) (fun q8 => absurd (by decide) q8) (fun _ => ?_)
  refine lv_aload_n hx hb dL_law_1318 rfl (lv_at hl 5 rfl) ?_
  refine lv_iconst (v := 0) hx hb dL_law_1319 (by decide) ?_
  refine k_lld (v := (vp_updL f 0 ((f_vtl G (nI n1) : Int32).toInt64)) 0) hx hb hK hw 21 rfl (vp_in_nI (n := 0) (N := 1) (by decide) (by decide)) rfl dL_law_1320 ?_
  refine lv_iload hx hb dL_law_1321 (lv_at hl 0 rfl) ?_
  refine lv_i2l (v := (if 0 < l_mvo Hb a n1 false (n_np Hb) / 2 + 1 - l_mvo Hb a n1 true (n_np Hb) then l_mvo Hb a n1 false (n_np Hb) / 2 + 1 - l_mvo Hb a n1 true (n_np Hb) else 0 : Int32).toInt64) hx hb dL_law_1323 rfl ?_
  refine k_lcmpE hx hb dL_law_1324 (pk_uLs.trans hy6) ?_
  refine lv_if_eq (tgt := 1330) hx hb dL_law_1325 (by decide) (fun _ => ?_) (fun q8 => absurd (by decide) q8)
  refine lv_goto (tgt := 2161) hx hb dL_law_1330 (by decide) ?_
  refine W.widen (k := cells + 30) (n := slots + 200) (show cells + 1 ≤ cells + 30 by omega) (show slots + 6 ≤ slots + 200 by omega) ?_
  exact kk U (vp_updL f 0 ((f_vtl G (nI n1) : Int32).toInt64)) 0 k _ _ _ hw (lv_sub hl [2, 3, 4, 5, 6] rfl)

set_option maxHeartbeats 4000000 in
set_option maxRecDepth 100000 in
theorem la_sailors {p9 : Program} {l : Launch} {e : Env} {s9 : State} {m : MethodId} {below : List Frame} {meth : Method} {c : Code} {b L : Nat} {xs : Nat → Int32} (C0 : lw_At p9 s9 m meth c b L xs) (hflags : l.stackTraces = false) (hL : L ≤ 2048) (E : Ev) (hK : va_K E.1 vwCl (tysE E) s9) (hG : Gx s9) (hZ : Zx (aL s9) s9 s9.heap) {Q : State → Prop} (x o : Nat) (A T B M : Nat → Nat) (S U : CS) (G : HS) (th : Int32) (Hb : MH) (a k : Fn) (f : Nat → Int64) (i cells slots : Nat) (hi : i + 4 ≤ L) (hy0 : n_ns Hb ≤ 5) (hy1 : n_np Hb ≤ 16) (hy2 : n_nw Hb ≤ 4) (hy3 : ∀ p, p < n_np Hb → n_so Hb p < 5) (hy4 : nI (g_pc G) = nI (n_np Hb)) (hc9 : cells + 30 ≤ 1033879) (hs9 : slots + 200 ≤ 5994467) (kk : ∀ (U1 : CS) (f1 : Nat → Int64) (t1 : Int32) (k1 : Fn) (H : Heap) (locs : List Loc) (ls : Array Slot), Wd E (aL s9) s9.heap (wX x A T B ++ wC E A (B 0) S ++ wC E T (B 0) U1 ++ wG E B G ++ [(o, aJ E 1 f1)] ++ wN E M (t1, Hb, a, k1)) H locs → lv_has ls 9 [(0, .ref b), (1, .ref x), (2, .ref (M 0)), (3, .ref o), (4, .int (nI i))] → W p9 l e room_1 s9 m #[Value.ref b] below meth c H locs (cells + 30) (slots + 200) Q (F0 m 2161 ls [])) {H : Heap} {locs : List Loc} {ls : Array Slot} (hw : Wd E (aL s9) s9.heap (wX x A T B ++ wC E A (B 0) S ++ wC E T (B 0) U ++ wG E B G ++ [(o, aJ E 1 f)] ++ wN E M (th, Hb, a, k)) H locs) (hl : lv_has ls 9 [(0, .ref b), (1, .ref x), (2, .ref (M 0)), (3, .ref o), (4, .int (nI i))]) : W p9 l e room_1 s9 m #[Value.ref b] below meth c H locs cells slots Q (F0 m 1333 ls []) := by
  obtain ⟨hx, hb, hr, hml, hown, hts0, hX, hbl, hlocks, hgv⟩ := C0
  have hts : ∀ w ∈ wsL_law, w.before #[Value.ref b] s9 = true := fun w h => hts0 w (wsL_law_in w h)
  have hown : s9.vm.findClass RL = some m.cls := hown
  have hA : ∀ q, s9.heap.size ≤ q → aL s9 q := fun _ h => h
  refine lv_aload_n hx hb dL_law_1333 rfl (lv_at hl 1 rfl) ?_
  refine kr_i (ws' := wX x A T B ++ wC E A (B 0) S ++ wC E T (B 0) U ++ wG E B G ++ [(o, aJ E 1 f)] ++ wN E M (th, Hb, a, k)) (va_runV (As := []) (rest := []) ⟨hx, hb, hml, hown, hts⟩ (c_X2_sailors l E x A T B S U G  _) (cwV 0 hts gL_law_X2_sailors rfl rfl rfl ⟨rfl, hd_X2_sailors⟩ ⟨Nat.le_of_ble_eq_true rfl, Nat.le_of_ble_eq_true rfl⟩) (pwV (ci := 2) (q0 := 0) (C := RX2) hw hK rfl rfl rfl (rpS (AV := [.ref x]) hw hK hG rp_92)) rfl rfl hl.1 rfl (lv_room (Nat.le_of_ble_eq_true rfl)) dL_law_1334 ⟨(show cells + 0 ≤ 1033879 by omega), (show slots + 0 ≤ 5994467 by omega)⟩) hw hA rp_92 (fun H locs hw => ?_)
  refine lv_aload_n hx hb dL_law_1337 rfl (lv_at hl 2 rfl) ?_
  refine kr_i (ws' := wX x A T B ++ wC E A (B 0) S ++ wC E T (B 0) U ++ wG E B G ++ [(o, aJ E 1 f)] ++ wN E M (0, Hb, a, k)) (va_runV (As := []) (rest := [.int (nI (g_pc G))]) ⟨hx, hb, hml, hown, hts⟩ (c_X3_sailors l E M th Hb a k hy0 hy1 hy2 hy3 _) (cwV 0 hts gL_law_X3_sailors rfl rfl rfl ⟨rfl, hd_X3_sailors⟩ ⟨Nat.le_of_ble_eq_true rfl, Nat.le_of_ble_eq_true rfl⟩) (pwV (ci := 3) (q0 := 22) (C := RX3) hw hK rfl rfl rfl (rpS (AV := [.ref (M 0)]) hw hK hG rp_88)) rfl rfl hl.1 rfl (lv_room (Nat.le_of_ble_eq_true rfl)) dL_law_1338 ⟨(show cells + 0 ≤ 1033879 by omega), (show slots + 0 ≤ 5994467 by omega)⟩) hw hA rp_87 (fun H locs hw => ?_)
  refine lv_icmp_eq (tgt := 2161) hx hb dL_law_1341 (by decide) (fun _ => ?_) (fun q8 => absurd hy4 q8)
  refine W.widen (k := cells + 30) (n := slots + 200) (show cells ≤ cells + 30 by omega) (show slots ≤ slots + 200 by omega) ?_
  exact kk U f 0 k _ _ _ hw (lv_sub hl [0, 1, 2, 3, 4] rfl)

set_option maxHeartbeats 4000000 in
set_option maxRecDepth 100000 in
theorem la_shipOf_1 {p9 : Program} {l : Launch} {e : Env} {s9 : State} {m : MethodId} {below : List Frame} {meth : Method} {c : Code} {b L : Nat} {xs : Nat → Int32} (C0 : lw_At p9 s9 m meth c b L xs) (hflags : l.stackTraces = false) (hL : L ≤ 2048) (E : Ev) (hK : va_K E.1 vwCl (tysE E) s9) (hG : Gx s9) (hZ : Zx (aL s9) s9 s9.heap) {Q : State → Prop} (x o : Nat) (A T B M : Nat → Nat) (S U : CS) (G : HS) (th : Int32) (Hb : MH) (a k : Fn) (f : Nat → Int64) (i cells slots : Nat) (hi : i + 4 ≤ L) (z1 : Int32) (e1 : xs (i + 1) = z1) (hy0 : t_sail G z1 = 1) (hy1 : n_ns Hb ≤ 5) (hy2 : n_np Hb ≤ 16) (hy3 : n_nw Hb ≤ 4) (hy4 : ∀ z1, z1 < n_np Hb → n_so Hb z1 < 5) (hy5 : d_in z1 0 (nI (n_np Hb) - 1) = false) (hc9 : cells + 30 ≤ 1033879) (hs9 : slots + 200 ≤ 5994467) (kk : ∀ (U1 : CS) (f1 : Nat → Int64) (t1 : Int32) (k1 : Fn) (H : Heap) (locs : List Loc) (ls : Array Slot), Wd E (aL s9) s9.heap (wX x A T B ++ wC E A (B 0) S ++ wC E T (B 0) U1 ++ wG E B G ++ [(o, aJ E 1 f1)] ++ wN E M (t1, Hb, a, k1)) H locs → lv_has ls 9 [(0, .ref b), (1, .ref x), (2, .ref (M 0)), (3, .ref o), (4, .int (nI i))] → W p9 l e room_1 s9 m #[Value.ref b] below meth c H locs (cells + 30) (slots + 200) Q (F0 m 2161 ls [])) {H : Heap} {locs : List Loc} {ls : Array Slot} (hw : Wd E (aL s9) s9.heap (wX x A T B ++ wC E A (B 0) S ++ wC E T (B 0) U ++ wG E B G ++ [(o, aJ E 1 f)] ++ wN E M (th, Hb, a, k)) H locs) (hl : lv_has ls 9 [(0, .ref b), (1, .ref x), (2, .ref (M 0)), (3, .ref o), (4, .int (nI i))]) : W p9 l e room_1 s9 m #[Value.ref b] below meth c H locs cells slots Q (F0 m 1346 ls []) := by
  obtain ⟨hx, hb, hr, hml, hown, hts0, hX, hbl, hlocks, hgv⟩ := C0
  have hts : ∀ w ∈ wsL_law, w.before #[Value.ref b] s9 = true := fun w h => hts0 w (wsL_law_in w h)
  have hown : s9.vm.findClass RL = some m.cls := hown
  have hA : ∀ q, s9.heap.size ≤ q → aL s9 q := fun _ h => h
  refine lv_aload_n hx hb dL_law_1346 rfl (lv_at hl 1 rfl) ?_
  refine lv_aload_n hx hb dL_law_1347 rfl (lv_at hl 0 rfl) ?_
  refine lv_iload hx hb dL_law_1348 (lv_at hl 4 rfl) ?_
  refine lv_iconst (v := 1) hx hb dL_law_1350 (by decide) ?_
  refine k_iaddN (a := i) (b := 1) hx hb dL_law_1351 ?_
  refine k_sldv (i := i + 1) (v := z1) hx hb hX hbl hw (by omega) (by omega) e1 dL_law_1352 ?_
  refine lv_aload_n hx hb dL_law_1353 rfl (lv_at hl 3 rfl) ?_
  refine krx_i (ws' := wX x A T B ++ wC E A (B 0) S ++ wC E T (B 0) U ++ wG E B G ++ [(o, aJ E 1 f)] ++ wN E M (th, Hb, a, k)) (vx_runSX (As := [.ref x, .int z1, .ref o]) (rest := []) ⟨hx, hb, hml, hown, hts⟩ (c_L_shipOf_1 l hflags E x A T B S U G z1 o f hy0 _) (vx_cwSW 3 hts gL_law_L_shipOf rfl rfl rfl hd_L_shipOf ⟨Nat.le_of_ble_eq_true rfl, Nat.le_of_ble_eq_true rfl⟩) (rpX (AV := [.ref x, .int z1, .ref o]) hw hK hG hZ hA rp_86) rfl rfl hl.1 rfl (lv_room (Nat.le_of_ble_eq_true rfl)) dL_law_1354 ⟨(show cells + 1 ≤ 1033879 by omega), (show slots + 6 ≤ 5994467 by omega)⟩) hw hA rp_86 rp_86 (fun H locs ce9 q9 t_1 hw hy1 hy2 hy3 => absurd rfl t_1) (fun H locs t_1 hw => ?_)
  refine lv_istore (lv' := [(5, .int 1), (0, .ref b), (1, .ref x), (2, .ref (M 0)), (3, .ref o), (4, .int (nI i))]) hx hb dL_law_1357 hl (by decide) rfl (fun ls hl => ?_)
  refine lv_aload_n hx hb dL_law_1359 rfl (lv_at hl 3 rfl) ?_
  refine lv_aload_n hx hb dL_law_1360 rfl (lv_at hl 1 rfl) ?_
  refine lv_iload hx hb dL_law_1361 (lv_at hl 5 rfl) ?_
  refine lv_iconst (v := 1) hx hb dL_law_1363 (by decide) ?_
  refine k_iaddN (a := i) (b := 1) hx hb dL_law_1364 ?_
  refine k_sldv (i := i + 1) (v := z1) hx hb hX hbl hw (by omega) (by omega) e1 dL_law_1365 ?_
  refine kr_i (ws' := wX x A T B ++ wC E A (B 0) S ++ wC E T (B 0) U ++ wG E B G ++ [(o, aJ E 1 f)] ++ wN E M (1, Hb, a, k)) (va_runV (As := [.int z1]) (rest := []) ⟨hx, hb, hml, hown, hts⟩ (c_X3_shipOf_1 l E M th Hb a k z1 hy1 hy2 hy3 hy4 hy5 _) (cwV 1 hts gL_law_X3_shipOf rfl rfl rfl ⟨rfl, hd_X3_shipOf⟩ ⟨Nat.le_of_ble_eq_true rfl, Nat.le_of_ble_eq_true rfl⟩) (pwV (ci := 3) (q0 := 22) (C := RX3) hw hK rfl rfl rfl (rpS (AV := [.ref (M 0), .int z1]) hw hK hG rp_88)) rfl rfl hl.1 rfl (lv_room (Nat.le_of_ble_eq_true rfl)) dL_law_1366 ⟨(show cells + 1 + 0 ≤ 1033879 by omega), (show slots + 6 + 0 ≤ 5994467 by omega)⟩) hw hA rp_87 (fun H locs hw => ?_)
  refine lv_istore (lv' := [(6, .int 0), (5, .int 1), (0, .ref b), (1, .ref x), (2, .ref (M 0)), (3, .ref o), (4, .int (nI i))]) hx hb dL_law_1369 hl (by decide) rfl (fun ls hl => ?_)
  refine lv_aload_n hx hb dL_law_1371 rfl (lv_at hl 4 rfl) ?_
  refine kr_i (ws' := wX x A T B ++ wC E A (B 0) S ++ wC E T (B 0) U ++ wG E B G ++ [(o, aJ E 1 f)] ++ wN E M (1, Hb, a, k)) (va_runV (As := []) (rest := []) ⟨hx, hb, hml, hown, hts⟩ (c_X3_thrown l E M 1 Hb a k  _) (cwV 0 hts gL_law_X3_thrown rfl rfl rfl ⟨rfl, hd_X3_thrown⟩ ⟨Nat.le_of_ble_eq_true rfl, Nat.le_of_ble_eq_true rfl⟩) (pwV (ci := 3) (q0 := 22) (C := RX3) hw hK rfl rfl rfl (rpS (AV := [.ref (M 0)]) hw hK hG rp_88)) rfl rfl hl.1 rfl (lv_room (Nat.le_of_ble_eq_true rfl)) dL_law_1372 ⟨(show cells + 1 + 0 ≤ 1033879 by omega), (show slots + 6 + 0 ≤ 5994467 by omega)⟩) hw hA rp_88 (fun H locs hw => ?_)
  refine lv_iload hx hb dL_law_1375 (lv_at hl 1 rfl) ?_
  refine lv_icmp_eq (tgt := 1382) hx hb dL_law_1377 (by decide) (fun _ => ?_) (fun q8 => absurd (by decide) q8)
  refine lv_iload hx hb dL_law_1382 (lv_at hl 1 rfl) ?_
  refine lv_if_ne (tgt := 1399) hx hb dL_law_1384 (by decide) (fun _ => ?_) (fun q8 => absurd q8 (by decide))
  refine lv_goto (tgt := 2161) hx hb dL_law_1399 (by decide) ?_
  refine W.widen (k := cells + 30) (n := slots + 200) (show cells + 1 ≤ cells + 30 by omega) (show slots + 6 ≤ slots + 200 by omega) ?_
  exact kk U f 1 k _ _ _ hw (lv_sub hl [2, 3, 4, 5, 6] rfl)

set_option maxHeartbeats 4000000 in
set_option maxRecDepth 100000 in
theorem la_shipOf {p9 : Program} {l : Launch} {e : Env} {s9 : State} {m : MethodId} {below : List Frame} {meth : Method} {c : Code} {b L : Nat} {xs : Nat → Int32} (C0 : lw_At p9 s9 m meth c b L xs) (hflags : l.stackTraces = false) (hL : L ≤ 2048) (E : Ev) (hK : va_K E.1 vwCl (tysE E) s9) (hG : Gx s9) (hZ : Zx (aL s9) s9 s9.heap) {Q : State → Prop} (x o : Nat) (A T B M : Nat → Nat) (S U : CS) (G : HS) (th : Int32) (Hb : MH) (a k : Fn) (f : Nat → Int64) (i cells slots : Nat) (hi : i + 4 ≤ L) (n1 : Nat) (e1 : xs (i + 1) = nI n1) (hy0 : t_sail G (nI n1) = 0) (hy1 : n_ns Hb ≤ 5) (hy2 : n_np Hb ≤ 16) (hy3 : n_nw Hb ≤ 4) (hy4 : ∀ n1, n1 < n_np Hb → n_so Hb n1 < 5) (hy5 : n1 < n_np Hb) (hy6 : (f_ship G (nI n1) : Int32).toInt64 = (nI (n_so Hb n1) : Int32).toInt64) (hc9 : cells + 30 ≤ 1033879) (hs9 : slots + 200 ≤ 5994467) (kk : ∀ (U1 : CS) (f1 : Nat → Int64) (t1 : Int32) (k1 : Fn) (H : Heap) (locs : List Loc) (ls : Array Slot), Wd E (aL s9) s9.heap (wX x A T B ++ wC E A (B 0) S ++ wC E T (B 0) U1 ++ wG E B G ++ [(o, aJ E 1 f1)] ++ wN E M (t1, Hb, a, k1)) H locs → lv_has ls 9 [(0, .ref b), (1, .ref x), (2, .ref (M 0)), (3, .ref o), (4, .int (nI i))] → W p9 l e room_1 s9 m #[Value.ref b] below meth c H locs (cells + 30) (slots + 200) Q (F0 m 2161 ls [])) {H : Heap} {locs : List Loc} {ls : Array Slot} (hw : Wd E (aL s9) s9.heap (wX x A T B ++ wC E A (B 0) S ++ wC E T (B 0) U ++ wG E B G ++ [(o, aJ E 1 f)] ++ wN E M (th, Hb, a, k)) H locs) (hl : lv_has ls 9 [(0, .ref b), (1, .ref x), (2, .ref (M 0)), (3, .ref o), (4, .int (nI i))]) : W p9 l e room_1 s9 m #[Value.ref b] below meth c H locs cells slots Q (F0 m 1346 ls []) := by
  obtain ⟨hx, hb, hr, hml, hown, hts0, hX, hbl, hlocks, hgv⟩ := C0
  have hts : ∀ w ∈ wsL_law, w.before #[Value.ref b] s9 = true := fun w h => hts0 w (wsL_law_in w h)
  have hown : s9.vm.findClass RL = some m.cls := hown
  have hA : ∀ q, s9.heap.size ≤ q → aL s9 q := fun _ h => h
  refine lv_aload_n hx hb dL_law_1346 rfl (lv_at hl 1 rfl) ?_
  refine lv_aload_n hx hb dL_law_1347 rfl (lv_at hl 0 rfl) ?_
  refine lv_iload hx hb dL_law_1348 (lv_at hl 4 rfl) ?_
  refine lv_iconst (v := 1) hx hb dL_law_1350 (by decide) ?_
  refine k_iaddN (a := i) (b := 1) hx hb dL_law_1351 ?_
  refine k_sldv (i := i + 1) (v := nI n1) hx hb hX hbl hw (by omega) (by omega) e1 dL_law_1352 ?_
  refine lv_aload_n hx hb dL_law_1353 rfl (lv_at hl 3 rfl) ?_
  refine krx_i (ws' := wX x A T B ++ wC E A (B 0) S ++ wC E T (B 0) U ++ wG E B G ++ [(o, aJ E 1 (vp_updL f 0 ((f_ship G (nI n1) : Int32).toInt64)))] ++ wN E M (th, Hb, a, k)) (vx_runSX (As := [.ref x, .int (nI n1), .ref o]) (rest := []) ⟨hx, hb, hml, hown, hts⟩ (c_L_shipOf l hflags E x A T B S U G (nI n1) o f hy0 _) (vx_cwSW 3 hts gL_law_L_shipOf rfl rfl rfl hd_L_shipOf ⟨Nat.le_of_ble_eq_true rfl, Nat.le_of_ble_eq_true rfl⟩) (rpX (AV := [.ref x, .int (nI n1), .ref o]) hw hK hG hZ hA rp_86) rfl rfl hl.1 rfl (lv_room (Nat.le_of_ble_eq_true rfl)) dL_law_1354 ⟨(show cells + 1 ≤ 1033879 by omega), (show slots + 6 ≤ 5994467 by omega)⟩) hw hA rp_93 rp_86 (fun H locs ce9 q9 t_1 hw hy1 hy2 hy3 => absurd rfl t_1) (fun H locs t_1 hw => ?_)
  refine lv_istore (lv' := [(5, .int 0), (0, .ref b), (1, .ref x), (2, .ref (M 0)), (3, .ref o), (4, .int (nI i))]) hx hb dL_law_1357 hl (by decide) rfl (fun ls hl => ?_)
  refine lv_aload_n hx hb dL_law_1359 rfl (lv_at hl 3 rfl) ?_
  refine lv_aload_n hx hb dL_law_1360 rfl (lv_at hl 1 rfl) ?_
  refine lv_iload hx hb dL_law_1361 (lv_at hl 5 rfl) ?_
  refine lv_iconst (v := 1) hx hb dL_law_1363 (by decide) ?_
  refine k_iaddN (a := i) (b := 1) hx hb dL_law_1364 ?_
  refine k_sldv (i := i + 1) (v := nI n1) hx hb hX hbl hw (by omega) (by omega) e1 dL_law_1365 ?_
  refine kr_i (ws' := wX x A T B ++ wC E A (B 0) S ++ wC E T (B 0) U ++ wG E B G ++ [(o, aJ E 1 (vp_updL f 0 ((f_ship G (nI n1) : Int32).toInt64)))] ++ wN E M (0, Hb, a, k)) (va_runV (As := [.int (nI n1)]) (rest := []) ⟨hx, hb, hml, hown, hts⟩ (c_X3_shipOf l E M th Hb a k n1 hy1 hy2 hy3 hy4 hy5 _) (cwV 1 hts gL_law_X3_shipOf rfl rfl rfl ⟨rfl, hd_X3_shipOf⟩ ⟨Nat.le_of_ble_eq_true rfl, Nat.le_of_ble_eq_true rfl⟩) (pwV (ci := 3) (q0 := 22) (C := RX3) hw hK rfl rfl rfl (rpS (AV := [.ref (M 0), .int (nI n1)]) hw hK hG rp_88)) rfl rfl hl.1 rfl (lv_room (Nat.le_of_ble_eq_true rfl)) dL_law_1366 ⟨(show cells + 1 + 0 ≤ 1033879 by omega), (show slots + 6 + 0 ≤ 5994467 by omega)⟩) hw hA rp_87 (fun H locs hw => ?_)
  refine lv_istore (lv' := [(6, .int (nI (n_so Hb n1))), (5, .int 0), (0, .ref b), (1, .ref x), (2, .ref (M 0)), (3, .ref o), (4, .int (nI i))]) hx hb dL_law_1369 hl (by decide) rfl (fun ls hl => ?_)
  refine lv_aload_n hx hb dL_law_1371 rfl (lv_at hl 4 rfl) ?_
  refine kr_i (ws' := wX x A T B ++ wC E A (B 0) S ++ wC E T (B 0) U ++ wG E B G ++ [(o, aJ E 1 (vp_updL f 0 ((f_ship G (nI n1) : Int32).toInt64)))] ++ wN E M (0, Hb, a, k)) (va_runV (As := []) (rest := []) ⟨hx, hb, hml, hown, hts⟩ (c_X3_thrown l E M 0 Hb a k  _) (cwV 0 hts gL_law_X3_thrown rfl rfl rfl ⟨rfl, hd_X3_thrown⟩ ⟨Nat.le_of_ble_eq_true rfl, Nat.le_of_ble_eq_true rfl⟩) (pwV (ci := 3) (q0 := 22) (C := RX3) hw hK rfl rfl rfl (rpS (AV := [.ref (M 0)]) hw hK hG rp_88)) rfl rfl hl.1 rfl (lv_room (Nat.le_of_ble_eq_true rfl)) dL_law_1372 ⟨(show cells + 1 + 0 ≤ 1033879 by omega), (show slots + 6 + 0 ≤ 5994467 by omega)⟩) hw hA rp_88 (fun H locs hw => ?_)
  refine lv_iload hx hb dL_law_1375 (lv_at hl 1 rfl) ?_
  refine lv_icmp_eq (tgt := 1382) hx hb dL_law_1377 (by decide) (fun _ => ?_) (fun q8 => absurd (by decide) q8)
  refine lv_iload hx hb dL_law_1382 (lv_at hl 1 rfl) ?_
  refine lv_if_ne (tgt := 1399) hx hb dL_law_1384 (by decide) (fun q8 => absurd (by decide) q8) (fun _ => ?_)
  refine lv_aload_n hx hb dL_law_1387 rfl (lv_at hl 5 rfl) ?_
  refine lv_iconst (v := 0) hx hb dL_law_1388 (by decide) ?_
  refine k_lld (v := (vp_updL f 0 ((f_ship G (nI n1) : Int32).toInt64)) 0) hx hb hK hw 21 rfl (vp_in_nI (n := 0) (N := 1) (by decide) (by decide)) rfl dL_law_1389 ?_
  refine lv_iload hx hb dL_law_1390 (lv_at hl 0 rfl) ?_
  refine lv_i2l (v := (nI (n_so Hb n1) : Int32).toInt64) hx hb dL_law_1392 rfl ?_
  refine k_lcmpE hx hb dL_law_1393 (pk_uLs.trans hy6) ?_
  refine lv_if_eq (tgt := 1399) hx hb dL_law_1394 (by decide) (fun _ => ?_) (fun q8 => absurd (by decide) q8)
  refine lv_goto (tgt := 2161) hx hb dL_law_1399 (by decide) ?_
  refine W.widen (k := cells + 30) (n := slots + 200) (show cells + 1 ≤ cells + 30 by omega) (show slots + 6 ≤ slots + 200 by omega) ?_
  exact kk U (vp_updL f 0 ((f_ship G (nI n1) : Int32).toInt64)) 0 k _ _ _ hw (lv_sub hl [2, 3, 4, 5, 6] rfl)

set_option maxHeartbeats 4000000 in
set_option maxRecDepth 100000 in
theorem la_mastOf_1 {p9 : Program} {l : Launch} {e : Env} {s9 : State} {m : MethodId} {below : List Frame} {meth : Method} {c : Code} {b L : Nat} {xs : Nat → Int32} (C0 : lw_At p9 s9 m meth c b L xs) (hflags : l.stackTraces = false) (hL : L ≤ 2048) (E : Ev) (hK : va_K E.1 vwCl (tysE E) s9) (hG : Gx s9) (hZ : Zx (aL s9) s9 s9.heap) {Q : State → Prop} (x o : Nat) (A T B M : Nat → Nat) (S U : CS) (G : HS) (th : Int32) (Hb : MH) (a k : Fn) (f : Nat → Int64) (i cells slots : Nat) (hi : i + 4 ≤ L) (z1 : Int32) (e1 : xs (i + 1) = z1) (hy0 : t_sail G z1 = 1) (hy1 : n_ns Hb ≤ 5) (hy2 : n_np Hb ≤ 16) (hy3 : n_nw Hb ≤ 4) (hy4 : ∀ z1, z1 < n_np Hb → n_so Hb z1 < 5) (hy5 : d_in z1 0 (nI (n_np Hb) - 1) = false) (hc9 : cells + 30 ≤ 1033879) (hs9 : slots + 200 ≤ 5994467) (kk : ∀ (U1 : CS) (f1 : Nat → Int64) (t1 : Int32) (k1 : Fn) (H : Heap) (locs : List Loc) (ls : Array Slot), Wd E (aL s9) s9.heap (wX x A T B ++ wC E A (B 0) S ++ wC E T (B 0) U1 ++ wG E B G ++ [(o, aJ E 1 f1)] ++ wN E M (t1, Hb, a, k1)) H locs → lv_has ls 9 [(0, .ref b), (1, .ref x), (2, .ref (M 0)), (3, .ref o), (4, .int (nI i))] → W p9 l e room_1 s9 m #[Value.ref b] below meth c H locs (cells + 30) (slots + 200) Q (F0 m 2161 ls [])) {H : Heap} {locs : List Loc} {ls : Array Slot} (hw : Wd E (aL s9) s9.heap (wX x A T B ++ wC E A (B 0) S ++ wC E T (B 0) U ++ wG E B G ++ [(o, aJ E 1 f)] ++ wN E M (th, Hb, a, k)) H locs) (hl : lv_has ls 9 [(0, .ref b), (1, .ref x), (2, .ref (M 0)), (3, .ref o), (4, .int (nI i))]) : W p9 l e room_1 s9 m #[Value.ref b] below meth c H locs cells slots Q (F0 m 1402 ls []) := by
  obtain ⟨hx, hb, hr, hml, hown, hts0, hX, hbl, hlocks, hgv⟩ := C0
  have hts : ∀ w ∈ wsL_law, w.before #[Value.ref b] s9 = true := fun w h => hts0 w (wsL_law_in w h)
  have hown : s9.vm.findClass RL = some m.cls := hown
  have hA : ∀ q, s9.heap.size ≤ q → aL s9 q := fun _ h => h
  refine lv_aload_n hx hb dL_law_1402 rfl (lv_at hl 1 rfl) ?_
  refine lv_aload_n hx hb dL_law_1403 rfl (lv_at hl 0 rfl) ?_
  refine lv_iload hx hb dL_law_1404 (lv_at hl 4 rfl) ?_
  refine lv_iconst (v := 1) hx hb dL_law_1406 (by decide) ?_
  refine k_iaddN (a := i) (b := 1) hx hb dL_law_1407 ?_
  refine k_sldv (i := i + 1) (v := z1) hx hb hX hbl hw (by omega) (by omega) e1 dL_law_1408 ?_
  refine lv_aload_n hx hb dL_law_1409 rfl (lv_at hl 3 rfl) ?_
  refine krx_i (ws' := wX x A T B ++ wC E A (B 0) S ++ wC E T (B 0) U ++ wG E B G ++ [(o, aJ E 1 f)] ++ wN E M (th, Hb, a, k)) (vx_runSX (As := [.ref x, .int z1, .ref o]) (rest := []) ⟨hx, hb, hml, hown, hts⟩ (c_L_mastOf_1 l hflags E x A T B S U G z1 o f hy0 _) (vx_cwSW 3 hts gL_law_L_mastOf rfl rfl rfl hd_L_mastOf ⟨Nat.le_of_ble_eq_true rfl, Nat.le_of_ble_eq_true rfl⟩) (rpX (AV := [.ref x, .int z1, .ref o]) hw hK hG hZ hA rp_86) rfl rfl hl.1 rfl (lv_room (Nat.le_of_ble_eq_true rfl)) dL_law_1410 ⟨(show cells + 1 ≤ 1033879 by omega), (show slots + 6 ≤ 5994467 by omega)⟩) hw hA rp_86 rp_86 (fun H locs ce9 q9 t_1 hw hy1 hy2 hy3 => absurd rfl t_1) (fun H locs t_1 hw => ?_)
  refine lv_istore (lv' := [(5, .int 1), (0, .ref b), (1, .ref x), (2, .ref (M 0)), (3, .ref o), (4, .int (nI i))]) hx hb dL_law_1413 hl (by decide) rfl (fun ls hl => ?_)
  refine lv_aload_n hx hb dL_law_1415 rfl (lv_at hl 3 rfl) ?_
  refine lv_aload_n hx hb dL_law_1416 rfl (lv_at hl 1 rfl) ?_
  refine lv_iload hx hb dL_law_1417 (lv_at hl 5 rfl) ?_
  refine lv_iconst (v := 1) hx hb dL_law_1419 (by decide) ?_
  refine k_iaddN (a := i) (b := 1) hx hb dL_law_1420 ?_
  refine k_sldv (i := i + 1) (v := z1) hx hb hX hbl hw (by omega) (by omega) e1 dL_law_1421 ?_
  refine kr_i (ws' := wX x A T B ++ wC E A (B 0) S ++ wC E T (B 0) U ++ wG E B G ++ [(o, aJ E 1 f)] ++ wN E M (1, Hb, a, k)) (va_runV (As := [.int z1]) (rest := []) ⟨hx, hb, hml, hown, hts⟩ (c_X3_mastOf_1 l E M th Hb a k z1 hy1 hy2 hy3 hy4 hy5 _) (cwV 1 hts gL_law_X3_mastOf rfl rfl rfl ⟨rfl, hd_X3_mastOf⟩ ⟨Nat.le_of_ble_eq_true rfl, Nat.le_of_ble_eq_true rfl⟩) (pwV (ci := 3) (q0 := 22) (C := RX3) hw hK rfl rfl rfl (rpS (AV := [.ref (M 0), .int z1]) hw hK hG rp_88)) rfl rfl hl.1 rfl (lv_room (Nat.le_of_ble_eq_true rfl)) dL_law_1422 ⟨(show cells + 1 + 0 ≤ 1033879 by omega), (show slots + 6 + 0 ≤ 5994467 by omega)⟩) hw hA rp_87 (fun H locs hw => ?_)
  refine lv_istore (lv' := [(6, .int 0), (5, .int 1), (0, .ref b), (1, .ref x), (2, .ref (M 0)), (3, .ref o), (4, .int (nI i))]) hx hb dL_law_1425 hl (by decide) rfl (fun ls hl => ?_)
  refine lv_aload_n hx hb dL_law_1427 rfl (lv_at hl 4 rfl) ?_
  refine kr_i (ws' := wX x A T B ++ wC E A (B 0) S ++ wC E T (B 0) U ++ wG E B G ++ [(o, aJ E 1 f)] ++ wN E M (1, Hb, a, k)) (va_runV (As := []) (rest := []) ⟨hx, hb, hml, hown, hts⟩ (c_X3_thrown l E M 1 Hb a k  _) (cwV 0 hts gL_law_X3_thrown rfl rfl rfl ⟨rfl, hd_X3_thrown⟩ ⟨Nat.le_of_ble_eq_true rfl, Nat.le_of_ble_eq_true rfl⟩) (pwV (ci := 3) (q0 := 22) (C := RX3) hw hK rfl rfl rfl (rpS (AV := [.ref (M 0)]) hw hK hG rp_88)) rfl rfl hl.1 rfl (lv_room (Nat.le_of_ble_eq_true rfl)) dL_law_1428 ⟨(show cells + 1 + 0 ≤ 1033879 by omega), (show slots + 6 + 0 ≤ 5994467 by omega)⟩) hw hA rp_88 (fun H locs hw => ?_)
  refine lv_iload hx hb dL_law_1431 (lv_at hl 1 rfl) ?_
  refine lv_icmp_eq (tgt := 1438) hx hb dL_law_1433 (by decide) (fun _ => ?_) (fun q8 => absurd (by decide) q8)
  refine lv_iload hx hb dL_law_1438 (lv_at hl 1 rfl) ?_
  refine lv_if_ne (tgt := 1455) hx hb dL_law_1440 (by decide) (fun _ => ?_) (fun q8 => absurd q8 (by decide))
  refine lv_goto (tgt := 2161) hx hb dL_law_1455 (by decide) ?_
  refine W.widen (k := cells + 30) (n := slots + 200) (show cells + 1 ≤ cells + 30 by omega) (show slots + 6 ≤ slots + 200 by omega) ?_
  exact kk U f 1 k _ _ _ hw (lv_sub hl [2, 3, 4, 5, 6] rfl)

set_option maxHeartbeats 4000000 in
set_option maxRecDepth 100000 in
theorem la_mastOf {p9 : Program} {l : Launch} {e : Env} {s9 : State} {m : MethodId} {below : List Frame} {meth : Method} {c : Code} {b L : Nat} {xs : Nat → Int32} (C0 : lw_At p9 s9 m meth c b L xs) (hflags : l.stackTraces = false) (hL : L ≤ 2048) (E : Ev) (hK : va_K E.1 vwCl (tysE E) s9) (hG : Gx s9) (hZ : Zx (aL s9) s9 s9.heap) {Q : State → Prop} (x o : Nat) (A T B M : Nat → Nat) (S U : CS) (G : HS) (th : Int32) (Hb : MH) (a k : Fn) (f : Nat → Int64) (i cells slots : Nat) (hi : i + 4 ≤ L) (n1 : Nat) (e1 : xs (i + 1) = nI n1) (hy0 : t_sail G (nI n1) = 0) (hy1 : n_ns Hb ≤ 5) (hy2 : n_np Hb ≤ 16) (hy3 : n_nw Hb ≤ 4) (hy4 : ∀ n1, n1 < n_np Hb → n_so Hb n1 < 5) (hy5 : n1 < n_np Hb) (hy6 : (f_at 16 (g_mt G) (nI n1) : Int32).toInt64 = (n_mo Hb n1 : Int32).toInt64) (hc9 : cells + 30 ≤ 1033879) (hs9 : slots + 200 ≤ 5994467) (kk : ∀ (U1 : CS) (f1 : Nat → Int64) (t1 : Int32) (k1 : Fn) (H : Heap) (locs : List Loc) (ls : Array Slot), Wd E (aL s9) s9.heap (wX x A T B ++ wC E A (B 0) S ++ wC E T (B 0) U1 ++ wG E B G ++ [(o, aJ E 1 f1)] ++ wN E M (t1, Hb, a, k1)) H locs → lv_has ls 9 [(0, .ref b), (1, .ref x), (2, .ref (M 0)), (3, .ref o), (4, .int (nI i))] → W p9 l e room_1 s9 m #[Value.ref b] below meth c H locs (cells + 30) (slots + 200) Q (F0 m 2161 ls [])) {H : Heap} {locs : List Loc} {ls : Array Slot} (hw : Wd E (aL s9) s9.heap (wX x A T B ++ wC E A (B 0) S ++ wC E T (B 0) U ++ wG E B G ++ [(o, aJ E 1 f)] ++ wN E M (th, Hb, a, k)) H locs) (hl : lv_has ls 9 [(0, .ref b), (1, .ref x), (2, .ref (M 0)), (3, .ref o), (4, .int (nI i))]) : W p9 l e room_1 s9 m #[Value.ref b] below meth c H locs cells slots Q (F0 m 1402 ls []) := by
  obtain ⟨hx, hb, hr, hml, hown, hts0, hX, hbl, hlocks, hgv⟩ := C0
  have hts : ∀ w ∈ wsL_law, w.before #[Value.ref b] s9 = true := fun w h => hts0 w (wsL_law_in w h)
  have hown : s9.vm.findClass RL = some m.cls := hown
  have hA : ∀ q, s9.heap.size ≤ q → aL s9 q := fun _ h => h
  refine lv_aload_n hx hb dL_law_1402 rfl (lv_at hl 1 rfl) ?_
  refine lv_aload_n hx hb dL_law_1403 rfl (lv_at hl 0 rfl) ?_
  refine lv_iload hx hb dL_law_1404 (lv_at hl 4 rfl) ?_
  refine lv_iconst (v := 1) hx hb dL_law_1406 (by decide) ?_
  refine k_iaddN (a := i) (b := 1) hx hb dL_law_1407 ?_
  refine k_sldv (i := i + 1) (v := nI n1) hx hb hX hbl hw (by omega) (by omega) e1 dL_law_1408 ?_
  refine lv_aload_n hx hb dL_law_1409 rfl (lv_at hl 3 rfl) ?_
  refine krx_i (ws' := wX x A T B ++ wC E A (B 0) S ++ wC E T (B 0) U ++ wG E B G ++ [(o, aJ E 1 (vp_updL f 0 ((f_at 16 (g_mt G) (nI n1) : Int32).toInt64)))] ++ wN E M (th, Hb, a, k)) (vx_runSX (As := [.ref x, .int (nI n1), .ref o]) (rest := []) ⟨hx, hb, hml, hown, hts⟩ (c_L_mastOf l hflags E x A T B S U G (nI n1) o f hy0 _) (vx_cwSW 3 hts gL_law_L_mastOf rfl rfl rfl hd_L_mastOf ⟨Nat.le_of_ble_eq_true rfl, Nat.le_of_ble_eq_true rfl⟩) (rpX (AV := [.ref x, .int (nI n1), .ref o]) hw hK hG hZ hA rp_86) rfl rfl hl.1 rfl (lv_room (Nat.le_of_ble_eq_true rfl)) dL_law_1410 ⟨(show cells + 1 ≤ 1033879 by omega), (show slots + 6 ≤ 5994467 by omega)⟩) hw hA rp_93 rp_86 (fun H locs ce9 q9 t_1 hw hy1 hy2 hy3 => absurd rfl t_1) (fun H locs t_1 hw => ?_)
  refine lv_istore (lv' := [(5, .int 0), (0, .ref b), (1, .ref x), (2, .ref (M 0)), (3, .ref o), (4, .int (nI i))]) hx hb dL_law_1413 hl (by decide) rfl (fun ls hl => ?_)
  refine lv_aload_n hx hb dL_law_1415 rfl (lv_at hl 3 rfl) ?_
  refine lv_aload_n hx hb dL_law_1416 rfl (lv_at hl 1 rfl) ?_
  refine lv_iload hx hb dL_law_1417 (lv_at hl 5 rfl) ?_
  refine lv_iconst (v := 1) hx hb dL_law_1419 (by decide) ?_
  refine k_iaddN (a := i) (b := 1) hx hb dL_law_1420 ?_
  refine k_sldv (i := i + 1) (v := nI n1) hx hb hX hbl hw (by omega) (by omega) e1 dL_law_1421 ?_
  refine kr_i (ws' := wX x A T B ++ wC E A (B 0) S ++ wC E T (B 0) U ++ wG E B G ++ [(o, aJ E 1 (vp_updL f 0 ((f_at 16 (g_mt G) (nI n1) : Int32).toInt64)))] ++ wN E M (0, Hb, a, k)) (va_runV (As := [.int (nI n1)]) (rest := []) ⟨hx, hb, hml, hown, hts⟩ (c_X3_mastOf l E M th Hb a k n1 hy1 hy2 hy3 hy4 hy5 _) (cwV 1 hts gL_law_X3_mastOf rfl rfl rfl ⟨rfl, hd_X3_mastOf⟩ ⟨Nat.le_of_ble_eq_true rfl, Nat.le_of_ble_eq_true rfl⟩) (pwV (ci := 3) (q0 := 22) (C := RX3) hw hK rfl rfl rfl (rpS (AV := [.ref (M 0), .int (nI n1)]) hw hK hG rp_88)) rfl rfl hl.1 rfl (lv_room (Nat.le_of_ble_eq_true rfl)) dL_law_1422 ⟨(show cells + 1 + 0 ≤ 1033879 by omega), (show slots + 6 + 0 ≤ 5994467 by omega)⟩) hw hA rp_87 (fun H locs hw => ?_)
  refine lv_istore (lv' := [(6, .int (n_mo Hb n1)), (5, .int 0), (0, .ref b), (1, .ref x), (2, .ref (M 0)), (3, .ref o), (4, .int (nI i))]) hx hb dL_law_1425 hl (by decide) rfl (fun ls hl => ?_)
  refine lv_aload_n hx hb dL_law_1427 rfl (lv_at hl 4 rfl) ?_
  refine kr_i (ws' := wX x A T B ++ wC E A (B 0) S ++ wC E T (B 0) U ++ wG E B G ++ [(o, aJ E 1 (vp_updL f 0 ((f_at 16 (g_mt G) (nI n1) : Int32).toInt64)))] ++ wN E M (0, Hb, a, k)) (va_runV (As := []) (rest := []) ⟨hx, hb, hml, hown, hts⟩ (c_X3_thrown l E M 0 Hb a k  _) (cwV 0 hts gL_law_X3_thrown rfl rfl rfl ⟨rfl, hd_X3_thrown⟩ ⟨Nat.le_of_ble_eq_true rfl, Nat.le_of_ble_eq_true rfl⟩) (pwV (ci := 3) (q0 := 22) (C := RX3) hw hK rfl rfl rfl (rpS (AV := [.ref (M 0)]) hw hK hG rp_88)) rfl rfl hl.1 rfl (lv_room (Nat.le_of_ble_eq_true rfl)) dL_law_1428 ⟨(show cells + 1 + 0 ≤ 1033879 by omega), (show slots + 6 + 0 ≤ 5994467 by omega)⟩) hw hA rp_88 (fun H locs hw => ?_)
  refine lv_iload hx hb dL_law_1431 (lv_at hl 1 rfl) ?_
  refine lv_icmp_eq (tgt := 1438) hx hb dL_law_1433 (by decide) (fun _ => ?_) (fun q8 => absurd (by decide) q8)
  refine lv_iload hx hb dL_law_1438 (lv_at hl 1 rfl) ?_
  refine lv_if_ne (tgt := 1455) hx hb dL_law_1440 (by decide) (fun q8 => absurd (by decide) q8) (fun _ => ?_)
  refine lv_aload_n hx hb dL_law_1443 rfl (lv_at hl 5 rfl) ?_
  refine lv_iconst (v := 0) hx hb dL_law_1444 (by decide) ?_
  refine k_lld (v := (vp_updL f 0 ((f_at 16 (g_mt G) (nI n1) : Int32).toInt64)) 0) hx hb hK hw 21 rfl (vp_in_nI (n := 0) (N := 1) (by decide) (by decide)) rfl dL_law_1445 ?_
  refine lv_iload hx hb dL_law_1446 (lv_at hl 0 rfl) ?_
  refine lv_i2l (v := (n_mo Hb n1 : Int32).toInt64) hx hb dL_law_1448 rfl ?_
  refine k_lcmpE hx hb dL_law_1449 (pk_uLs.trans hy6) ?_
  refine lv_if_eq (tgt := 1455) hx hb dL_law_1450 (by decide) (fun _ => ?_) (fun q8 => absurd (by decide) q8)
  refine lv_goto (tgt := 2161) hx hb dL_law_1455 (by decide) ?_
  refine W.widen (k := cells + 30) (n := slots + 200) (show cells + 1 ≤ cells + 30 by omega) (show slots + 6 ≤ slots + 200 by omega) ?_
  exact kk U (vp_updL f 0 ((f_at 16 (g_mt G) (nI n1) : Int32).toInt64)) 0 k _ _ _ hw (lv_sub hl [2, 3, 4, 5, 6] rfl)

set_option maxHeartbeats 4000000 in
set_option maxRecDepth 100000 in
theorem la_hasVoter_1 {p9 : Program} {l : Launch} {e : Env} {s9 : State} {m : MethodId} {below : List Frame} {meth : Method} {c : Code} {b L : Nat} {xs : Nat → Int32} (C0 : lw_At p9 s9 m meth c b L xs) (hflags : l.stackTraces = false) (hL : L ≤ 2048) (E : Ev) (hK : va_K E.1 vwCl (tysE E) s9) (hG : Gx s9) (hZ : Zx (aL s9) s9 s9.heap) {Q : State → Prop} (x o : Nat) (A T B M : Nat → Nat) (S U : CS) (G : HS) (th : Int32) (Hb : MH) (a k : Fn) (f : Nat → Int64) (i cells slots : Nat) (hi : i + 4 ≤ L) (z1 : Int32) (e1 : xs (i + 1) = z1) (hy0 : t_sail G z1 = 1) (hy1 : n_ns Hb ≤ 5) (hy2 : n_np Hb ≤ 16) (hy3 : n_nw Hb ≤ 4) (hy4 : ∀ z1, z1 < n_np Hb → n_so Hb z1 < 5) (hy5 : d_in z1 0 (nI (n_np Hb) - 1) = false) (hc9 : cells + 30 ≤ 1033879) (hs9 : slots + 200 ≤ 5994467) (kk : ∀ (U1 : CS) (f1 : Nat → Int64) (t1 : Int32) (k1 : Fn) (H : Heap) (locs : List Loc) (ls : Array Slot), Wd E (aL s9) s9.heap (wX x A T B ++ wC E A (B 0) S ++ wC E T (B 0) U1 ++ wG E B G ++ [(o, aJ E 1 f1)] ++ wN E M (t1, Hb, a, k1)) H locs → lv_has ls 9 [(0, .ref b), (1, .ref x), (2, .ref (M 0)), (3, .ref o), (4, .int (nI i))] → W p9 l e room_1 s9 m #[Value.ref b] below meth c H locs (cells + 30) (slots + 200) Q (F0 m 2161 ls [])) {H : Heap} {locs : List Loc} {ls : Array Slot} (hw : Wd E (aL s9) s9.heap (wX x A T B ++ wC E A (B 0) S ++ wC E T (B 0) U ++ wG E B G ++ [(o, aJ E 1 f)] ++ wN E M (th, Hb, a, k)) H locs) (hl : lv_has ls 9 [(0, .ref b), (1, .ref x), (2, .ref (M 0)), (3, .ref o), (4, .int (nI i))]) : W p9 l e room_1 s9 m #[Value.ref b] below meth c H locs cells slots Q (F0 m 1458 ls []) := by
  obtain ⟨hx, hb, hr, hml, hown, hts0, hX, hbl, hlocks, hgv⟩ := C0
  have hts : ∀ w ∈ wsL_law, w.before #[Value.ref b] s9 = true := fun w h => hts0 w (wsL_law_in w h)
  have hown : s9.vm.findClass RL = some m.cls := hown
  have hA : ∀ q, s9.heap.size ≤ q → aL s9 q := fun _ h => h
  refine lv_aload_n hx hb dL_law_1458 rfl (lv_at hl 1 rfl) ?_
  refine lv_aload_n hx hb dL_law_1459 rfl (lv_at hl 0 rfl) ?_
  refine lv_iload hx hb dL_law_1460 (lv_at hl 4 rfl) ?_
  refine lv_iconst (v := 1) hx hb dL_law_1462 (by decide) ?_
  refine k_iaddN (a := i) (b := 1) hx hb dL_law_1463 ?_
  refine k_sldv (i := i + 1) (v := z1) hx hb hX hbl hw (by omega) (by omega) e1 dL_law_1464 ?_
  refine lv_aload_n hx hb dL_law_1465 rfl (lv_at hl 3 rfl) ?_
  refine krx_i (ws' := wX x A T B ++ wC E A (B 0) S ++ wC E T (B 0) U ++ wG E B G ++ [(o, aJ E 1 f)] ++ wN E M (th, Hb, a, k)) (vx_runSX (As := [.ref x, .int z1, .ref o]) (rest := []) ⟨hx, hb, hml, hown, hts⟩ (c_L_hasVoter_1 l hflags E x A T B S U G z1 o f hy0 _) (vx_cwSW 3 hts gL_law_L_hasVoter rfl rfl rfl hd_L_hasVoter ⟨Nat.le_of_ble_eq_true rfl, Nat.le_of_ble_eq_true rfl⟩) (rpX (AV := [.ref x, .int z1, .ref o]) hw hK hG hZ hA rp_86) rfl rfl hl.1 rfl (lv_room (Nat.le_of_ble_eq_true rfl)) dL_law_1466 ⟨(show cells + 1 ≤ 1033879 by omega), (show slots + 6 ≤ 5994467 by omega)⟩) hw hA rp_86 rp_86 (fun H locs ce9 q9 t_1 hw hy1 hy2 hy3 => absurd rfl t_1) (fun H locs t_1 hw => ?_)
  refine lv_istore (lv' := [(5, .int 1), (0, .ref b), (1, .ref x), (2, .ref (M 0)), (3, .ref o), (4, .int (nI i))]) hx hb dL_law_1469 hl (by decide) rfl (fun ls hl => ?_)
  refine lv_aload_n hx hb dL_law_1471 rfl (lv_at hl 3 rfl) ?_
  refine lv_aload_n hx hb dL_law_1472 rfl (lv_at hl 1 rfl) ?_
  refine lv_iload hx hb dL_law_1473 (lv_at hl 5 rfl) ?_
  refine lv_iconst (v := 1) hx hb dL_law_1475 (by decide) ?_
  refine k_iaddN (a := i) (b := 1) hx hb dL_law_1476 ?_
  refine k_sldv (i := i + 1) (v := z1) hx hb hX hbl hw (by omega) (by omega) e1 dL_law_1477 ?_
  refine kr_i (ws' := wX x A T B ++ wC E A (B 0) S ++ wC E T (B 0) U ++ wG E B G ++ [(o, aJ E 1 f)] ++ wN E M (1, Hb, a, k)) (va_runV (As := [.int z1]) (rest := []) ⟨hx, hb, hml, hown, hts⟩ (c_X3_hasVoter_1 l E M th Hb a k z1 hy1 hy2 hy3 hy4 hy5 _) (cwV 1 hts gL_law_X3_hasVoter rfl rfl rfl ⟨rfl, hd_X3_hasVoter⟩ ⟨Nat.le_of_ble_eq_true rfl, Nat.le_of_ble_eq_true rfl⟩) (pwV (ci := 3) (q0 := 22) (C := RX3) hw hK rfl rfl rfl (rpS (AV := [.ref (M 0), .int z1]) hw hK hG rp_88)) rfl rfl hl.1 rfl (lv_room (Nat.le_of_ble_eq_true rfl)) dL_law_1478 ⟨(show cells + 1 + 0 ≤ 1033879 by omega), (show slots + 6 + 0 ≤ 5994467 by omega)⟩) hw hA rp_87 (fun H locs hw => ?_)
  refine lv_istore (lv' := [(6, .int (bI false)), (5, .int 1), (0, .ref b), (1, .ref x), (2, .ref (M 0)), (3, .ref o), (4, .int (nI i))]) hx hb dL_law_1481 hl (by decide) rfl (fun ls hl => ?_)
  refine lv_aload_n hx hb dL_law_1483 rfl (lv_at hl 4 rfl) ?_
  refine kr_i (ws' := wX x A T B ++ wC E A (B 0) S ++ wC E T (B 0) U ++ wG E B G ++ [(o, aJ E 1 f)] ++ wN E M (1, Hb, a, k)) (va_runV (As := []) (rest := []) ⟨hx, hb, hml, hown, hts⟩ (c_X3_thrown l E M 1 Hb a k  _) (cwV 0 hts gL_law_X3_thrown rfl rfl rfl ⟨rfl, hd_X3_thrown⟩ ⟨Nat.le_of_ble_eq_true rfl, Nat.le_of_ble_eq_true rfl⟩) (pwV (ci := 3) (q0 := 22) (C := RX3) hw hK rfl rfl rfl (rpS (AV := [.ref (M 0)]) hw hK hG rp_88)) rfl rfl hl.1 rfl (lv_room (Nat.le_of_ble_eq_true rfl)) dL_law_1484 ⟨(show cells + 1 + 0 ≤ 1033879 by omega), (show slots + 6 + 0 ≤ 5994467 by omega)⟩) hw hA rp_88 (fun H locs hw => ?_)
  refine lv_iload hx hb dL_law_1487 (lv_at hl 1 rfl) ?_
  refine lv_icmp_eq (tgt := 1494) hx hb dL_law_1489 (by decide) (fun _ => ?_) (fun q8 => absurd (by decide) q8)
  refine lv_iload hx hb dL_law_1494 (lv_at hl 1 rfl) ?_
  refine lv_if_ne (tgt := 1518) hx hb dL_law_1496 (by decide) (fun _ => ?_) (fun q8 => absurd q8 (by decide))
  refine lv_goto (tgt := 2161) hx hb dL_law_1518 (by decide) ?_
  refine W.widen (k := cells + 30) (n := slots + 200) (show cells + 1 ≤ cells + 30 by omega) (show slots + 6 ≤ slots + 200 by omega) ?_
  exact kk U f 1 k _ _ _ hw (lv_sub hl [2, 3, 4, 5, 6] rfl)

set_option maxHeartbeats 4000000 in
set_option maxRecDepth 100000 in
theorem la_hasVoter {p9 : Program} {l : Launch} {e : Env} {s9 : State} {m : MethodId} {below : List Frame} {meth : Method} {c : Code} {b L : Nat} {xs : Nat → Int32} (C0 : lw_At p9 s9 m meth c b L xs) (hflags : l.stackTraces = false) (hL : L ≤ 2048) (E : Ev) (hK : va_K E.1 vwCl (tysE E) s9) (hG : Gx s9) (hZ : Zx (aL s9) s9 s9.heap) {Q : State → Prop} (x o : Nat) (A T B M : Nat → Nat) (S U : CS) (G : HS) (th : Int32) (Hb : MH) (a k : Fn) (f : Nat → Int64) (i cells slots : Nat) (hi : i + 4 ≤ L) (n1 : Nat) (e1 : xs (i + 1) = nI n1) (hy0 : t_sail G (nI n1) = 0) (hy1 : n_ns Hb ≤ 5) (hy2 : n_np Hb ≤ 16) (hy3 : n_nw Hb ≤ 4) (hy4 : ∀ n1, n1 < n_np Hb → n_so Hb n1 < 5) (hy5 : n1 < n_np Hb) (hy6 : f_is 16 (g_vo G) (nI n1) = (n_vo Hb n1)) (hc9 : cells + 30 ≤ 1033879) (hs9 : slots + 200 ≤ 5994467) (kk : ∀ (U1 : CS) (f1 : Nat → Int64) (t1 : Int32) (k1 : Fn) (H : Heap) (locs : List Loc) (ls : Array Slot), Wd E (aL s9) s9.heap (wX x A T B ++ wC E A (B 0) S ++ wC E T (B 0) U1 ++ wG E B G ++ [(o, aJ E 1 f1)] ++ wN E M (t1, Hb, a, k1)) H locs → lv_has ls 9 [(0, .ref b), (1, .ref x), (2, .ref (M 0)), (3, .ref o), (4, .int (nI i))] → W p9 l e room_1 s9 m #[Value.ref b] below meth c H locs (cells + 30) (slots + 200) Q (F0 m 2161 ls [])) {H : Heap} {locs : List Loc} {ls : Array Slot} (hw : Wd E (aL s9) s9.heap (wX x A T B ++ wC E A (B 0) S ++ wC E T (B 0) U ++ wG E B G ++ [(o, aJ E 1 f)] ++ wN E M (th, Hb, a, k)) H locs) (hl : lv_has ls 9 [(0, .ref b), (1, .ref x), (2, .ref (M 0)), (3, .ref o), (4, .int (nI i))]) : W p9 l e room_1 s9 m #[Value.ref b] below meth c H locs cells slots Q (F0 m 1458 ls []) := by
  obtain ⟨hx, hb, hr, hml, hown, hts0, hX, hbl, hlocks, hgv⟩ := C0
  have hts : ∀ w ∈ wsL_law, w.before #[Value.ref b] s9 = true := fun w h => hts0 w (wsL_law_in w h)
  have hown : s9.vm.findClass RL = some m.cls := hown
  have hA : ∀ q, s9.heap.size ≤ q → aL s9 q := fun _ h => h
  refine lv_aload_n hx hb dL_law_1458 rfl (lv_at hl 1 rfl) ?_
  refine lv_aload_n hx hb dL_law_1459 rfl (lv_at hl 0 rfl) ?_
  refine lv_iload hx hb dL_law_1460 (lv_at hl 4 rfl) ?_
  refine lv_iconst (v := 1) hx hb dL_law_1462 (by decide) ?_
  refine k_iaddN (a := i) (b := 1) hx hb dL_law_1463 ?_
  refine k_sldv (i := i + 1) (v := nI n1) hx hb hX hbl hw (by omega) (by omega) e1 dL_law_1464 ?_
  refine lv_aload_n hx hb dL_law_1465 rfl (lv_at hl 3 rfl) ?_
  refine krx_i (ws' := wX x A T B ++ wC E A (B 0) S ++ wC E T (B 0) U ++ wG E B G ++ [(o, aJ E 1 (vp_updL f 0 (if f_is 16 (g_vo G) (nI n1) = true then 1 else 0)))] ++ wN E M (th, Hb, a, k)) (vx_runSX (As := [.ref x, .int (nI n1), .ref o]) (rest := []) ⟨hx, hb, hml, hown, hts⟩ (c_L_hasVoter l hflags E x A T B S U G (nI n1) o f hy0 _) (vx_cwSW 3 hts gL_law_L_hasVoter rfl rfl rfl hd_L_hasVoter ⟨Nat.le_of_ble_eq_true rfl, Nat.le_of_ble_eq_true rfl⟩) (rpX (AV := [.ref x, .int (nI n1), .ref o]) hw hK hG hZ hA rp_86) rfl rfl hl.1 rfl (lv_room (Nat.le_of_ble_eq_true rfl)) dL_law_1466 ⟨(show cells + 1 ≤ 1033879 by omega), (show slots + 6 ≤ 5994467 by omega)⟩) hw hA rp_93 rp_86 (fun H locs ce9 q9 t_1 hw hy1 hy2 hy3 => absurd rfl t_1) (fun H locs t_1 hw => ?_)
  refine lv_istore (lv' := [(5, .int 0), (0, .ref b), (1, .ref x), (2, .ref (M 0)), (3, .ref o), (4, .int (nI i))]) hx hb dL_law_1469 hl (by decide) rfl (fun ls hl => ?_)
  refine lv_aload_n hx hb dL_law_1471 rfl (lv_at hl 3 rfl) ?_
  refine lv_aload_n hx hb dL_law_1472 rfl (lv_at hl 1 rfl) ?_
  refine lv_iload hx hb dL_law_1473 (lv_at hl 5 rfl) ?_
  refine lv_iconst (v := 1) hx hb dL_law_1475 (by decide) ?_
  refine k_iaddN (a := i) (b := 1) hx hb dL_law_1476 ?_
  refine k_sldv (i := i + 1) (v := nI n1) hx hb hX hbl hw (by omega) (by omega) e1 dL_law_1477 ?_
  refine kr_i (ws' := wX x A T B ++ wC E A (B 0) S ++ wC E T (B 0) U ++ wG E B G ++ [(o, aJ E 1 (vp_updL f 0 (if f_is 16 (g_vo G) (nI n1) = true then 1 else 0)))] ++ wN E M (0, Hb, a, k)) (va_runV (As := [.int (nI n1)]) (rest := []) ⟨hx, hb, hml, hown, hts⟩ (c_X3_hasVoter l E M th Hb a k n1 hy1 hy2 hy3 hy4 hy5 _) (cwV 1 hts gL_law_X3_hasVoter rfl rfl rfl ⟨rfl, hd_X3_hasVoter⟩ ⟨Nat.le_of_ble_eq_true rfl, Nat.le_of_ble_eq_true rfl⟩) (pwV (ci := 3) (q0 := 22) (C := RX3) hw hK rfl rfl rfl (rpS (AV := [.ref (M 0), .int (nI n1)]) hw hK hG rp_88)) rfl rfl hl.1 rfl (lv_room (Nat.le_of_ble_eq_true rfl)) dL_law_1478 ⟨(show cells + 1 + 0 ≤ 1033879 by omega), (show slots + 6 + 0 ≤ 5994467 by omega)⟩) hw hA rp_87 (fun H locs hw => ?_)
  refine lv_istore (lv' := [(6, .int (bI (n_vo Hb n1))), (5, .int 0), (0, .ref b), (1, .ref x), (2, .ref (M 0)), (3, .ref o), (4, .int (nI i))]) hx hb dL_law_1481 hl (by decide) rfl (fun ls hl => ?_)
  refine lv_aload_n hx hb dL_law_1483 rfl (lv_at hl 4 rfl) ?_
  refine kr_i (ws' := wX x A T B ++ wC E A (B 0) S ++ wC E T (B 0) U ++ wG E B G ++ [(o, aJ E 1 (vp_updL f 0 (if f_is 16 (g_vo G) (nI n1) = true then 1 else 0)))] ++ wN E M (0, Hb, a, k)) (va_runV (As := []) (rest := []) ⟨hx, hb, hml, hown, hts⟩ (c_X3_thrown l E M 0 Hb a k  _) (cwV 0 hts gL_law_X3_thrown rfl rfl rfl ⟨rfl, hd_X3_thrown⟩ ⟨Nat.le_of_ble_eq_true rfl, Nat.le_of_ble_eq_true rfl⟩) (pwV (ci := 3) (q0 := 22) (C := RX3) hw hK rfl rfl rfl (rpS (AV := [.ref (M 0)]) hw hK hG rp_88)) rfl rfl hl.1 rfl (lv_room (Nat.le_of_ble_eq_true rfl)) dL_law_1484 ⟨(show cells + 1 + 0 ≤ 1033879 by omega), (show slots + 6 + 0 ≤ 5994467 by omega)⟩) hw hA rp_88 (fun H locs hw => ?_)
  refine lv_iload hx hb dL_law_1487 (lv_at hl 1 rfl) ?_
  refine lv_icmp_eq (tgt := 1494) hx hb dL_law_1489 (by decide) (fun _ => ?_) (fun q8 => absurd (by decide) q8)
  refine lv_iload hx hb dL_law_1494 (lv_at hl 1 rfl) ?_
  refine lv_if_ne (tgt := 1518) hx hb dL_law_1496 (by decide) (fun q8 => absurd (by decide) q8) (fun _ => ?_)
  refine lv_aload_n hx hb dL_law_1499 rfl (lv_at hl 5 rfl) ?_
  refine lv_iconst (v := 0) hx hb dL_law_1500 (by decide) ?_
  refine k_lld (v := (vp_updL f 0 (if f_is 16 (g_vo G) (nI n1) = true then 1 else 0)) 0) hx hb hK hw 21 rfl (vp_in_nI (n := 0) (N := 1) (by decide) (by decide)) rfl dL_law_1501 ?_
  refine lv_iload hx hb dL_law_1502 (lv_at hl 0 rfl) ?_
  refine lv_if_eq (tgt := 1511) hx hb dL_law_1504 (by decide) (fun c_2 => ?_) (fun c_2 => ?_)
  · have c_2 := bI_z c_2
    refine lv_lconst (v := 0) hx hb dL_law_1511 (by decide) ?_
    refine k_lcmpE hx hb dL_law_1512 (pk_uLs.trans (by rw [hy6, c_2]; rfl)) ?_
    refine lv_if_eq (tgt := 1518) hx hb dL_law_1513 (by decide) (fun _ => ?_) (fun q8 => absurd (by decide) q8)
    refine lv_goto (tgt := 2161) hx hb dL_law_1518 (by decide) ?_
    refine W.widen (k := cells + 30) (n := slots + 200) (show cells + 1 ≤ cells + 30 by omega) (show slots + 6 ≤ slots + 200 by omega) ?_
    exact kk U (vp_updL f 0 (if f_is 16 (g_vo G) (nI n1) = true then 1 else 0)) 0 k _ _ _ hw (lv_sub hl [2, 3, 4, 5, 6] rfl)
  · have c_2 := bI_nz c_2
    refine lv_lconst (v := 1) hx hb dL_law_1507 (by decide) ?_
    refine lv_goto (tgt := 1512) hx hb dL_law_1508 (by decide) ?_
    refine k_lcmpE hx hb dL_law_1512 (pk_uLs.trans (by rw [hy6, c_2]; rfl)) ?_
    refine lv_if_eq (tgt := 1518) hx hb dL_law_1513 (by decide) (fun _ => ?_) (fun q8 => absurd (by decide) q8)
    refine lv_goto (tgt := 2161) hx hb dL_law_1518 (by decide) ?_
    refine W.widen (k := cells + 30) (n := slots + 200) (show cells + 1 ≤ cells + 30 by omega) (show slots + 6 ≤ slots + 200 by omega) ?_
    exact kk U (vp_updL f 0 (if f_is 16 (g_vo G) (nI n1) = true then 1 else 0)) 0 k _ _ _ hw (lv_sub hl [2, 3, 4, 5, 6] rfl)

set_option maxHeartbeats 4000000 in
set_option maxRecDepth 100000 in
theorem la_isGivenUp_1 {p9 : Program} {l : Launch} {e : Env} {s9 : State} {m : MethodId} {below : List Frame} {meth : Method} {c : Code} {b L : Nat} {xs : Nat → Int32} (C0 : lw_At p9 s9 m meth c b L xs) (hflags : l.stackTraces = false) (hL : L ≤ 2048) (E : Ev) (hK : va_K E.1 vwCl (tysE E) s9) (hG : Gx s9) (hZ : Zx (aL s9) s9 s9.heap) {Q : State → Prop} (x o : Nat) (A T B M : Nat → Nat) (S U : CS) (G : HS) (th : Int32) (Hb : MH) (a k : Fn) (f : Nat → Int64) (i cells slots : Nat) (hi : i + 4 ≤ L) (z1 : Int32) (e1 : xs (i + 1) = z1) (hy0 : t_sail G z1 = 1) (hy1 : n_ns Hb ≤ 5) (hy2 : n_np Hb ≤ 16) (hy3 : n_nw Hb ≤ 4) (hy4 : ∀ z1, z1 < n_np Hb → n_so Hb z1 < 5) (hy5 : d_in z1 0 (nI (n_np Hb) - 1) = false) (hc9 : cells + 30 ≤ 1033879) (hs9 : slots + 200 ≤ 5994467) (kk : ∀ (U1 : CS) (f1 : Nat → Int64) (t1 : Int32) (k1 : Fn) (H : Heap) (locs : List Loc) (ls : Array Slot), Wd E (aL s9) s9.heap (wX x A T B ++ wC E A (B 0) S ++ wC E T (B 0) U1 ++ wG E B G ++ [(o, aJ E 1 f1)] ++ wN E M (t1, Hb, a, k1)) H locs → lv_has ls 9 [(0, .ref b), (1, .ref x), (2, .ref (M 0)), (3, .ref o), (4, .int (nI i))] → W p9 l e room_1 s9 m #[Value.ref b] below meth c H locs (cells + 30) (slots + 200) Q (F0 m 2161 ls [])) {H : Heap} {locs : List Loc} {ls : Array Slot} (hw : Wd E (aL s9) s9.heap (wX x A T B ++ wC E A (B 0) S ++ wC E T (B 0) U ++ wG E B G ++ [(o, aJ E 1 f)] ++ wN E M (th, Hb, a, k)) H locs) (hl : lv_has ls 9 [(0, .ref b), (1, .ref x), (2, .ref (M 0)), (3, .ref o), (4, .int (nI i))]) : W p9 l e room_1 s9 m #[Value.ref b] below meth c H locs cells slots Q (F0 m 1521 ls []) := by
  obtain ⟨hx, hb, hr, hml, hown, hts0, hX, hbl, hlocks, hgv⟩ := C0
  have hts : ∀ w ∈ wsL_law, w.before #[Value.ref b] s9 = true := fun w h => hts0 w (wsL_law_in w h)
  have hown : s9.vm.findClass RL = some m.cls := hown
  have hA : ∀ q, s9.heap.size ≤ q → aL s9 q := fun _ h => h
  refine lv_aload_n hx hb dL_law_1521 rfl (lv_at hl 1 rfl) ?_
  refine lv_aload_n hx hb dL_law_1522 rfl (lv_at hl 0 rfl) ?_
  refine lv_iload hx hb dL_law_1523 (lv_at hl 4 rfl) ?_
  refine lv_iconst (v := 1) hx hb dL_law_1525 (by decide) ?_
  refine k_iaddN (a := i) (b := 1) hx hb dL_law_1526 ?_
  refine k_sldv (i := i + 1) (v := z1) hx hb hX hbl hw (by omega) (by omega) e1 dL_law_1527 ?_
  refine lv_aload_n hx hb dL_law_1528 rfl (lv_at hl 3 rfl) ?_
  refine krx_i (ws' := wX x A T B ++ wC E A (B 0) S ++ wC E T (B 0) U ++ wG E B G ++ [(o, aJ E 1 f)] ++ wN E M (th, Hb, a, k)) (vx_runSX (As := [.ref x, .int z1, .ref o]) (rest := []) ⟨hx, hb, hml, hown, hts⟩ (c_L_isGivenUp_1 l hflags E x A T B S U G z1 o f hy0 _) (vx_cwSW 3 hts gL_law_L_isGivenUp rfl rfl rfl hd_L_isGivenUp ⟨Nat.le_of_ble_eq_true rfl, Nat.le_of_ble_eq_true rfl⟩) (rpX (AV := [.ref x, .int z1, .ref o]) hw hK hG hZ hA rp_86) rfl rfl hl.1 rfl (lv_room (Nat.le_of_ble_eq_true rfl)) dL_law_1529 ⟨(show cells + 1 ≤ 1033879 by omega), (show slots + 6 ≤ 5994467 by omega)⟩) hw hA rp_86 rp_86 (fun H locs ce9 q9 t_1 hw hy1 hy2 hy3 => absurd rfl t_1) (fun H locs t_1 hw => ?_)
  refine lv_istore (lv' := [(5, .int 1), (0, .ref b), (1, .ref x), (2, .ref (M 0)), (3, .ref o), (4, .int (nI i))]) hx hb dL_law_1532 hl (by decide) rfl (fun ls hl => ?_)
  refine lv_aload_n hx hb dL_law_1534 rfl (lv_at hl 3 rfl) ?_
  refine lv_aload_n hx hb dL_law_1535 rfl (lv_at hl 1 rfl) ?_
  refine lv_iload hx hb dL_law_1536 (lv_at hl 5 rfl) ?_
  refine lv_iconst (v := 1) hx hb dL_law_1538 (by decide) ?_
  refine k_iaddN (a := i) (b := 1) hx hb dL_law_1539 ?_
  refine k_sldv (i := i + 1) (v := z1) hx hb hX hbl hw (by omega) (by omega) e1 dL_law_1540 ?_
  refine kr_i (ws' := wX x A T B ++ wC E A (B 0) S ++ wC E T (B 0) U ++ wG E B G ++ [(o, aJ E 1 f)] ++ wN E M (1, Hb, a, k)) (va_runV (As := [.int z1]) (rest := []) ⟨hx, hb, hml, hown, hts⟩ (c_X3_isGivenUp_1 l E M th Hb a k z1 hy1 hy2 hy3 hy4 hy5 _) (cwV 1 hts gL_law_X3_isGivenUp rfl rfl rfl ⟨rfl, hd_X3_isGivenUp⟩ ⟨Nat.le_of_ble_eq_true rfl, Nat.le_of_ble_eq_true rfl⟩) (pwV (ci := 3) (q0 := 22) (C := RX3) hw hK rfl rfl rfl (rpS (AV := [.ref (M 0), .int z1]) hw hK hG rp_88)) rfl rfl hl.1 rfl (lv_room (Nat.le_of_ble_eq_true rfl)) dL_law_1541 ⟨(show cells + 1 + 0 ≤ 1033879 by omega), (show slots + 6 + 0 ≤ 5994467 by omega)⟩) hw hA rp_87 (fun H locs hw => ?_)
  refine lv_istore (lv' := [(6, .int (bI false)), (5, .int 1), (0, .ref b), (1, .ref x), (2, .ref (M 0)), (3, .ref o), (4, .int (nI i))]) hx hb dL_law_1544 hl (by decide) rfl (fun ls hl => ?_)
  refine lv_aload_n hx hb dL_law_1546 rfl (lv_at hl 4 rfl) ?_
  refine kr_i (ws' := wX x A T B ++ wC E A (B 0) S ++ wC E T (B 0) U ++ wG E B G ++ [(o, aJ E 1 f)] ++ wN E M (1, Hb, a, k)) (va_runV (As := []) (rest := []) ⟨hx, hb, hml, hown, hts⟩ (c_X3_thrown l E M 1 Hb a k  _) (cwV 0 hts gL_law_X3_thrown rfl rfl rfl ⟨rfl, hd_X3_thrown⟩ ⟨Nat.le_of_ble_eq_true rfl, Nat.le_of_ble_eq_true rfl⟩) (pwV (ci := 3) (q0 := 22) (C := RX3) hw hK rfl rfl rfl (rpS (AV := [.ref (M 0)]) hw hK hG rp_88)) rfl rfl hl.1 rfl (lv_room (Nat.le_of_ble_eq_true rfl)) dL_law_1547 ⟨(show cells + 1 + 0 ≤ 1033879 by omega), (show slots + 6 + 0 ≤ 5994467 by omega)⟩) hw hA rp_88 (fun H locs hw => ?_)
  refine lv_iload hx hb dL_law_1550 (lv_at hl 1 rfl) ?_
  refine lv_icmp_eq (tgt := 1557) hx hb dL_law_1552 (by decide) (fun _ => ?_) (fun q8 => absurd (by decide) q8)
  refine lv_iload hx hb dL_law_1557 (lv_at hl 1 rfl) ?_
  refine lv_if_ne (tgt := 1581) hx hb dL_law_1559 (by decide) (fun _ => ?_) (fun q8 => absurd q8 (by decide))
  refine lv_goto (tgt := 2161) hx hb dL_law_1581 (by decide) ?_
  refine W.widen (k := cells + 30) (n := slots + 200) (show cells + 1 ≤ cells + 30 by omega) (show slots + 6 ≤ slots + 200 by omega) ?_
  exact kk U f 1 k _ _ _ hw (lv_sub hl [2, 3, 4, 5, 6] rfl)

set_option maxHeartbeats 4000000 in
set_option maxRecDepth 100000 in
theorem la_isGivenUp {p9 : Program} {l : Launch} {e : Env} {s9 : State} {m : MethodId} {below : List Frame} {meth : Method} {c : Code} {b L : Nat} {xs : Nat → Int32} (C0 : lw_At p9 s9 m meth c b L xs) (hflags : l.stackTraces = false) (hL : L ≤ 2048) (E : Ev) (hK : va_K E.1 vwCl (tysE E) s9) (hG : Gx s9) (hZ : Zx (aL s9) s9 s9.heap) {Q : State → Prop} (x o : Nat) (A T B M : Nat → Nat) (S U : CS) (G : HS) (th : Int32) (Hb : MH) (a k : Fn) (f : Nat → Int64) (i cells slots : Nat) (hi : i + 4 ≤ L) (n1 : Nat) (e1 : xs (i + 1) = nI n1) (hy0 : t_sail G (nI n1) = 0) (hy1 : n_ns Hb ≤ 5) (hy2 : n_np Hb ≤ 16) (hy3 : n_nw Hb ≤ 4) (hy4 : ∀ n1, n1 < n_np Hb → n_so Hb n1 < 5) (hy5 : n1 < n_np Hb) (hy6 : f_is 16 (g_gi G) (nI n1) = (if a (18 + 2 * n1 + 1) = 1 then true else false)) (hc9 : cells + 30 ≤ 1033879) (hs9 : slots + 200 ≤ 5994467) (kk : ∀ (U1 : CS) (f1 : Nat → Int64) (t1 : Int32) (k1 : Fn) (H : Heap) (locs : List Loc) (ls : Array Slot), Wd E (aL s9) s9.heap (wX x A T B ++ wC E A (B 0) S ++ wC E T (B 0) U1 ++ wG E B G ++ [(o, aJ E 1 f1)] ++ wN E M (t1, Hb, a, k1)) H locs → lv_has ls 9 [(0, .ref b), (1, .ref x), (2, .ref (M 0)), (3, .ref o), (4, .int (nI i))] → W p9 l e room_1 s9 m #[Value.ref b] below meth c H locs (cells + 30) (slots + 200) Q (F0 m 2161 ls [])) {H : Heap} {locs : List Loc} {ls : Array Slot} (hw : Wd E (aL s9) s9.heap (wX x A T B ++ wC E A (B 0) S ++ wC E T (B 0) U ++ wG E B G ++ [(o, aJ E 1 f)] ++ wN E M (th, Hb, a, k)) H locs) (hl : lv_has ls 9 [(0, .ref b), (1, .ref x), (2, .ref (M 0)), (3, .ref o), (4, .int (nI i))]) : W p9 l e room_1 s9 m #[Value.ref b] below meth c H locs cells slots Q (F0 m 1521 ls []) := by
  obtain ⟨hx, hb, hr, hml, hown, hts0, hX, hbl, hlocks, hgv⟩ := C0
  have hts : ∀ w ∈ wsL_law, w.before #[Value.ref b] s9 = true := fun w h => hts0 w (wsL_law_in w h)
  have hown : s9.vm.findClass RL = some m.cls := hown
  have hA : ∀ q, s9.heap.size ≤ q → aL s9 q := fun _ h => h
  refine lv_aload_n hx hb dL_law_1521 rfl (lv_at hl 1 rfl) ?_
  refine lv_aload_n hx hb dL_law_1522 rfl (lv_at hl 0 rfl) ?_
  refine lv_iload hx hb dL_law_1523 (lv_at hl 4 rfl) ?_
  refine lv_iconst (v := 1) hx hb dL_law_1525 (by decide) ?_
  refine k_iaddN (a := i) (b := 1) hx hb dL_law_1526 ?_
  refine k_sldv (i := i + 1) (v := nI n1) hx hb hX hbl hw (by omega) (by omega) e1 dL_law_1527 ?_
  refine lv_aload_n hx hb dL_law_1528 rfl (lv_at hl 3 rfl) ?_
  refine krx_i (ws' := wX x A T B ++ wC E A (B 0) S ++ wC E T (B 0) U ++ wG E B G ++ [(o, aJ E 1 (vp_updL f 0 (if f_is 16 (g_gi G) (nI n1) = true then 1 else 0)))] ++ wN E M (th, Hb, a, k)) (vx_runSX (As := [.ref x, .int (nI n1), .ref o]) (rest := []) ⟨hx, hb, hml, hown, hts⟩ (c_L_isGivenUp l hflags E x A T B S U G (nI n1) o f hy0 _) (vx_cwSW 3 hts gL_law_L_isGivenUp rfl rfl rfl hd_L_isGivenUp ⟨Nat.le_of_ble_eq_true rfl, Nat.le_of_ble_eq_true rfl⟩) (rpX (AV := [.ref x, .int (nI n1), .ref o]) hw hK hG hZ hA rp_86) rfl rfl hl.1 rfl (lv_room (Nat.le_of_ble_eq_true rfl)) dL_law_1529 ⟨(show cells + 1 ≤ 1033879 by omega), (show slots + 6 ≤ 5994467 by omega)⟩) hw hA rp_93 rp_86 (fun H locs ce9 q9 t_1 hw hy1 hy2 hy3 => absurd rfl t_1) (fun H locs t_1 hw => ?_)
  refine lv_istore (lv' := [(5, .int 0), (0, .ref b), (1, .ref x), (2, .ref (M 0)), (3, .ref o), (4, .int (nI i))]) hx hb dL_law_1532 hl (by decide) rfl (fun ls hl => ?_)
  refine lv_aload_n hx hb dL_law_1534 rfl (lv_at hl 3 rfl) ?_
  refine lv_aload_n hx hb dL_law_1535 rfl (lv_at hl 1 rfl) ?_
  refine lv_iload hx hb dL_law_1536 (lv_at hl 5 rfl) ?_
  refine lv_iconst (v := 1) hx hb dL_law_1538 (by decide) ?_
  refine k_iaddN (a := i) (b := 1) hx hb dL_law_1539 ?_
  refine k_sldv (i := i + 1) (v := nI n1) hx hb hX hbl hw (by omega) (by omega) e1 dL_law_1540 ?_
  refine kr_i (ws' := wX x A T B ++ wC E A (B 0) S ++ wC E T (B 0) U ++ wG E B G ++ [(o, aJ E 1 (vp_updL f 0 (if f_is 16 (g_gi G) (nI n1) = true then 1 else 0)))] ++ wN E M (0, Hb, a, k)) (va_runV (As := [.int (nI n1)]) (rest := []) ⟨hx, hb, hml, hown, hts⟩ (c_X3_isGivenUp l E M th Hb a k n1 hy1 hy2 hy3 hy4 hy5 _) (cwV 1 hts gL_law_X3_isGivenUp rfl rfl rfl ⟨rfl, hd_X3_isGivenUp⟩ ⟨Nat.le_of_ble_eq_true rfl, Nat.le_of_ble_eq_true rfl⟩) (pwV (ci := 3) (q0 := 22) (C := RX3) hw hK rfl rfl rfl (rpS (AV := [.ref (M 0), .int (nI n1)]) hw hK hG rp_88)) rfl rfl hl.1 rfl (lv_room (Nat.le_of_ble_eq_true rfl)) dL_law_1541 ⟨(show cells + 1 + 0 ≤ 1033879 by omega), (show slots + 6 + 0 ≤ 5994467 by omega)⟩) hw hA rp_87 (fun H locs hw => ?_)
  refine lv_istore (lv' := [(6, .int (bI (if a (18 + 2 * n1 + 1) = 1 then true else false))), (5, .int 0), (0, .ref b), (1, .ref x), (2, .ref (M 0)), (3, .ref o), (4, .int (nI i))]) hx hb dL_law_1544 hl (by decide) rfl (fun ls hl => ?_)
  refine lv_aload_n hx hb dL_law_1546 rfl (lv_at hl 4 rfl) ?_
  refine kr_i (ws' := wX x A T B ++ wC E A (B 0) S ++ wC E T (B 0) U ++ wG E B G ++ [(o, aJ E 1 (vp_updL f 0 (if f_is 16 (g_gi G) (nI n1) = true then 1 else 0)))] ++ wN E M (0, Hb, a, k)) (va_runV (As := []) (rest := []) ⟨hx, hb, hml, hown, hts⟩ (c_X3_thrown l E M 0 Hb a k  _) (cwV 0 hts gL_law_X3_thrown rfl rfl rfl ⟨rfl, hd_X3_thrown⟩ ⟨Nat.le_of_ble_eq_true rfl, Nat.le_of_ble_eq_true rfl⟩) (pwV (ci := 3) (q0 := 22) (C := RX3) hw hK rfl rfl rfl (rpS (AV := [.ref (M 0)]) hw hK hG rp_88)) rfl rfl hl.1 rfl (lv_room (Nat.le_of_ble_eq_true rfl)) dL_law_1547 ⟨(show cells + 1 + 0 ≤ 1033879 by omega), (show slots + 6 + 0 ≤ 5994467 by omega)⟩) hw hA rp_88 (fun H locs hw => ?_)
  refine lv_iload hx hb dL_law_1550 (lv_at hl 1 rfl) ?_
  refine lv_icmp_eq (tgt := 1557) hx hb dL_law_1552 (by decide) (fun _ => ?_) (fun q8 => absurd (by decide) q8)
  refine lv_iload hx hb dL_law_1557 (lv_at hl 1 rfl) ?_
  refine lv_if_ne (tgt := 1581) hx hb dL_law_1559 (by decide) (fun q8 => absurd (by decide) q8) (fun _ => ?_)
  refine lv_aload_n hx hb dL_law_1562 rfl (lv_at hl 5 rfl) ?_
  refine lv_iconst (v := 0) hx hb dL_law_1563 (by decide) ?_
  refine k_lld (v := (vp_updL f 0 (if f_is 16 (g_gi G) (nI n1) = true then 1 else 0)) 0) hx hb hK hw 21 rfl (vp_in_nI (n := 0) (N := 1) (by decide) (by decide)) rfl dL_law_1564 ?_
  refine lv_iload hx hb dL_law_1565 (lv_at hl 0 rfl) ?_
  refine lv_if_eq (tgt := 1574) hx hb dL_law_1567 (by decide) (fun c_2 => ?_) (fun c_2 => ?_)
  · have c_2 := bI_z c_2
    refine lv_lconst (v := 0) hx hb dL_law_1574 (by decide) ?_
    refine k_lcmpE hx hb dL_law_1575 (pk_uLs.trans (by rw [hy6, c_2]; rfl)) ?_
    refine lv_if_eq (tgt := 1581) hx hb dL_law_1576 (by decide) (fun _ => ?_) (fun q8 => absurd (by decide) q8)
    refine lv_goto (tgt := 2161) hx hb dL_law_1581 (by decide) ?_
    refine W.widen (k := cells + 30) (n := slots + 200) (show cells + 1 ≤ cells + 30 by omega) (show slots + 6 ≤ slots + 200 by omega) ?_
    exact kk U (vp_updL f 0 (if f_is 16 (g_gi G) (nI n1) = true then 1 else 0)) 0 k _ _ _ hw (lv_sub hl [2, 3, 4, 5, 6] rfl)
  · have c_2 := bI_nz c_2
    refine lv_lconst (v := 1) hx hb dL_law_1570 (by decide) ?_
    refine lv_goto (tgt := 1575) hx hb dL_law_1571 (by decide) ?_
    refine k_lcmpE hx hb dL_law_1575 (pk_uLs.trans (by rw [hy6, c_2]; rfl)) ?_
    refine lv_if_eq (tgt := 1581) hx hb dL_law_1576 (by decide) (fun _ => ?_) (fun q8 => absurd (by decide) q8)
    refine lv_goto (tgt := 2161) hx hb dL_law_1581 (by decide) ?_
    refine W.widen (k := cells + 30) (n := slots + 200) (show cells + 1 ≤ cells + 30 by omega) (show slots + 6 ≤ slots + 200 by omega) ?_
    exact kk U (vp_updL f 0 (if f_is 16 (g_gi G) (nI n1) = true then 1 else 0)) 0 k _ _ _ hw (lv_sub hl [2, 3, 4, 5, 6] rfl)

set_option maxHeartbeats 4000000 in
set_option maxRecDepth 100000 in
theorem la_candleOf_1 {p9 : Program} {l : Launch} {e : Env} {s9 : State} {m : MethodId} {below : List Frame} {meth : Method} {c : Code} {b L : Nat} {xs : Nat → Int32} (C0 : lw_At p9 s9 m meth c b L xs) (hflags : l.stackTraces = false) (hL : L ≤ 2048) (E : Ev) (hK : va_K E.1 vwCl (tysE E) s9) (hG : Gx s9) (hZ : Zx (aL s9) s9 s9.heap) {Q : State → Prop} (x o : Nat) (A T B M : Nat → Nat) (S U : CS) (G : HS) (th : Int32) (Hb : MH) (a k : Fn) (f : Nat → Int64) (i cells slots : Nat) (hi : i + 4 ≤ L) (z1 : Int32) (e1 : xs (i + 1) = z1) (hy0 : t_sail G z1 = 1) (hy1 : n_ns Hb ≤ 5) (hy2 : n_np Hb ≤ 16) (hy3 : n_nw Hb ≤ 4) (hy4 : ∀ z1, z1 < n_np Hb → n_so Hb z1 < 5) (hy5 : d_in z1 0 (nI (n_np Hb) - 1) = false) (hc9 : cells + 30 ≤ 1033879) (hs9 : slots + 200 ≤ 5994467) (kk : ∀ (U1 : CS) (f1 : Nat → Int64) (t1 : Int32) (k1 : Fn) (H : Heap) (locs : List Loc) (ls : Array Slot), Wd E (aL s9) s9.heap (wX x A T B ++ wC E A (B 0) S ++ wC E T (B 0) U1 ++ wG E B G ++ [(o, aJ E 1 f1)] ++ wN E M (t1, Hb, a, k1)) H locs → lv_has ls 9 [(0, .ref b), (1, .ref x), (2, .ref (M 0)), (3, .ref o), (4, .int (nI i))] → W p9 l e room_1 s9 m #[Value.ref b] below meth c H locs (cells + 30) (slots + 200) Q (F0 m 2161 ls [])) {H : Heap} {locs : List Loc} {ls : Array Slot} (hw : Wd E (aL s9) s9.heap (wX x A T B ++ wC E A (B 0) S ++ wC E T (B 0) U ++ wG E B G ++ [(o, aJ E 1 f)] ++ wN E M (th, Hb, a, k)) H locs) (hl : lv_has ls 9 [(0, .ref b), (1, .ref x), (2, .ref (M 0)), (3, .ref o), (4, .int (nI i))]) : W p9 l e room_1 s9 m #[Value.ref b] below meth c H locs cells slots Q (F0 m 1584 ls []) := by
  obtain ⟨hx, hb, hr, hml, hown, hts0, hX, hbl, hlocks, hgv⟩ := C0
  have hts : ∀ w ∈ wsL_law, w.before #[Value.ref b] s9 = true := fun w h => hts0 w (wsL_law_in w h)
  have hown : s9.vm.findClass RL = some m.cls := hown
  have hA : ∀ q, s9.heap.size ≤ q → aL s9 q := fun _ h => h
  refine lv_aload_n hx hb dL_law_1584 rfl (lv_at hl 1 rfl) ?_
  refine lv_aload_n hx hb dL_law_1585 rfl (lv_at hl 0 rfl) ?_
  refine lv_iload hx hb dL_law_1586 (lv_at hl 4 rfl) ?_
  refine lv_iconst (v := 1) hx hb dL_law_1588 (by decide) ?_
  refine k_iaddN (a := i) (b := 1) hx hb dL_law_1589 ?_
  refine k_sldv (i := i + 1) (v := z1) hx hb hX hbl hw (by omega) (by omega) e1 dL_law_1590 ?_
  refine lv_aload_n hx hb dL_law_1591 rfl (lv_at hl 3 rfl) ?_
  refine krx_i (ws' := wX x A T B ++ wC E A (B 0) S ++ wC E T (B 0) U ++ wG E B G ++ [(o, aJ E 1 f)] ++ wN E M (th, Hb, a, k)) (vx_runSX (As := [.ref x, .int z1, .ref o]) (rest := []) ⟨hx, hb, hml, hown, hts⟩ (c_L_candleOf_1 l hflags E x A T B S U G z1 o f hy0 _) (vx_cwSW 3 hts gL_law_L_candleOf rfl rfl rfl hd_L_candleOf ⟨Nat.le_of_ble_eq_true rfl, Nat.le_of_ble_eq_true rfl⟩) (rpX (AV := [.ref x, .int z1, .ref o]) hw hK hG hZ hA rp_86) rfl rfl hl.1 rfl (lv_room (Nat.le_of_ble_eq_true rfl)) dL_law_1592 ⟨(show cells + 1 ≤ 1033879 by omega), (show slots + 6 ≤ 5994467 by omega)⟩) hw hA rp_86 rp_86 (fun H locs ce9 q9 t_1 hw hy1 hy2 hy3 => absurd rfl t_1) (fun H locs t_1 hw => ?_)
  refine lv_istore (lv' := [(5, .int 1), (0, .ref b), (1, .ref x), (2, .ref (M 0)), (3, .ref o), (4, .int (nI i))]) hx hb dL_law_1595 hl (by decide) rfl (fun ls hl => ?_)
  refine lv_aload_n hx hb dL_law_1597 rfl (lv_at hl 3 rfl) ?_
  refine lv_aload_n hx hb dL_law_1598 rfl (lv_at hl 1 rfl) ?_
  refine lv_iload hx hb dL_law_1599 (lv_at hl 5 rfl) ?_
  refine lv_iconst (v := 1) hx hb dL_law_1601 (by decide) ?_
  refine k_iaddN (a := i) (b := 1) hx hb dL_law_1602 ?_
  refine k_sldv (i := i + 1) (v := z1) hx hb hX hbl hw (by omega) (by omega) e1 dL_law_1603 ?_
  refine kr_i (ws' := wX x A T B ++ wC E A (B 0) S ++ wC E T (B 0) U ++ wG E B G ++ [(o, aJ E 1 f)] ++ wN E M (1, Hb, a, k)) (va_runV (As := [.int z1]) (rest := []) ⟨hx, hb, hml, hown, hts⟩ (c_X3_candleOf_1 l E M th Hb a k z1 hy1 hy2 hy3 hy4 hy5 _) (cwV 1 hts gL_law_X3_candleOf rfl rfl rfl ⟨rfl, hd_X3_candleOf⟩ ⟨Nat.le_of_ble_eq_true rfl, Nat.le_of_ble_eq_true rfl⟩) (pwV (ci := 3) (q0 := 22) (C := RX3) hw hK rfl rfl rfl (rpS (AV := [.ref (M 0), .int z1]) hw hK hG rp_88)) rfl rfl hl.1 rfl (lv_room (Nat.le_of_ble_eq_true rfl)) dL_law_1604 ⟨(show cells + 1 + 0 ≤ 1033879 by omega), (show slots + 6 + 0 ≤ 5994467 by omega)⟩) hw hA rp_87 (fun H locs hw => ?_)
  refine lv_istore (lv' := [(6, .int 0), (5, .int 1), (0, .ref b), (1, .ref x), (2, .ref (M 0)), (3, .ref o), (4, .int (nI i))]) hx hb dL_law_1607 hl (by decide) rfl (fun ls hl => ?_)
  refine lv_aload_n hx hb dL_law_1609 rfl (lv_at hl 4 rfl) ?_
  refine kr_i (ws' := wX x A T B ++ wC E A (B 0) S ++ wC E T (B 0) U ++ wG E B G ++ [(o, aJ E 1 f)] ++ wN E M (1, Hb, a, k)) (va_runV (As := []) (rest := []) ⟨hx, hb, hml, hown, hts⟩ (c_X3_thrown l E M 1 Hb a k  _) (cwV 0 hts gL_law_X3_thrown rfl rfl rfl ⟨rfl, hd_X3_thrown⟩ ⟨Nat.le_of_ble_eq_true rfl, Nat.le_of_ble_eq_true rfl⟩) (pwV (ci := 3) (q0 := 22) (C := RX3) hw hK rfl rfl rfl (rpS (AV := [.ref (M 0)]) hw hK hG rp_88)) rfl rfl hl.1 rfl (lv_room (Nat.le_of_ble_eq_true rfl)) dL_law_1610 ⟨(show cells + 1 + 0 ≤ 1033879 by omega), (show slots + 6 + 0 ≤ 5994467 by omega)⟩) hw hA rp_88 (fun H locs hw => ?_)
  refine lv_iload hx hb dL_law_1613 (lv_at hl 1 rfl) ?_
  refine lv_icmp_eq (tgt := 1620) hx hb dL_law_1615 (by decide) (fun _ => ?_) (fun q8 => absurd (by decide) q8)
  refine lv_iload hx hb dL_law_1620 (lv_at hl 1 rfl) ?_
  refine lv_if_ne (tgt := 1637) hx hb dL_law_1622 (by decide) (fun _ => ?_) (fun q8 => absurd q8 (by decide))
  refine lv_goto (tgt := 2161) hx hb dL_law_1637 (by decide) ?_
  refine W.widen (k := cells + 30) (n := slots + 200) (show cells + 1 ≤ cells + 30 by omega) (show slots + 6 ≤ slots + 200 by omega) ?_
  exact kk U f 1 k _ _ _ hw (lv_sub hl [2, 3, 4, 5, 6] rfl)

set_option maxHeartbeats 4000000 in
set_option maxRecDepth 100000 in
theorem la_candleOf {p9 : Program} {l : Launch} {e : Env} {s9 : State} {m : MethodId} {below : List Frame} {meth : Method} {c : Code} {b L : Nat} {xs : Nat → Int32} (C0 : lw_At p9 s9 m meth c b L xs) (hflags : l.stackTraces = false) (hL : L ≤ 2048) (E : Ev) (hK : va_K E.1 vwCl (tysE E) s9) (hG : Gx s9) (hZ : Zx (aL s9) s9 s9.heap) {Q : State → Prop} (x o : Nat) (A T B M : Nat → Nat) (S U : CS) (G : HS) (th : Int32) (Hb : MH) (a k : Fn) (f : Nat → Int64) (i cells slots : Nat) (hi : i + 4 ≤ L) (n1 : Nat) (e1 : xs (i + 1) = nI n1) (hy0 : t_sail G (nI n1) = 0) (hy1 : n_ns Hb ≤ 5) (hy2 : n_np Hb ≤ 16) (hy3 : n_nw Hb ≤ 4) (hy4 : ∀ n1, n1 < n_np Hb → n_so Hb n1 < 5) (hy5 : n1 < n_np Hb) (hy6 : (f_at 16 (c_ca S) (nI n1) : Int32).toInt64 = (a (18 + 2 * n1 + 0) : Int32).toInt64) (hc9 : cells + 30 ≤ 1033879) (hs9 : slots + 200 ≤ 5994467) (kk : ∀ (U1 : CS) (f1 : Nat → Int64) (t1 : Int32) (k1 : Fn) (H : Heap) (locs : List Loc) (ls : Array Slot), Wd E (aL s9) s9.heap (wX x A T B ++ wC E A (B 0) S ++ wC E T (B 0) U1 ++ wG E B G ++ [(o, aJ E 1 f1)] ++ wN E M (t1, Hb, a, k1)) H locs → lv_has ls 9 [(0, .ref b), (1, .ref x), (2, .ref (M 0)), (3, .ref o), (4, .int (nI i))] → W p9 l e room_1 s9 m #[Value.ref b] below meth c H locs (cells + 30) (slots + 200) Q (F0 m 2161 ls [])) {H : Heap} {locs : List Loc} {ls : Array Slot} (hw : Wd E (aL s9) s9.heap (wX x A T B ++ wC E A (B 0) S ++ wC E T (B 0) U ++ wG E B G ++ [(o, aJ E 1 f)] ++ wN E M (th, Hb, a, k)) H locs) (hl : lv_has ls 9 [(0, .ref b), (1, .ref x), (2, .ref (M 0)), (3, .ref o), (4, .int (nI i))]) : W p9 l e room_1 s9 m #[Value.ref b] below meth c H locs cells slots Q (F0 m 1584 ls []) := by
  obtain ⟨hx, hb, hr, hml, hown, hts0, hX, hbl, hlocks, hgv⟩ := C0
  have hts : ∀ w ∈ wsL_law, w.before #[Value.ref b] s9 = true := fun w h => hts0 w (wsL_law_in w h)
  have hown : s9.vm.findClass RL = some m.cls := hown
  have hA : ∀ q, s9.heap.size ≤ q → aL s9 q := fun _ h => h
  refine lv_aload_n hx hb dL_law_1584 rfl (lv_at hl 1 rfl) ?_
  refine lv_aload_n hx hb dL_law_1585 rfl (lv_at hl 0 rfl) ?_
  refine lv_iload hx hb dL_law_1586 (lv_at hl 4 rfl) ?_
  refine lv_iconst (v := 1) hx hb dL_law_1588 (by decide) ?_
  refine k_iaddN (a := i) (b := 1) hx hb dL_law_1589 ?_
  refine k_sldv (i := i + 1) (v := nI n1) hx hb hX hbl hw (by omega) (by omega) e1 dL_law_1590 ?_
  refine lv_aload_n hx hb dL_law_1591 rfl (lv_at hl 3 rfl) ?_
  refine krx_i (ws' := wX x A T B ++ wC E A (B 0) S ++ wC E T (B 0) U ++ wG E B G ++ [(o, aJ E 1 (vp_updL f 0 ((f_at 16 (c_ca S) (nI n1) : Int32).toInt64)))] ++ wN E M (th, Hb, a, k)) (vx_runSX (As := [.ref x, .int (nI n1), .ref o]) (rest := []) ⟨hx, hb, hml, hown, hts⟩ (c_L_candleOf l hflags E x A T B S U G (nI n1) o f hy0 _) (vx_cwSW 3 hts gL_law_L_candleOf rfl rfl rfl hd_L_candleOf ⟨Nat.le_of_ble_eq_true rfl, Nat.le_of_ble_eq_true rfl⟩) (rpX (AV := [.ref x, .int (nI n1), .ref o]) hw hK hG hZ hA rp_86) rfl rfl hl.1 rfl (lv_room (Nat.le_of_ble_eq_true rfl)) dL_law_1592 ⟨(show cells + 1 ≤ 1033879 by omega), (show slots + 6 ≤ 5994467 by omega)⟩) hw hA rp_93 rp_86 (fun H locs ce9 q9 t_1 hw hy1 hy2 hy3 => absurd rfl t_1) (fun H locs t_1 hw => ?_)
  refine lv_istore (lv' := [(5, .int 0), (0, .ref b), (1, .ref x), (2, .ref (M 0)), (3, .ref o), (4, .int (nI i))]) hx hb dL_law_1595 hl (by decide) rfl (fun ls hl => ?_)
  refine lv_aload_n hx hb dL_law_1597 rfl (lv_at hl 3 rfl) ?_
  refine lv_aload_n hx hb dL_law_1598 rfl (lv_at hl 1 rfl) ?_
  refine lv_iload hx hb dL_law_1599 (lv_at hl 5 rfl) ?_
  refine lv_iconst (v := 1) hx hb dL_law_1601 (by decide) ?_
  refine k_iaddN (a := i) (b := 1) hx hb dL_law_1602 ?_
  refine k_sldv (i := i + 1) (v := nI n1) hx hb hX hbl hw (by omega) (by omega) e1 dL_law_1603 ?_
  refine kr_i (ws' := wX x A T B ++ wC E A (B 0) S ++ wC E T (B 0) U ++ wG E B G ++ [(o, aJ E 1 (vp_updL f 0 ((f_at 16 (c_ca S) (nI n1) : Int32).toInt64)))] ++ wN E M (0, Hb, a, k)) (va_runV (As := [.int (nI n1)]) (rest := []) ⟨hx, hb, hml, hown, hts⟩ (c_X3_candleOf l E M th Hb a k n1 hy1 hy2 hy3 hy4 hy5 _) (cwV 1 hts gL_law_X3_candleOf rfl rfl rfl ⟨rfl, hd_X3_candleOf⟩ ⟨Nat.le_of_ble_eq_true rfl, Nat.le_of_ble_eq_true rfl⟩) (pwV (ci := 3) (q0 := 22) (C := RX3) hw hK rfl rfl rfl (rpS (AV := [.ref (M 0), .int (nI n1)]) hw hK hG rp_88)) rfl rfl hl.1 rfl (lv_room (Nat.le_of_ble_eq_true rfl)) dL_law_1604 ⟨(show cells + 1 + 0 ≤ 1033879 by omega), (show slots + 6 + 0 ≤ 5994467 by omega)⟩) hw hA rp_87 (fun H locs hw => ?_)
  refine lv_istore (lv' := [(6, .int (a (18 + 2 * n1 + 0))), (5, .int 0), (0, .ref b), (1, .ref x), (2, .ref (M 0)), (3, .ref o), (4, .int (nI i))]) hx hb dL_law_1607 hl (by decide) rfl (fun ls hl => ?_)
  refine lv_aload_n hx hb dL_law_1609 rfl (lv_at hl 4 rfl) ?_
  refine kr_i (ws' := wX x A T B ++ wC E A (B 0) S ++ wC E T (B 0) U ++ wG E B G ++ [(o, aJ E 1 (vp_updL f 0 ((f_at 16 (c_ca S) (nI n1) : Int32).toInt64)))] ++ wN E M (0, Hb, a, k)) (va_runV (As := []) (rest := []) ⟨hx, hb, hml, hown, hts⟩ (c_X3_thrown l E M 0 Hb a k  _) (cwV 0 hts gL_law_X3_thrown rfl rfl rfl ⟨rfl, hd_X3_thrown⟩ ⟨Nat.le_of_ble_eq_true rfl, Nat.le_of_ble_eq_true rfl⟩) (pwV (ci := 3) (q0 := 22) (C := RX3) hw hK rfl rfl rfl (rpS (AV := [.ref (M 0)]) hw hK hG rp_88)) rfl rfl hl.1 rfl (lv_room (Nat.le_of_ble_eq_true rfl)) dL_law_1610 ⟨(show cells + 1 + 0 ≤ 1033879 by omega), (show slots + 6 + 0 ≤ 5994467 by omega)⟩) hw hA rp_88 (fun H locs hw => ?_)
  refine lv_iload hx hb dL_law_1613 (lv_at hl 1 rfl) ?_
  refine lv_icmp_eq (tgt := 1620) hx hb dL_law_1615 (by decide) (fun _ => ?_) (fun q8 => absurd (by decide) q8)
  refine lv_iload hx hb dL_law_1620 (lv_at hl 1 rfl) ?_
  refine lv_if_ne (tgt := 1637) hx hb dL_law_1622 (by decide) (fun q8 => absurd (by decide) q8) (fun _ => ?_)
  refine lv_aload_n hx hb dL_law_1625 rfl (lv_at hl 5 rfl) ?_
  refine lv_iconst (v := 0) hx hb dL_law_1626 (by decide) ?_
  refine k_lld (v := (vp_updL f 0 ((f_at 16 (c_ca S) (nI n1) : Int32).toInt64)) 0) hx hb hK hw 21 rfl (vp_in_nI (n := 0) (N := 1) (by decide) (by decide)) rfl dL_law_1627 ?_
  refine lv_iload hx hb dL_law_1628 (lv_at hl 0 rfl) ?_
  refine lv_i2l (v := (a (18 + 2 * n1 + 0) : Int32).toInt64) hx hb dL_law_1630 rfl ?_
  refine k_lcmpE hx hb dL_law_1631 (pk_uLs.trans hy6) ?_
  refine lv_if_eq (tgt := 1637) hx hb dL_law_1632 (by decide) (fun _ => ?_) (fun q8 => absurd (by decide) q8)
  refine lv_goto (tgt := 2161) hx hb dL_law_1637 (by decide) ?_
  refine W.widen (k := cells + 30) (n := slots + 200) (show cells + 1 ≤ cells + 30 by omega) (show slots + 6 ≤ slots + 200 by omega) ?_
  exact kk U (vp_updL f 0 ((f_at 16 (c_ca S) (nI n1) : Int32).toInt64)) 0 k _ _ _ hw (lv_sub hl [2, 3, 4, 5, 6] rfl)

set_option maxHeartbeats 4000000 in
set_option maxRecDepth 100000 in
theorem la_isDark_1 {p9 : Program} {l : Launch} {e : Env} {s9 : State} {m : MethodId} {below : List Frame} {meth : Method} {c : Code} {b L : Nat} {xs : Nat → Int32} (C0 : lw_At p9 s9 m meth c b L xs) (hflags : l.stackTraces = false) (hL : L ≤ 2048) (E : Ev) (hK : va_K E.1 vwCl (tysE E) s9) (hG : Gx s9) (hZ : Zx (aL s9) s9 s9.heap) {Q : State → Prop} (x o : Nat) (A T B M : Nat → Nat) (S U : CS) (G : HS) (th : Int32) (Hb : MH) (a k : Fn) (f : Nat → Int64) (i cells slots : Nat) (hi : i + 4 ≤ L) (z1 : Int32) (e1 : xs (i + 1) = z1) (hy0 : t_sail G z1 = 1) (hy1 : n_ns Hb ≤ 5) (hy2 : n_np Hb ≤ 16) (hy3 : n_nw Hb ≤ 4) (hy4 : ∀ z1, z1 < n_np Hb → n_so Hb z1 < 5) (hy5 : d_in z1 0 (nI (n_np Hb) - 1) = false) (hc9 : cells + 30 ≤ 1033879) (hs9 : slots + 200 ≤ 5994467) (kk : ∀ (U1 : CS) (f1 : Nat → Int64) (t1 : Int32) (k1 : Fn) (H : Heap) (locs : List Loc) (ls : Array Slot), Wd E (aL s9) s9.heap (wX x A T B ++ wC E A (B 0) S ++ wC E T (B 0) U1 ++ wG E B G ++ [(o, aJ E 1 f1)] ++ wN E M (t1, Hb, a, k1)) H locs → lv_has ls 9 [(0, .ref b), (1, .ref x), (2, .ref (M 0)), (3, .ref o), (4, .int (nI i))] → W p9 l e room_1 s9 m #[Value.ref b] below meth c H locs (cells + 30) (slots + 200) Q (F0 m 2161 ls [])) {H : Heap} {locs : List Loc} {ls : Array Slot} (hw : Wd E (aL s9) s9.heap (wX x A T B ++ wC E A (B 0) S ++ wC E T (B 0) U ++ wG E B G ++ [(o, aJ E 1 f)] ++ wN E M (th, Hb, a, k)) H locs) (hl : lv_has ls 9 [(0, .ref b), (1, .ref x), (2, .ref (M 0)), (3, .ref o), (4, .int (nI i))]) : W p9 l e room_1 s9 m #[Value.ref b] below meth c H locs cells slots Q (F0 m 1640 ls []) := by
  obtain ⟨hx, hb, hr, hml, hown, hts0, hX, hbl, hlocks, hgv⟩ := C0
  have hts : ∀ w ∈ wsL_law, w.before #[Value.ref b] s9 = true := fun w h => hts0 w (wsL_law_in w h)
  have hown : s9.vm.findClass RL = some m.cls := hown
  have hA : ∀ q, s9.heap.size ≤ q → aL s9 q := fun _ h => h
  refine lv_aload_n hx hb dL_law_1640 rfl (lv_at hl 1 rfl) ?_
  refine lv_aload_n hx hb dL_law_1641 rfl (lv_at hl 0 rfl) ?_
  refine lv_iload hx hb dL_law_1642 (lv_at hl 4 rfl) ?_
  refine lv_iconst (v := 1) hx hb dL_law_1644 (by decide) ?_
  refine k_iaddN (a := i) (b := 1) hx hb dL_law_1645 ?_
  refine k_sldv (i := i + 1) (v := z1) hx hb hX hbl hw (by omega) (by omega) e1 dL_law_1646 ?_
  refine lv_aload_n hx hb dL_law_1647 rfl (lv_at hl 3 rfl) ?_
  refine krx_i (ws' := wX x A T B ++ wC E A (B 0) S ++ wC E T (B 0) U ++ wG E B G ++ [(o, aJ E 1 f)] ++ wN E M (th, Hb, a, k)) (vx_runSX (As := [.ref x, .int z1, .ref o]) (rest := []) ⟨hx, hb, hml, hown, hts⟩ (c_L_isDark_1 l hflags E x A T B S U G z1 o f hy0 _) (vx_cwSW 3 hts gL_law_L_isDark rfl rfl rfl hd_L_isDark ⟨Nat.le_of_ble_eq_true rfl, Nat.le_of_ble_eq_true rfl⟩) (rpX (AV := [.ref x, .int z1, .ref o]) hw hK hG hZ hA rp_86) rfl rfl hl.1 rfl (lv_room (Nat.le_of_ble_eq_true rfl)) dL_law_1648 ⟨(show cells + 1 ≤ 1033879 by omega), (show slots + 6 ≤ 5994467 by omega)⟩) hw hA rp_86 rp_86 (fun H locs ce9 q9 t_1 hw hy1 hy2 hy3 => absurd rfl t_1) (fun H locs t_1 hw => ?_)
  refine lv_istore (lv' := [(5, .int 1), (0, .ref b), (1, .ref x), (2, .ref (M 0)), (3, .ref o), (4, .int (nI i))]) hx hb dL_law_1651 hl (by decide) rfl (fun ls hl => ?_)
  refine lv_aload_n hx hb dL_law_1653 rfl (lv_at hl 3 rfl) ?_
  refine lv_aload_n hx hb dL_law_1654 rfl (lv_at hl 1 rfl) ?_
  refine lv_iload hx hb dL_law_1655 (lv_at hl 5 rfl) ?_
  refine lv_iconst (v := 1) hx hb dL_law_1657 (by decide) ?_
  refine k_iaddN (a := i) (b := 1) hx hb dL_law_1658 ?_
  refine k_sldv (i := i + 1) (v := z1) hx hb hX hbl hw (by omega) (by omega) e1 dL_law_1659 ?_
  refine kr_i (ws' := wX x A T B ++ wC E A (B 0) S ++ wC E T (B 0) U ++ wG E B G ++ [(o, aJ E 1 f)] ++ wN E M (1, Hb, a, k)) (va_runV (As := [.int z1]) (rest := []) ⟨hx, hb, hml, hown, hts⟩ (c_X3_isDark_1 l E M th Hb a k z1 hy1 hy2 hy3 hy4 hy5 _) (cwV 1 hts gL_law_X3_isDark rfl rfl rfl ⟨rfl, hd_X3_isDark⟩ ⟨Nat.le_of_ble_eq_true rfl, Nat.le_of_ble_eq_true rfl⟩) (pwV (ci := 3) (q0 := 22) (C := RX3) hw hK rfl rfl rfl (rpS (AV := [.ref (M 0), .int z1]) hw hK hG rp_88)) rfl rfl hl.1 rfl (lv_room (Nat.le_of_ble_eq_true rfl)) dL_law_1660 ⟨(show cells + 1 + 0 ≤ 1033879 by omega), (show slots + 6 + 0 ≤ 5994467 by omega)⟩) hw hA rp_87 (fun H locs hw => ?_)
  refine lv_istore (lv' := [(6, .int (bI false)), (5, .int 1), (0, .ref b), (1, .ref x), (2, .ref (M 0)), (3, .ref o), (4, .int (nI i))]) hx hb dL_law_1663 hl (by decide) rfl (fun ls hl => ?_)
  refine lv_aload_n hx hb dL_law_1665 rfl (lv_at hl 4 rfl) ?_
  refine kr_i (ws' := wX x A T B ++ wC E A (B 0) S ++ wC E T (B 0) U ++ wG E B G ++ [(o, aJ E 1 f)] ++ wN E M (1, Hb, a, k)) (va_runV (As := []) (rest := []) ⟨hx, hb, hml, hown, hts⟩ (c_X3_thrown l E M 1 Hb a k  _) (cwV 0 hts gL_law_X3_thrown rfl rfl rfl ⟨rfl, hd_X3_thrown⟩ ⟨Nat.le_of_ble_eq_true rfl, Nat.le_of_ble_eq_true rfl⟩) (pwV (ci := 3) (q0 := 22) (C := RX3) hw hK rfl rfl rfl (rpS (AV := [.ref (M 0)]) hw hK hG rp_88)) rfl rfl hl.1 rfl (lv_room (Nat.le_of_ble_eq_true rfl)) dL_law_1666 ⟨(show cells + 1 + 0 ≤ 1033879 by omega), (show slots + 6 + 0 ≤ 5994467 by omega)⟩) hw hA rp_88 (fun H locs hw => ?_)
  refine lv_iload hx hb dL_law_1669 (lv_at hl 1 rfl) ?_
  refine lv_icmp_eq (tgt := 1676) hx hb dL_law_1671 (by decide) (fun _ => ?_) (fun q8 => absurd (by decide) q8)
  refine lv_iload hx hb dL_law_1676 (lv_at hl 1 rfl) ?_
  refine lv_if_ne (tgt := 1700) hx hb dL_law_1678 (by decide) (fun _ => ?_) (fun q8 => absurd q8 (by decide))
  refine lv_goto (tgt := 2161) hx hb dL_law_1700 (by decide) ?_
  refine W.widen (k := cells + 30) (n := slots + 200) (show cells + 1 ≤ cells + 30 by omega) (show slots + 6 ≤ slots + 200 by omega) ?_
  exact kk U f 1 k _ _ _ hw (lv_sub hl [2, 3, 4, 5, 6] rfl)

set_option maxHeartbeats 4000000 in
set_option maxRecDepth 100000 in
theorem la_isDark {p9 : Program} {l : Launch} {e : Env} {s9 : State} {m : MethodId} {below : List Frame} {meth : Method} {c : Code} {b L : Nat} {xs : Nat → Int32} (C0 : lw_At p9 s9 m meth c b L xs) (hflags : l.stackTraces = false) (hL : L ≤ 2048) (E : Ev) (hK : va_K E.1 vwCl (tysE E) s9) (hG : Gx s9) (hZ : Zx (aL s9) s9 s9.heap) {Q : State → Prop} (x o : Nat) (A T B M : Nat → Nat) (S U : CS) (G : HS) (th : Int32) (Hb : MH) (a k : Fn) (f : Nat → Int64) (i cells slots : Nat) (hi : i + 4 ≤ L) (n1 : Nat) (e1 : xs (i + 1) = nI n1) (hy0 : t_sail G (nI n1) = 0) (hy1 : n_ns Hb ≤ 5) (hy2 : n_np Hb ≤ 16) (hy3 : n_nw Hb ≤ 4) (hy4 : ∀ n1, n1 < n_np Hb → n_so Hb n1 < 5) (hy5 : n1 < n_np Hb) (hy6 : f_dark G S (nI n1) = (r_dark Hb a n1)) (hc9 : cells + 30 ≤ 1033879) (hs9 : slots + 200 ≤ 5994467) (kk : ∀ (U1 : CS) (f1 : Nat → Int64) (t1 : Int32) (k1 : Fn) (H : Heap) (locs : List Loc) (ls : Array Slot), Wd E (aL s9) s9.heap (wX x A T B ++ wC E A (B 0) S ++ wC E T (B 0) U1 ++ wG E B G ++ [(o, aJ E 1 f1)] ++ wN E M (t1, Hb, a, k1)) H locs → lv_has ls 9 [(0, .ref b), (1, .ref x), (2, .ref (M 0)), (3, .ref o), (4, .int (nI i))] → W p9 l e room_1 s9 m #[Value.ref b] below meth c H locs (cells + 30) (slots + 200) Q (F0 m 2161 ls [])) {H : Heap} {locs : List Loc} {ls : Array Slot} (hw : Wd E (aL s9) s9.heap (wX x A T B ++ wC E A (B 0) S ++ wC E T (B 0) U ++ wG E B G ++ [(o, aJ E 1 f)] ++ wN E M (th, Hb, a, k)) H locs) (hl : lv_has ls 9 [(0, .ref b), (1, .ref x), (2, .ref (M 0)), (3, .ref o), (4, .int (nI i))]) : W p9 l e room_1 s9 m #[Value.ref b] below meth c H locs cells slots Q (F0 m 1640 ls []) := by
  obtain ⟨hx, hb, hr, hml, hown, hts0, hX, hbl, hlocks, hgv⟩ := C0
  have hts : ∀ w ∈ wsL_law, w.before #[Value.ref b] s9 = true := fun w h => hts0 w (wsL_law_in w h)
  have hown : s9.vm.findClass RL = some m.cls := hown
  have hA : ∀ q, s9.heap.size ≤ q → aL s9 q := fun _ h => h
  refine lv_aload_n hx hb dL_law_1640 rfl (lv_at hl 1 rfl) ?_
  refine lv_aload_n hx hb dL_law_1641 rfl (lv_at hl 0 rfl) ?_
  refine lv_iload hx hb dL_law_1642 (lv_at hl 4 rfl) ?_
  refine lv_iconst (v := 1) hx hb dL_law_1644 (by decide) ?_
  refine k_iaddN (a := i) (b := 1) hx hb dL_law_1645 ?_
  refine k_sldv (i := i + 1) (v := nI n1) hx hb hX hbl hw (by omega) (by omega) e1 dL_law_1646 ?_
  refine lv_aload_n hx hb dL_law_1647 rfl (lv_at hl 3 rfl) ?_
  refine krx_i (ws' := wX x A T B ++ wC E A (B 0) S ++ wC E T (B 0) U ++ wG E B G ++ [(o, aJ E 1 (vp_updL f 0 (if f_dark G S (nI n1) = true then 1 else 0)))] ++ wN E M (th, Hb, a, k)) (vx_runSX (As := [.ref x, .int (nI n1), .ref o]) (rest := []) ⟨hx, hb, hml, hown, hts⟩ (c_L_isDark l hflags E x A T B S U G (nI n1) o f hy0 _) (vx_cwSW 3 hts gL_law_L_isDark rfl rfl rfl hd_L_isDark ⟨Nat.le_of_ble_eq_true rfl, Nat.le_of_ble_eq_true rfl⟩) (rpX (AV := [.ref x, .int (nI n1), .ref o]) hw hK hG hZ hA rp_86) rfl rfl hl.1 rfl (lv_room (Nat.le_of_ble_eq_true rfl)) dL_law_1648 ⟨(show cells + 1 ≤ 1033879 by omega), (show slots + 6 ≤ 5994467 by omega)⟩) hw hA rp_93 rp_86 (fun H locs ce9 q9 t_1 hw hy1 hy2 hy3 => absurd rfl t_1) (fun H locs t_1 hw => ?_)
  refine lv_istore (lv' := [(5, .int 0), (0, .ref b), (1, .ref x), (2, .ref (M 0)), (3, .ref o), (4, .int (nI i))]) hx hb dL_law_1651 hl (by decide) rfl (fun ls hl => ?_)
  refine lv_aload_n hx hb dL_law_1653 rfl (lv_at hl 3 rfl) ?_
  refine lv_aload_n hx hb dL_law_1654 rfl (lv_at hl 1 rfl) ?_
  refine lv_iload hx hb dL_law_1655 (lv_at hl 5 rfl) ?_
  refine lv_iconst (v := 1) hx hb dL_law_1657 (by decide) ?_
  refine k_iaddN (a := i) (b := 1) hx hb dL_law_1658 ?_
  refine k_sldv (i := i + 1) (v := nI n1) hx hb hX hbl hw (by omega) (by omega) e1 dL_law_1659 ?_
  refine kr_i (ws' := wX x A T B ++ wC E A (B 0) S ++ wC E T (B 0) U ++ wG E B G ++ [(o, aJ E 1 (vp_updL f 0 (if f_dark G S (nI n1) = true then 1 else 0)))] ++ wN E M (0, Hb, a, k)) (va_runV (As := [.int (nI n1)]) (rest := []) ⟨hx, hb, hml, hown, hts⟩ (c_X3_isDark l E M th Hb a k n1 hy1 hy2 hy3 hy4 hy5 _) (cwV 1 hts gL_law_X3_isDark rfl rfl rfl ⟨rfl, hd_X3_isDark⟩ ⟨Nat.le_of_ble_eq_true rfl, Nat.le_of_ble_eq_true rfl⟩) (pwV (ci := 3) (q0 := 22) (C := RX3) hw hK rfl rfl rfl (rpS (AV := [.ref (M 0), .int (nI n1)]) hw hK hG rp_88)) rfl rfl hl.1 rfl (lv_room (Nat.le_of_ble_eq_true rfl)) dL_law_1660 ⟨(show cells + 1 + 0 ≤ 1033879 by omega), (show slots + 6 + 0 ≤ 5994467 by omega)⟩) hw hA rp_87 (fun H locs hw => ?_)
  refine lv_istore (lv' := [(6, .int (bI (r_dark Hb a n1))), (5, .int 0), (0, .ref b), (1, .ref x), (2, .ref (M 0)), (3, .ref o), (4, .int (nI i))]) hx hb dL_law_1663 hl (by decide) rfl (fun ls hl => ?_)
  refine lv_aload_n hx hb dL_law_1665 rfl (lv_at hl 4 rfl) ?_
  refine kr_i (ws' := wX x A T B ++ wC E A (B 0) S ++ wC E T (B 0) U ++ wG E B G ++ [(o, aJ E 1 (vp_updL f 0 (if f_dark G S (nI n1) = true then 1 else 0)))] ++ wN E M (0, Hb, a, k)) (va_runV (As := []) (rest := []) ⟨hx, hb, hml, hown, hts⟩ (c_X3_thrown l E M 0 Hb a k  _) (cwV 0 hts gL_law_X3_thrown rfl rfl rfl ⟨rfl, hd_X3_thrown⟩ ⟨Nat.le_of_ble_eq_true rfl, Nat.le_of_ble_eq_true rfl⟩) (pwV (ci := 3) (q0 := 22) (C := RX3) hw hK rfl rfl rfl (rpS (AV := [.ref (M 0)]) hw hK hG rp_88)) rfl rfl hl.1 rfl (lv_room (Nat.le_of_ble_eq_true rfl)) dL_law_1666 ⟨(show cells + 1 + 0 ≤ 1033879 by omega), (show slots + 6 + 0 ≤ 5994467 by omega)⟩) hw hA rp_88 (fun H locs hw => ?_)
  refine lv_iload hx hb dL_law_1669 (lv_at hl 1 rfl) ?_
  refine lv_icmp_eq (tgt := 1676) hx hb dL_law_1671 (by decide) (fun _ => ?_) (fun q8 => absurd (by decide) q8)
  refine lv_iload hx hb dL_law_1676 (lv_at hl 1 rfl) ?_
  refine lv_if_ne (tgt := 1700) hx hb dL_law_1678 (by decide) (fun q8 => absurd (by decide) q8) (fun _ => ?_)
  refine lv_aload_n hx hb dL_law_1681 rfl (lv_at hl 5 rfl) ?_
  refine lv_iconst (v := 0) hx hb dL_law_1682 (by decide) ?_
  refine k_lld (v := (vp_updL f 0 (if f_dark G S (nI n1) = true then 1 else 0)) 0) hx hb hK hw 21 rfl (vp_in_nI (n := 0) (N := 1) (by decide) (by decide)) rfl dL_law_1683 ?_
  refine lv_iload hx hb dL_law_1684 (lv_at hl 0 rfl) ?_
  refine lv_if_eq (tgt := 1693) hx hb dL_law_1686 (by decide) (fun c_2 => ?_) (fun c_2 => ?_)
  · have c_2 := bI_z c_2
    refine lv_lconst (v := 0) hx hb dL_law_1693 (by decide) ?_
    refine k_lcmpE hx hb dL_law_1694 (pk_uLs.trans (by rw [hy6, c_2]; rfl)) ?_
    refine lv_if_eq (tgt := 1700) hx hb dL_law_1695 (by decide) (fun _ => ?_) (fun q8 => absurd (by decide) q8)
    refine lv_goto (tgt := 2161) hx hb dL_law_1700 (by decide) ?_
    refine W.widen (k := cells + 30) (n := slots + 200) (show cells + 1 ≤ cells + 30 by omega) (show slots + 6 ≤ slots + 200 by omega) ?_
    exact kk U (vp_updL f 0 (if f_dark G S (nI n1) = true then 1 else 0)) 0 k _ _ _ hw (lv_sub hl [2, 3, 4, 5, 6] rfl)
  · have c_2 := bI_nz c_2
    refine lv_lconst (v := 1) hx hb dL_law_1689 (by decide) ?_
    refine lv_goto (tgt := 1694) hx hb dL_law_1690 (by decide) ?_
    refine k_lcmpE hx hb dL_law_1694 (pk_uLs.trans (by rw [hy6, c_2]; rfl)) ?_
    refine lv_if_eq (tgt := 1700) hx hb dL_law_1695 (by decide) (fun _ => ?_) (fun q8 => absurd (by decide) q8)
    refine lv_goto (tgt := 2161) hx hb dL_law_1700 (by decide) ?_
    refine W.widen (k := cells + 30) (n := slots + 200) (show cells + 1 ≤ cells + 30 by omega) (show slots + 6 ≤ slots + 200 by omega) ?_
    exact kk U (vp_updL f 0 (if f_dark G S (nI n1) = true then 1 else 0)) 0 k _ _ _ hw (lv_sub hl [2, 3, 4, 5, 6] rfl)

set_option maxHeartbeats 4000000 in
set_option maxRecDepth 100000 in
theorem la_watchers {p9 : Program} {l : Launch} {e : Env} {s9 : State} {m : MethodId} {below : List Frame} {meth : Method} {c : Code} {b L : Nat} {xs : Nat → Int32} (C0 : lw_At p9 s9 m meth c b L xs) (hflags : l.stackTraces = false) (hL : L ≤ 2048) (E : Ev) (hK : va_K E.1 vwCl (tysE E) s9) (hG : Gx s9) (hZ : Zx (aL s9) s9 s9.heap) {Q : State → Prop} (x o : Nat) (A T B M : Nat → Nat) (S U : CS) (G : HS) (th : Int32) (Hb : MH) (a k : Fn) (f : Nat → Int64) (i cells slots : Nat) (hi : i + 4 ≤ L) (hy0 : n_ns Hb ≤ 5) (hy1 : n_np Hb ≤ 16) (hy2 : n_nw Hb ≤ 4) (hy3 : ∀ p, p < n_np Hb → n_so Hb p < 5) (hy4 : nI (g_wc G) = nI (n_nw Hb)) (hc9 : cells + 30 ≤ 1033879) (hs9 : slots + 200 ≤ 5994467) (kk : ∀ (U1 : CS) (f1 : Nat → Int64) (t1 : Int32) (k1 : Fn) (H : Heap) (locs : List Loc) (ls : Array Slot), Wd E (aL s9) s9.heap (wX x A T B ++ wC E A (B 0) S ++ wC E T (B 0) U1 ++ wG E B G ++ [(o, aJ E 1 f1)] ++ wN E M (t1, Hb, a, k1)) H locs → lv_has ls 9 [(0, .ref b), (1, .ref x), (2, .ref (M 0)), (3, .ref o), (4, .int (nI i))] → W p9 l e room_1 s9 m #[Value.ref b] below meth c H locs (cells + 30) (slots + 200) Q (F0 m 2161 ls [])) {H : Heap} {locs : List Loc} {ls : Array Slot} (hw : Wd E (aL s9) s9.heap (wX x A T B ++ wC E A (B 0) S ++ wC E T (B 0) U ++ wG E B G ++ [(o, aJ E 1 f)] ++ wN E M (th, Hb, a, k)) H locs) (hl : lv_has ls 9 [(0, .ref b), (1, .ref x), (2, .ref (M 0)), (3, .ref o), (4, .int (nI i))]) : W p9 l e room_1 s9 m #[Value.ref b] below meth c H locs cells slots Q (F0 m 1703 ls []) := by
  obtain ⟨hx, hb, hr, hml, hown, hts0, hX, hbl, hlocks, hgv⟩ := C0
  have hts : ∀ w ∈ wsL_law, w.before #[Value.ref b] s9 = true := fun w h => hts0 w (wsL_law_in w h)
  have hown : s9.vm.findClass RL = some m.cls := hown
  have hA : ∀ q, s9.heap.size ≤ q → aL s9 q := fun _ h => h
  refine lv_aload_n hx hb dL_law_1703 rfl (lv_at hl 1 rfl) ?_
  refine kr_i (ws' := wX x A T B ++ wC E A (B 0) S ++ wC E T (B 0) U ++ wG E B G ++ [(o, aJ E 1 f)] ++ wN E M (th, Hb, a, k)) (va_runV (As := []) (rest := []) ⟨hx, hb, hml, hown, hts⟩ (c_X2_watchers l E x A T B S U G  _) (cwV 0 hts gL_law_X2_watchers rfl rfl rfl ⟨rfl, hd_X2_watchers⟩ ⟨Nat.le_of_ble_eq_true rfl, Nat.le_of_ble_eq_true rfl⟩) (pwV (ci := 2) (q0 := 0) (C := RX2) hw hK rfl rfl rfl (rpS (AV := [.ref x]) hw hK hG rp_92)) rfl rfl hl.1 rfl (lv_room (Nat.le_of_ble_eq_true rfl)) dL_law_1704 ⟨(show cells + 0 ≤ 1033879 by omega), (show slots + 0 ≤ 5994467 by omega)⟩) hw hA rp_92 (fun H locs hw => ?_)
  refine lv_aload_n hx hb dL_law_1707 rfl (lv_at hl 2 rfl) ?_
  refine kr_i (ws' := wX x A T B ++ wC E A (B 0) S ++ wC E T (B 0) U ++ wG E B G ++ [(o, aJ E 1 f)] ++ wN E M (0, Hb, a, k)) (va_runV (As := []) (rest := [.int (nI (g_wc G))]) ⟨hx, hb, hml, hown, hts⟩ (c_X3_watchers l E M th Hb a k hy0 hy1 hy2 hy3 _) (cwV 0 hts gL_law_X3_watchers rfl rfl rfl ⟨rfl, hd_X3_watchers⟩ ⟨Nat.le_of_ble_eq_true rfl, Nat.le_of_ble_eq_true rfl⟩) (pwV (ci := 3) (q0 := 22) (C := RX3) hw hK rfl rfl rfl (rpS (AV := [.ref (M 0)]) hw hK hG rp_88)) rfl rfl hl.1 rfl (lv_room (Nat.le_of_ble_eq_true rfl)) dL_law_1708 ⟨(show cells + 0 ≤ 1033879 by omega), (show slots + 0 ≤ 5994467 by omega)⟩) hw hA rp_87 (fun H locs hw => ?_)
  refine lv_icmp_eq (tgt := 2161) hx hb dL_law_1711 (by decide) (fun _ => ?_) (fun q8 => absurd hy4 q8)
  refine W.widen (k := cells + 30) (n := slots + 200) (show cells ≤ cells + 30 by omega) (show slots ≤ slots + 200 by omega) ?_
  exact kk U f 0 k _ _ _ hw (lv_sub hl [0, 1, 2, 3, 4] rfl)

set_option maxHeartbeats 4000000 in
set_option maxRecDepth 100000 in
theorem la_trustOf_1 {p9 : Program} {l : Launch} {e : Env} {s9 : State} {m : MethodId} {below : List Frame} {meth : Method} {c : Code} {b L : Nat} {xs : Nat → Int32} (C0 : lw_At p9 s9 m meth c b L xs) (hflags : l.stackTraces = false) (hL : L ≤ 2048) (E : Ev) (hK : va_K E.1 vwCl (tysE E) s9) (hG : Gx s9) (hZ : Zx (aL s9) s9 s9.heap) {Q : State → Prop} (x o : Nat) (A T B M : Nat → Nat) (S U : CS) (G : HS) (th : Int32) (Hb : MH) (a k : Fn) (f : Nat → Int64) (i cells slots : Nat) (hi : i + 4 ≤ L) (z1 : Int32) (e1 : xs (i + 1) = z1) (hy0 : t_wat G z1 = 1) (hy1 : n_ns Hb ≤ 5) (hy2 : n_np Hb ≤ 16) (hy3 : n_nw Hb ≤ 4) (hy4 : ∀ p, p < n_np Hb → n_so Hb p < 5) (hy5 : d_in z1 0 (nI (n_nw Hb) - 1) = false) (hc9 : cells + 30 ≤ 1033879) (hs9 : slots + 200 ≤ 5994467) (kk : ∀ (U1 : CS) (f1 : Nat → Int64) (t1 : Int32) (k1 : Fn) (H : Heap) (locs : List Loc) (ls : Array Slot), Wd E (aL s9) s9.heap (wX x A T B ++ wC E A (B 0) S ++ wC E T (B 0) U1 ++ wG E B G ++ [(o, aJ E 1 f1)] ++ wN E M (t1, Hb, a, k1)) H locs → lv_has ls 9 [(0, .ref b), (1, .ref x), (2, .ref (M 0)), (3, .ref o), (4, .int (nI i))] → W p9 l e room_1 s9 m #[Value.ref b] below meth c H locs (cells + 30) (slots + 200) Q (F0 m 2161 ls [])) {H : Heap} {locs : List Loc} {ls : Array Slot} (hw : Wd E (aL s9) s9.heap (wX x A T B ++ wC E A (B 0) S ++ wC E T (B 0) U ++ wG E B G ++ [(o, aJ E 1 f)] ++ wN E M (th, Hb, a, k)) H locs) (hl : lv_has ls 9 [(0, .ref b), (1, .ref x), (2, .ref (M 0)), (3, .ref o), (4, .int (nI i))]) : W p9 l e room_1 s9 m #[Value.ref b] below meth c H locs cells slots Q (F0 m 1716 ls []) := by
  obtain ⟨hx, hb, hr, hml, hown, hts0, hX, hbl, hlocks, hgv⟩ := C0
  have hts : ∀ w ∈ wsL_law, w.before #[Value.ref b] s9 = true := fun w h => hts0 w (wsL_law_in w h)
  have hown : s9.vm.findClass RL = some m.cls := hown
  have hA : ∀ q, s9.heap.size ≤ q → aL s9 q := fun _ h => h
  refine lv_aload_n hx hb dL_law_1716 rfl (lv_at hl 1 rfl) ?_
  refine lv_aload_n hx hb dL_law_1717 rfl (lv_at hl 0 rfl) ?_
  refine lv_iload hx hb dL_law_1718 (lv_at hl 4 rfl) ?_
  refine lv_iconst (v := 1) hx hb dL_law_1720 (by decide) ?_
  refine k_iaddN (a := i) (b := 1) hx hb dL_law_1721 ?_
  refine k_sldv (i := i + 1) (v := z1) hx hb hX hbl hw (by omega) (by omega) e1 dL_law_1722 ?_
  refine lv_aload_n hx hb dL_law_1723 rfl (lv_at hl 3 rfl) ?_
  refine krx_i (ws' := wX x A T B ++ wC E A (B 0) S ++ wC E T (B 0) U ++ wG E B G ++ [(o, aJ E 1 f)] ++ wN E M (th, Hb, a, k)) (vx_runSX (As := [.ref x, .int z1, .ref o]) (rest := []) ⟨hx, hb, hml, hown, hts⟩ (c_L_trustOf_1 l hflags E x A T B S U G z1 o f hy0 _) (vx_cwSW 3 hts gL_law_L_trustOf rfl rfl rfl hd_L_trustOf ⟨Nat.le_of_ble_eq_true rfl, Nat.le_of_ble_eq_true rfl⟩) (rpX (AV := [.ref x, .int z1, .ref o]) hw hK hG hZ hA rp_86) rfl rfl hl.1 rfl (lv_room (Nat.le_of_ble_eq_true rfl)) dL_law_1724 ⟨(show cells + 1 ≤ 1033879 by omega), (show slots + 6 ≤ 5994467 by omega)⟩) hw hA rp_86 rp_86 (fun H locs ce9 q9 t_1 hw hy1 hy2 hy3 => absurd rfl t_1) (fun H locs t_1 hw => ?_)
  refine lv_istore (lv' := [(5, .int 1), (0, .ref b), (1, .ref x), (2, .ref (M 0)), (3, .ref o), (4, .int (nI i))]) hx hb dL_law_1727 hl (by decide) rfl (fun ls hl => ?_)
  refine lv_aload_n hx hb dL_law_1729 rfl (lv_at hl 3 rfl) ?_
  refine lv_aload_n hx hb dL_law_1730 rfl (lv_at hl 1 rfl) ?_
  refine lv_iload hx hb dL_law_1731 (lv_at hl 5 rfl) ?_
  refine lv_iconst (v := 1) hx hb dL_law_1733 (by decide) ?_
  refine k_iaddN (a := i) (b := 1) hx hb dL_law_1734 ?_
  refine k_sldv (i := i + 1) (v := z1) hx hb hX hbl hw (by omega) (by omega) e1 dL_law_1735 ?_
  refine kr_i (ws' := wX x A T B ++ wC E A (B 0) S ++ wC E T (B 0) U ++ wG E B G ++ [(o, aJ E 1 f)] ++ wN E M (1, Hb, a, k)) (va_runV (As := [.int z1]) (rest := []) ⟨hx, hb, hml, hown, hts⟩ (c_X3_trustOf_1 l E M th Hb a k z1 hy1 hy2 hy3 hy4 hy5 _) (cwV 1 hts gL_law_X3_trustOf rfl rfl rfl ⟨rfl, hd_X3_trustOf⟩ ⟨Nat.le_of_ble_eq_true rfl, Nat.le_of_ble_eq_true rfl⟩) (pwV (ci := 3) (q0 := 22) (C := RX3) hw hK rfl rfl rfl (rpS (AV := [.ref (M 0), .int z1]) hw hK hG rp_88)) rfl rfl hl.1 rfl (lv_room (Nat.le_of_ble_eq_true rfl)) dL_law_1736 ⟨(show cells + 1 + 0 ≤ 1033879 by omega), (show slots + 6 + 0 ≤ 5994467 by omega)⟩) hw hA rp_87 (fun H locs hw => ?_)
  refine lv_istore (lv' := [(6, .int 0), (5, .int 1), (0, .ref b), (1, .ref x), (2, .ref (M 0)), (3, .ref o), (4, .int (nI i))]) hx hb dL_law_1739 hl (by decide) rfl (fun ls hl => ?_)
  refine lv_aload_n hx hb dL_law_1741 rfl (lv_at hl 4 rfl) ?_
  refine kr_i (ws' := wX x A T B ++ wC E A (B 0) S ++ wC E T (B 0) U ++ wG E B G ++ [(o, aJ E 1 f)] ++ wN E M (1, Hb, a, k)) (va_runV (As := []) (rest := []) ⟨hx, hb, hml, hown, hts⟩ (c_X3_thrown l E M 1 Hb a k  _) (cwV 0 hts gL_law_X3_thrown rfl rfl rfl ⟨rfl, hd_X3_thrown⟩ ⟨Nat.le_of_ble_eq_true rfl, Nat.le_of_ble_eq_true rfl⟩) (pwV (ci := 3) (q0 := 22) (C := RX3) hw hK rfl rfl rfl (rpS (AV := [.ref (M 0)]) hw hK hG rp_88)) rfl rfl hl.1 rfl (lv_room (Nat.le_of_ble_eq_true rfl)) dL_law_1742 ⟨(show cells + 1 + 0 ≤ 1033879 by omega), (show slots + 6 + 0 ≤ 5994467 by omega)⟩) hw hA rp_88 (fun H locs hw => ?_)
  refine lv_iload hx hb dL_law_1745 (lv_at hl 1 rfl) ?_
  refine lv_icmp_eq (tgt := 1752) hx hb dL_law_1747 (by decide) (fun _ => ?_) (fun q8 => absurd (by decide) q8)
  refine lv_iload hx hb dL_law_1752 (lv_at hl 1 rfl) ?_
  refine lv_if_ne (tgt := 1769) hx hb dL_law_1754 (by decide) (fun _ => ?_) (fun q8 => absurd q8 (by decide))
  refine lv_goto (tgt := 2161) hx hb dL_law_1769 (by decide) ?_
  refine W.widen (k := cells + 30) (n := slots + 200) (show cells + 1 ≤ cells + 30 by omega) (show slots + 6 ≤ slots + 200 by omega) ?_
  exact kk U f 1 k _ _ _ hw (lv_sub hl [2, 3, 4, 5, 6] rfl)

set_option maxHeartbeats 4000000 in
set_option maxRecDepth 100000 in
theorem la_trustOf {p9 : Program} {l : Launch} {e : Env} {s9 : State} {m : MethodId} {below : List Frame} {meth : Method} {c : Code} {b L : Nat} {xs : Nat → Int32} (C0 : lw_At p9 s9 m meth c b L xs) (hflags : l.stackTraces = false) (hL : L ≤ 2048) (E : Ev) (hK : va_K E.1 vwCl (tysE E) s9) (hG : Gx s9) (hZ : Zx (aL s9) s9 s9.heap) {Q : State → Prop} (x o : Nat) (A T B M : Nat → Nat) (S U : CS) (G : HS) (th : Int32) (Hb : MH) (a k : Fn) (f : Nat → Int64) (i cells slots : Nat) (hi : i + 4 ≤ L) (n1 : Nat) (e1 : xs (i + 1) = nI n1) (hy0 : t_wat G (nI n1) = 0) (hy1 : n_ns Hb ≤ 5) (hy2 : n_np Hb ≤ 16) (hy3 : n_nw Hb ≤ 4) (hy4 : ∀ p, p < n_np Hb → n_so Hb p < 5) (hy5 : n1 < n_nw Hb) (hy6 : (f_at 4 (c_tr S) (nI n1) : Int32).toInt64 = (a (50 + n1) : Int32).toInt64) (hc9 : cells + 30 ≤ 1033879) (hs9 : slots + 200 ≤ 5994467) (kk : ∀ (U1 : CS) (f1 : Nat → Int64) (t1 : Int32) (k1 : Fn) (H : Heap) (locs : List Loc) (ls : Array Slot), Wd E (aL s9) s9.heap (wX x A T B ++ wC E A (B 0) S ++ wC E T (B 0) U1 ++ wG E B G ++ [(o, aJ E 1 f1)] ++ wN E M (t1, Hb, a, k1)) H locs → lv_has ls 9 [(0, .ref b), (1, .ref x), (2, .ref (M 0)), (3, .ref o), (4, .int (nI i))] → W p9 l e room_1 s9 m #[Value.ref b] below meth c H locs (cells + 30) (slots + 200) Q (F0 m 2161 ls [])) {H : Heap} {locs : List Loc} {ls : Array Slot} (hw : Wd E (aL s9) s9.heap (wX x A T B ++ wC E A (B 0) S ++ wC E T (B 0) U ++ wG E B G ++ [(o, aJ E 1 f)] ++ wN E M (th, Hb, a, k)) H locs) (hl : lv_has ls 9 [(0, .ref b), (1, .ref x), (2, .ref (M 0)), (3, .ref o), (4, .int (nI i))]) : W p9 l e room_1 s9 m #[Value.ref b] below meth c H locs cells slots Q (F0 m 1716 ls []) := by
  obtain ⟨hx, hb, hr, hml, hown, hts0, hX, hbl, hlocks, hgv⟩ := C0
  have hts : ∀ w ∈ wsL_law, w.before #[Value.ref b] s9 = true := fun w h => hts0 w (wsL_law_in w h)
  have hown : s9.vm.findClass RL = some m.cls := hown
  have hA : ∀ q, s9.heap.size ≤ q → aL s9 q := fun _ h => h
  refine lv_aload_n hx hb dL_law_1716 rfl (lv_at hl 1 rfl) ?_
  refine lv_aload_n hx hb dL_law_1717 rfl (lv_at hl 0 rfl) ?_
  refine lv_iload hx hb dL_law_1718 (lv_at hl 4 rfl) ?_
  refine lv_iconst (v := 1) hx hb dL_law_1720 (by decide) ?_
  refine k_iaddN (a := i) (b := 1) hx hb dL_law_1721 ?_
  refine k_sldv (i := i + 1) (v := nI n1) hx hb hX hbl hw (by omega) (by omega) e1 dL_law_1722 ?_
  refine lv_aload_n hx hb dL_law_1723 rfl (lv_at hl 3 rfl) ?_
  refine krx_i (ws' := wX x A T B ++ wC E A (B 0) S ++ wC E T (B 0) U ++ wG E B G ++ [(o, aJ E 1 (vp_updL f 0 ((f_at 4 (c_tr S) (nI n1) : Int32).toInt64)))] ++ wN E M (th, Hb, a, k)) (vx_runSX (As := [.ref x, .int (nI n1), .ref o]) (rest := []) ⟨hx, hb, hml, hown, hts⟩ (c_L_trustOf l hflags E x A T B S U G (nI n1) o f hy0 _) (vx_cwSW 3 hts gL_law_L_trustOf rfl rfl rfl hd_L_trustOf ⟨Nat.le_of_ble_eq_true rfl, Nat.le_of_ble_eq_true rfl⟩) (rpX (AV := [.ref x, .int (nI n1), .ref o]) hw hK hG hZ hA rp_86) rfl rfl hl.1 rfl (lv_room (Nat.le_of_ble_eq_true rfl)) dL_law_1724 ⟨(show cells + 1 ≤ 1033879 by omega), (show slots + 6 ≤ 5994467 by omega)⟩) hw hA rp_93 rp_86 (fun H locs ce9 q9 t_1 hw hy1 hy2 hy3 => absurd rfl t_1) (fun H locs t_1 hw => ?_)
  refine lv_istore (lv' := [(5, .int 0), (0, .ref b), (1, .ref x), (2, .ref (M 0)), (3, .ref o), (4, .int (nI i))]) hx hb dL_law_1727 hl (by decide) rfl (fun ls hl => ?_)
  refine lv_aload_n hx hb dL_law_1729 rfl (lv_at hl 3 rfl) ?_
  refine lv_aload_n hx hb dL_law_1730 rfl (lv_at hl 1 rfl) ?_
  refine lv_iload hx hb dL_law_1731 (lv_at hl 5 rfl) ?_
  refine lv_iconst (v := 1) hx hb dL_law_1733 (by decide) ?_
  refine k_iaddN (a := i) (b := 1) hx hb dL_law_1734 ?_
  refine k_sldv (i := i + 1) (v := nI n1) hx hb hX hbl hw (by omega) (by omega) e1 dL_law_1735 ?_
  refine kr_i (ws' := wX x A T B ++ wC E A (B 0) S ++ wC E T (B 0) U ++ wG E B G ++ [(o, aJ E 1 (vp_updL f 0 ((f_at 4 (c_tr S) (nI n1) : Int32).toInt64)))] ++ wN E M (0, Hb, a, k)) (va_runV (As := [.int (nI n1)]) (rest := []) ⟨hx, hb, hml, hown, hts⟩ (c_X3_trustOf l E M th Hb a k n1 hy1 hy2 hy3 hy4 hy5 _) (cwV 1 hts gL_law_X3_trustOf rfl rfl rfl ⟨rfl, hd_X3_trustOf⟩ ⟨Nat.le_of_ble_eq_true rfl, Nat.le_of_ble_eq_true rfl⟩) (pwV (ci := 3) (q0 := 22) (C := RX3) hw hK rfl rfl rfl (rpS (AV := [.ref (M 0), .int (nI n1)]) hw hK hG rp_88)) rfl rfl hl.1 rfl (lv_room (Nat.le_of_ble_eq_true rfl)) dL_law_1736 ⟨(show cells + 1 + 0 ≤ 1033879 by omega), (show slots + 6 + 0 ≤ 5994467 by omega)⟩) hw hA rp_87 (fun H locs hw => ?_)
  refine lv_istore (lv' := [(6, .int (a (50 + n1))), (5, .int 0), (0, .ref b), (1, .ref x), (2, .ref (M 0)), (3, .ref o), (4, .int (nI i))]) hx hb dL_law_1739 hl (by decide) rfl (fun ls hl => ?_)
  refine lv_aload_n hx hb dL_law_1741 rfl (lv_at hl 4 rfl) ?_
  refine kr_i (ws' := wX x A T B ++ wC E A (B 0) S ++ wC E T (B 0) U ++ wG E B G ++ [(o, aJ E 1 (vp_updL f 0 ((f_at 4 (c_tr S) (nI n1) : Int32).toInt64)))] ++ wN E M (0, Hb, a, k)) (va_runV (As := []) (rest := []) ⟨hx, hb, hml, hown, hts⟩ (c_X3_thrown l E M 0 Hb a k  _) (cwV 0 hts gL_law_X3_thrown rfl rfl rfl ⟨rfl, hd_X3_thrown⟩ ⟨Nat.le_of_ble_eq_true rfl, Nat.le_of_ble_eq_true rfl⟩) (pwV (ci := 3) (q0 := 22) (C := RX3) hw hK rfl rfl rfl (rpS (AV := [.ref (M 0)]) hw hK hG rp_88)) rfl rfl hl.1 rfl (lv_room (Nat.le_of_ble_eq_true rfl)) dL_law_1742 ⟨(show cells + 1 + 0 ≤ 1033879 by omega), (show slots + 6 + 0 ≤ 5994467 by omega)⟩) hw hA rp_88 (fun H locs hw => ?_)
  refine lv_iload hx hb dL_law_1745 (lv_at hl 1 rfl) ?_
  refine lv_icmp_eq (tgt := 1752) hx hb dL_law_1747 (by decide) (fun _ => ?_) (fun q8 => absurd (by decide) q8)
  refine lv_iload hx hb dL_law_1752 (lv_at hl 1 rfl) ?_
  refine lv_if_ne (tgt := 1769) hx hb dL_law_1754 (by decide) (fun q8 => absurd (by decide) q8) (fun _ => ?_)
  refine lv_aload_n hx hb dL_law_1757 rfl (lv_at hl 5 rfl) ?_
  refine lv_iconst (v := 0) hx hb dL_law_1758 (by decide) ?_
  refine k_lld (v := (vp_updL f 0 ((f_at 4 (c_tr S) (nI n1) : Int32).toInt64)) 0) hx hb hK hw 21 rfl (vp_in_nI (n := 0) (N := 1) (by decide) (by decide)) rfl dL_law_1759 ?_
  refine lv_iload hx hb dL_law_1760 (lv_at hl 0 rfl) ?_
  refine lv_i2l (v := (a (50 + n1) : Int32).toInt64) hx hb dL_law_1762 rfl ?_
  refine k_lcmpE hx hb dL_law_1763 (pk_uLs.trans hy6) ?_
  refine lv_if_eq (tgt := 1769) hx hb dL_law_1764 (by decide) (fun _ => ?_) (fun q8 => absurd (by decide) q8)
  refine lv_goto (tgt := 2161) hx hb dL_law_1769 (by decide) ?_
  refine W.widen (k := cells + 30) (n := slots + 200) (show cells + 1 ≤ cells + 30 by omega) (show slots + 6 ≤ slots + 200 by omega) ?_
  exact kk U (vp_updL f 0 ((f_at 4 (c_tr S) (nI n1) : Int32).toInt64)) 0 k _ _ _ hw (lv_sub hl [2, 3, 4, 5, 6] rfl)

set_option maxHeartbeats 4000000 in
set_option maxRecDepth 100000 in
theorem la_sightings {p9 : Program} {l : Launch} {e : Env} {s9 : State} {m : MethodId} {below : List Frame} {meth : Method} {c : Code} {b L : Nat} {xs : Nat → Int32} (C0 : lw_At p9 s9 m meth c b L xs) (hflags : l.stackTraces = false) (hL : L ≤ 2048) (E : Ev) (hK : va_K E.1 vwCl (tysE E) s9) (hG : Gx s9) (hZ : Zx (aL s9) s9 s9.heap) {Q : State → Prop} (x o : Nat) (A T B M : Nat → Nat) (S U : CS) (G : HS) (th : Int32) (Hb : MH) (a k : Fn) (f : Nat → Int64) (i cells slots : Nat) (hi : i + 4 ≤ L) (hy0 : n_ns Hb ≤ 5) (hy1 : n_np Hb ≤ 16) (hy2 : n_nw Hb ≤ 4) (hy3 : ∀ p, p < n_np Hb → n_so Hb p < 5) (hy4 : l_scnt (c_ag S) 20 = l_mal a 20) (hc9 : cells + 30 ≤ 1033879) (hs9 : slots + 200 ≤ 5994467) (kk : ∀ (U1 : CS) (f1 : Nat → Int64) (t1 : Int32) (k1 : Fn) (H : Heap) (locs : List Loc) (ls : Array Slot), Wd E (aL s9) s9.heap (wX x A T B ++ wC E A (B 0) S ++ wC E T (B 0) U1 ++ wG E B G ++ [(o, aJ E 1 f1)] ++ wN E M (t1, Hb, a, k1)) H locs → lv_has ls 9 [(0, .ref b), (1, .ref x), (2, .ref (M 0)), (3, .ref o), (4, .int (nI i))] → W p9 l e room_1 s9 m #[Value.ref b] below meth c H locs (cells + 30) (slots + 200) Q (F0 m 2161 ls [])) {H : Heap} {locs : List Loc} {ls : Array Slot} (hw : Wd E (aL s9) s9.heap (wX x A T B ++ wC E A (B 0) S ++ wC E T (B 0) U ++ wG E B G ++ [(o, aJ E 1 f)] ++ wN E M (th, Hb, a, k)) H locs) (hl : lv_has ls 9 [(0, .ref b), (1, .ref x), (2, .ref (M 0)), (3, .ref o), (4, .int (nI i))]) : W p9 l e room_1 s9 m #[Value.ref b] below meth c H locs cells slots Q (F0 m 1772 ls []) := by
  obtain ⟨hx, hb, hr, hml, hown, hts0, hX, hbl, hlocks, hgv⟩ := C0
  have hts : ∀ w ∈ wsL_law, w.before #[Value.ref b] s9 = true := fun w h => hts0 w (wsL_law_in w h)
  have hown : s9.vm.findClass RL = some m.cls := hown
  have hA : ∀ q, s9.heap.size ≤ q → aL s9 q := fun _ h => h
  refine lv_aload_n hx hb dL_law_1772 rfl (lv_at hl 1 rfl) ?_
  refine kr_i (ws' := wX x A T B ++ wC E A (B 0) S ++ wC E T (B 0) U ++ wG E B G ++ [(o, aJ E 1 f)] ++ wN E M (th, Hb, a, k)) (va_runV (As := []) (rest := []) ⟨hx, hb, hml, hown, hts⟩ (c_X2_sightings l E x A T B S U G  _) (cwV 0 hts gL_law_X2_sightings rfl rfl rfl ⟨rfl, hd_X2_sightings⟩ ⟨Nat.le_of_ble_eq_true rfl, Nat.le_of_ble_eq_true rfl⟩) (pwV (ci := 2) (q0 := 0) (C := RX2) hw hK rfl rfl rfl (rpS (AV := [.ref x]) hw hK hG rp_92)) rfl rfl hl.1 rfl (lv_room (Nat.le_of_ble_eq_true rfl)) dL_law_1773 ⟨(show cells + 0 ≤ 1033879 by omega), (show slots + 0 ≤ 5994467 by omega)⟩) hw hA rp_92 (fun H locs hw => ?_)
  refine lv_aload_n hx hb dL_law_1776 rfl (lv_at hl 2 rfl) ?_
  refine kr_i (ws' := wX x A T B ++ wC E A (B 0) S ++ wC E T (B 0) U ++ wG E B G ++ [(o, aJ E 1 f)] ++ wN E M (0, Hb, a, k)) (va_runV (As := []) (rest := [.int (l_scnt (c_ag S) 20)]) ⟨hx, hb, hml, hown, hts⟩ (c_X3_sightings l E M th Hb a k hy0 hy1 hy2 hy3 _) (cwV 0 hts gL_law_X3_sightings rfl rfl rfl ⟨rfl, hd_X3_sightings⟩ ⟨Nat.le_of_ble_eq_true rfl, Nat.le_of_ble_eq_true rfl⟩) (pwV (ci := 3) (q0 := 22) (C := RX3) hw hK rfl rfl rfl (rpS (AV := [.ref (M 0)]) hw hK hG rp_88)) rfl rfl hl.1 rfl (lv_room (Nat.le_of_ble_eq_true rfl)) dL_law_1777 ⟨(show cells + 0 ≤ 1033879 by omega), (show slots + 0 ≤ 5994467 by omega)⟩) hw hA rp_87 (fun H locs hw => ?_)
  refine lv_icmp_eq (tgt := 2161) hx hb dL_law_1780 (by decide) (fun _ => ?_) (fun q8 => absurd hy4 q8)
  refine W.widen (k := cells + 30) (n := slots + 200) (show cells ≤ cells + 30 by omega) (show slots ≤ slots + 200 by omega) ?_
  exact kk U f 0 k _ _ _ hw (lv_sub hl [0, 1, 2, 3, 4] rfl)

set_option maxHeartbeats 4000000 in
set_option maxRecDepth 100000 in
theorem la_night {p9 : Program} {l : Launch} {e : Env} {s9 : State} {m : MethodId} {below : List Frame} {meth : Method} {c : Code} {b L : Nat} {xs : Nat → Int32} (C0 : lw_At p9 s9 m meth c b L xs) (hflags : l.stackTraces = false) (hL : L ≤ 2048) (E : Ev) (hK : va_K E.1 vwCl (tysE E) s9) (hG : Gx s9) (hZ : Zx (aL s9) s9 s9.heap) {Q : State → Prop} (x o : Nat) (A T B M : Nat → Nat) (S U : CS) (G : HS) (th : Int32) (Hb : MH) (a k : Fn) (f : Nat → Int64) (i cells slots : Nat) (hi : i + 4 ≤ L) (hy0 : n_ns Hb ≤ 5) (hy1 : n_np Hb ≤ 16) (hy2 : n_nw Hb ≤ 4) (hy3 : ∀ p, p < n_np Hb → n_so Hb p < 5) (hy4 : c_ni S = a 0) (hc9 : cells + 30 ≤ 1033879) (hs9 : slots + 200 ≤ 5994467) (kk : ∀ (U1 : CS) (f1 : Nat → Int64) (t1 : Int32) (k1 : Fn) (H : Heap) (locs : List Loc) (ls : Array Slot), Wd E (aL s9) s9.heap (wX x A T B ++ wC E A (B 0) S ++ wC E T (B 0) U1 ++ wG E B G ++ [(o, aJ E 1 f1)] ++ wN E M (t1, Hb, a, k1)) H locs → lv_has ls 9 [(0, .ref b), (1, .ref x), (2, .ref (M 0)), (3, .ref o), (4, .int (nI i))] → W p9 l e room_1 s9 m #[Value.ref b] below meth c H locs (cells + 30) (slots + 200) Q (F0 m 2161 ls [])) {H : Heap} {locs : List Loc} {ls : Array Slot} (hw : Wd E (aL s9) s9.heap (wX x A T B ++ wC E A (B 0) S ++ wC E T (B 0) U ++ wG E B G ++ [(o, aJ E 1 f)] ++ wN E M (th, Hb, a, k)) H locs) (hl : lv_has ls 9 [(0, .ref b), (1, .ref x), (2, .ref (M 0)), (3, .ref o), (4, .int (nI i))]) : W p9 l e room_1 s9 m #[Value.ref b] below meth c H locs cells slots Q (F0 m 1785 ls []) := by
  obtain ⟨hx, hb, hr, hml, hown, hts0, hX, hbl, hlocks, hgv⟩ := C0
  have hts : ∀ w ∈ wsL_law, w.before #[Value.ref b] s9 = true := fun w h => hts0 w (wsL_law_in w h)
  have hown : s9.vm.findClass RL = some m.cls := hown
  have hA : ∀ q, s9.heap.size ≤ q → aL s9 q := fun _ h => h
  refine lv_aload_n hx hb dL_law_1785 rfl (lv_at hl 1 rfl) ?_
  refine kr_i (ws' := wX x A T B ++ wC E A (B 0) S ++ wC E T (B 0) U ++ wG E B G ++ [(o, aJ E 1 f)] ++ wN E M (th, Hb, a, k)) (va_runV (As := []) (rest := []) ⟨hx, hb, hml, hown, hts⟩ (c_X2_night l E x A T B S U G  _) (cwV 0 hts gL_law_X2_night rfl rfl rfl ⟨rfl, hd_X2_night⟩ ⟨Nat.le_of_ble_eq_true rfl, Nat.le_of_ble_eq_true rfl⟩) (pwV (ci := 2) (q0 := 0) (C := RX2) hw hK rfl rfl rfl (rpS (AV := [.ref x]) hw hK hG rp_92)) rfl rfl hl.1 rfl (lv_room (Nat.le_of_ble_eq_true rfl)) dL_law_1786 ⟨(show cells + 0 ≤ 1033879 by omega), (show slots + 0 ≤ 5994467 by omega)⟩) hw hA rp_92 (fun H locs hw => ?_)
  refine lv_aload_n hx hb dL_law_1789 rfl (lv_at hl 2 rfl) ?_
  refine kr_i (ws' := wX x A T B ++ wC E A (B 0) S ++ wC E T (B 0) U ++ wG E B G ++ [(o, aJ E 1 f)] ++ wN E M (0, Hb, a, k)) (va_runV (As := []) (rest := [.int (c_ni S)]) ⟨hx, hb, hml, hown, hts⟩ (c_X3_night l E M th Hb a k hy0 hy1 hy2 hy3 _) (cwV 0 hts gL_law_X3_night rfl rfl rfl ⟨rfl, hd_X3_night⟩ ⟨Nat.le_of_ble_eq_true rfl, Nat.le_of_ble_eq_true rfl⟩) (pwV (ci := 3) (q0 := 22) (C := RX3) hw hK rfl rfl rfl (rpS (AV := [.ref (M 0)]) hw hK hG rp_88)) rfl rfl hl.1 rfl (lv_room (Nat.le_of_ble_eq_true rfl)) dL_law_1790 ⟨(show cells + 0 ≤ 1033879 by omega), (show slots + 0 ≤ 5994467 by omega)⟩) hw hA rp_87 (fun H locs hw => ?_)
  refine lv_icmp_eq (tgt := 2161) hx hb dL_law_1793 (by decide) (fun _ => ?_) (fun q8 => absurd hy4 q8)
  refine W.widen (k := cells + 30) (n := slots + 200) (show cells ≤ cells + 30 by omega) (show slots ≤ slots + 200 by omega) ?_
  exact kk U f 0 k _ _ _ hw (lv_sub hl [0, 1, 2, 3, 4] rfl)
