set_option maxHeartbeats 8000000 in
set_option maxRecDepth 100000 in
theorem lb_1208 {p9 : Program} {l : Launch} {e : Env} {s9 : State} {m : MethodId} {below : List Frame} {meth : Method} {c : Code} {b L : Nat} {xs : Nat → Int32} (C0 : lw_At p9 s9 m meth c b L xs) (hflags : l.stackTraces = false) (E : Ev) (hK : va_K E.1 vwCl (tysE E) s9) (hG : Gx s9) (hZ : Zx (aL s9) s9 s9.heap) {Q : State → Prop} (x : Nat) (A T B : Nat → Nat) (S U : CS) (G : HS) (q : Nat) (P : AP) (v_ni v_wa v_un : Int32) (v_ns v_np v_nw v_ng : Nat) (v_ma v_st v_ou v_ru : Fn) (v_so : FnN) (v_mt v_vo v_gi v_ca v_tr : Fn) (v_sw v_ss : FnN) (v_sg : Fn) (t : Nat) (z : Int32) (D : Int64) (qv qg ql : Nat) (fv fg fl : Fn) (na nu nx : Int32) (nt nk : Nat) (qh qr : Nat) (fh fr : Fn) (nv nb nw9 no9 : Int32) (il : Bool) (hns : v_ns ≤ 5) (hnp : v_np ≤ 16) (hnw : v_nw ≤ 4) (hng : v_ng ≤ 20) (hso : ∀ p, p < v_np → v_so p < v_ns) (hsw : ∀ j, j < v_ng → v_sw j < v_nw) (ha0 : (nv : Int32) ≤ c_un S) (ha1 : ¬ ((nx : Int32) < 0) → (l_dark G S 16 : Int32) ≤ 0) (ha2 : ¬ ((nu : Int32) ≤ 0) → ¬ ((nu : Int32) < nI nk) → (bI (!decide (l_dark G S 16 ≤ 0)) : Int32) = bI (decide (nI nk = nu))) (ha3 : il = false → (na - nb : Int32) = nw9) (ha4 : il = false → (c_un S : Int32) = nv + no9) (cells slots : Nat) (hc9 : cells + 10 ≤ 600130) (hs9 : slots + 60 ≤ 7301080) (kk : ∀ (H : Heap) (locs : List Loc) (ls : Array Slot), Wd E (aL s9) s9.heap (wX x A T B ++ wC E A (B 0) S ++ wC E T (B 0) U ++ wG E B G ++ [(qv, aI E (g_sc G) fv)] ++ [(qg, aI E (g_sc G) fg)] ++ [(ql, aI E (g_sc G) fl)] ++ [(qh, aI E (g_pc G) fh)] ++ [(qr, aI E (g_sc G) fr)] ++ wS E q P (mkS v_ni v_wa v_un v_ns v_np v_nw v_ng v_ma v_st v_ou v_ru v_so v_mt v_vo v_gi v_ca v_tr v_sw v_ss v_sg)) H locs → lv_has ls 29 [(0, .ref b), (1, .ref x), (2, .ref q), (3, .int (nI t)), (4, .int z), (5, .long D), (7, .int (nI (g_sc G))), (8, .ref qv), (9, .ref qg), (10, .ref ql), (13, .int nw9), (14, .int nu), (17, .int (nI nt)), (18, .int nx), (19, .int (nI nk))] → W p9 l e room_1 s9 m #[Value.ref b] below meth c H locs (cells + 10) (slots + 60) Q (F0 m 1303 ls [])) {H : Heap} {locs : List Loc} {ls : Array Slot} (hw : Wd E (aL s9) s9.heap (wX x A T B ++ wC E A (B 0) S ++ wC E T (B 0) U ++ wG E B G ++ [(qv, aI E (g_sc G) fv)] ++ [(qg, aI E (g_sc G) fg)] ++ [(ql, aI E (g_sc G) fl)] ++ [(qh, aI E (g_pc G) fh)] ++ [(qr, aI E (g_sc G) fr)] ++ wS E q P (mkS v_ni v_wa v_un v_ns v_np v_nw v_ng v_ma v_st v_ou v_ru v_so v_mt v_vo v_gi v_ca v_tr v_sw v_ss v_sg)) H locs) (hl : lv_has ls 29 [(0, .ref b), (1, .ref x), (2, .ref q), (3, .int (nI t)), (4, .int z), (5, .long D), (7, .int (nI (g_sc G))), (8, .ref qv), (9, .ref qg), (10, .ref ql), (13, .int na), (14, .int nu), (17, .int (nI nt)), (18, .int nx), (19, .int (nI nk)), (22, .int nv), (23, .int nb), (24, .int nw9), (25, .int no9), (26, .int (bI il))]) : W p9 l e room_1 s9 m #[Value.ref b] below meth c H locs cells slots Q (F0 m 1208 ls []) := by
  obtain ⟨hx, hb, hr, hml, hown, hts0, hX, hbl, hlocks, hgv⟩ := C0
  have hts : ∀ w ∈ wsL_law, w.before #[Value.ref b] s9 = true := fun w h => hts0 w (wsL_law_in w h)
  have hown : s9.vm.findClass RL = some m.cls := hown
  have hA : ∀ q, s9.heap.size ≤ q → aL s9 q := fun _ h => h
  refine lv_iload hx hb dL_law_1208 (lv_at hl 19 rfl) ?_
  have J_1235 : ∀ (H : Heap) (locs : List Loc) (ls : Array Slot), Wd E (aL s9) s9.heap (wX x A T B ++ wC E A (B 0) S ++ wC E T (B 0) U ++ wG E B G ++ [(qv, aI E (g_sc G) fv)] ++ [(qg, aI E (g_sc G) fg)] ++ [(ql, aI E (g_sc G) fl)] ++ [(qh, aI E (g_pc G) fh)] ++ [(qr, aI E (g_sc G) fr)] ++ wS E q P (mkS v_ni v_wa v_un v_ns v_np v_nw v_ng v_ma v_st v_ou v_ru v_so v_mt v_vo v_gi v_ca v_tr v_sw v_ss v_sg)) H locs → lv_has ls 29 [(0, .ref b), (1, .ref x), (2, .ref q), (3, .int (nI t)), (4, .int z), (5, .long D), (7, .int (nI (g_sc G))), (8, .ref qv), (9, .ref qg), (10, .ref ql), (13, .int na), (14, .int nu), (17, .int (nI nt)), (18, .int nx), (19, .int (nI nk)), (22, .int nv), (23, .int nb), (24, .int nw9), (25, .int no9), (26, .int (bI il))] → W p9 l e room_1 s9 m #[Value.ref b] below meth c H locs cells slots (Q) (F0 m 1235 ls []) := by
    intro H locs ls hw hl
    refine lv_aload_n hx hb dL_law_1235 rfl (lv_at hl 1 rfl) ?_
    refine kr_i (ws' := wX x A T B ++ wC E A (B 0) S ++ wC E T (B 0) U ++ wG E B G ++ [(qv, aI E (g_sc G) fv)] ++ [(qg, aI E (g_sc G) fg)] ++ [(ql, aI E (g_sc G) fl)] ++ [(qh, aI E (g_pc G) fh)] ++ [(qr, aI E (g_sc G) fr)] ++ wS E q P (mkS v_ni v_wa v_un v_ns v_np v_nw v_ng v_ma v_st v_ou v_ru v_so v_mt v_vo v_gi v_ca v_tr v_sw v_ss v_sg)) (va_runV (As := []) (rest := []) ⟨hx, hb, hml, hown, hts⟩ (c_X2_bellsUnrung l E x A T B S U G  _) (cwV 0 hts gL_law_X2_bellsUnrung rfl rfl rfl ⟨rfl, hd_X2_bellsUnrung⟩ ⟨Nat.le_of_ble_eq_true rfl, Nat.le_of_ble_eq_true rfl⟩) (pwV (ci := 2) (q0 := 0) (C := RX2) hw hK rfl rfl rfl (rpS (AV := [.ref x]) hw hK hG rp_91)) rfl rfl hl.1 rfl (lv_room (Nat.le_of_ble_eq_true rfl)) dL_law_1236 ⟨(show cells + 0 ≤ 600130 by omega), (show slots + 0 ≤ 7301080 by omega)⟩) hw hA rp_91 (fun H locs hw => ?_)
    refine lv_iload hx hb dL_law_1239 (lv_at hl 15 rfl) ?_
    refine lv_icmp_ge (tgt := 1246) hx hb dL_law_1241 (by decide) (fun _ => ?_) (fun q8 => absurd ha0 q8)
    refine lv_iload hx hb dL_law_1246 (lv_at hl 17 rfl) ?_
    refine lv_istore (lv' := [(13, .int nw9), (0, .ref b), (1, .ref x), (2, .ref q), (3, .int (nI t)), (4, .int z), (5, .long D), (7, .int (nI (g_sc G))), (8, .ref qv), (9, .ref qg), (10, .ref ql), (14, .int nu), (17, .int (nI nt)), (18, .int nx), (19, .int (nI nk)), (22, .int nv), (23, .int nb), (24, .int nw9), (25, .int no9), (26, .int (bI il))]) hx hb dL_law_1248 hl (by decide) rfl (fun ls hl => ?_)
    refine lv_iload hx hb dL_law_1250 (lv_at hl 11 rfl) ?_
    have J_1289 : ∀ (H : Heap) (locs : List Loc) (ls : Array Slot), Wd E (aL s9) s9.heap (wX x A T B ++ wC E A (B 0) S ++ wC E T (B 0) U ++ wG E B G ++ [(qv, aI E (g_sc G) fv)] ++ [(qg, aI E (g_sc G) fg)] ++ [(ql, aI E (g_sc G) fl)] ++ [(qh, aI E (g_pc G) fh)] ++ [(qr, aI E (g_sc G) fr)] ++ wS E q P (mkS v_ni v_wa v_un v_ns v_np v_nw v_ng v_ma v_st v_ou v_ru v_so v_mt v_vo v_gi v_ca v_tr v_sw v_ss v_sg)) H locs → lv_has ls 29 [(13, .int nw9), (0, .ref b), (1, .ref x), (2, .ref q), (3, .int (nI t)), (4, .int z), (5, .long D), (7, .int (nI (g_sc G))), (8, .ref qv), (9, .ref qg), (10, .ref ql), (14, .int nu), (17, .int (nI nt)), (18, .int nx), (19, .int (nI nk)), (22, .int nv), (23, .int nb), (24, .int nw9), (25, .int no9), (26, .int (bI il))] → W p9 l e room_1 s9 m #[Value.ref b] below meth c H locs cells slots (Q) (F0 m 1289 ls []) := by
      intro H locs ls hw hl
      refine lv_iload hx hb dL_law_1289 (lv_at hl 13 rfl) ?_
      have J_1303 : ∀ (H : Heap) (locs : List Loc) (ls : Array Slot), Wd E (aL s9) s9.heap (wX x A T B ++ wC E A (B 0) S ++ wC E T (B 0) U ++ wG E B G ++ [(qv, aI E (g_sc G) fv)] ++ [(qg, aI E (g_sc G) fg)] ++ [(ql, aI E (g_sc G) fl)] ++ [(qh, aI E (g_pc G) fh)] ++ [(qr, aI E (g_sc G) fr)] ++ wS E q P (mkS v_ni v_wa v_un v_ns v_np v_nw v_ng v_ma v_st v_ou v_ru v_so v_mt v_vo v_gi v_ca v_tr v_sw v_ss v_sg)) H locs → lv_has ls 29 [(13, .int nw9), (0, .ref b), (1, .ref x), (2, .ref q), (3, .int (nI t)), (4, .int z), (5, .long D), (7, .int (nI (g_sc G))), (8, .ref qv), (9, .ref qg), (10, .ref ql), (14, .int nu), (17, .int (nI nt)), (18, .int nx), (19, .int (nI nk)), (22, .int nv), (23, .int nb), (24, .int nw9), (25, .int no9), (26, .int (bI il))] → W p9 l e room_1 s9 m #[Value.ref b] below meth c H locs cells slots (Q) (F0 m 1303 ls []) := by
        intro H locs ls hw hl
        refine W.widen (k := cells + 10) (n := slots + 60) (show cells ≤ cells + 10 by omega) (show slots ≤ slots + 60 by omega) ?_
        exact kk _ _ _ hw (lv_sub hl [1, 2, 3, 4, 5, 6, 7, 8, 9, 10, 0, 11, 12, 13, 14] rfl)
      refine lv_if_lt (tgt := 1303) hx hb dL_law_1291 (by decide) (fun c_1 => ?_) (fun c_1 => ?_)
      · have c_1 : (nx : Int32) < 0 := c_1
        have h9 := J_1303 _ _ _ hw (lv_sub hl [0, 1, 2, 3, 4, 5, 6, 7, 8, 9, 10, 11, 12, 13, 14, 15, 16, 17, 18, 19] rfl)
        exact h9
      · have c_1 : ¬ (nx : Int32) < 0 := c_1
        refine lv_aload_n hx hb dL_law_1294 rfl (lv_at hl 2 rfl) ?_
        refine kr_i (ws' := wX x A T B ++ wC E A (B 0) S ++ wC E T (B 0) U ++ wG E B G ++ [(qv, aI E (g_sc G) fv)] ++ [(qg, aI E (g_sc G) fg)] ++ [(ql, aI E (g_sc G) fl)] ++ [(qh, aI E (g_pc G) fh)] ++ [(qr, aI E (g_sc G) fr)] ++ wS E q P (mkS v_ni v_wa v_un v_ns v_np v_nw v_ng v_ma v_st v_ou v_ru v_so v_mt v_vo v_gi v_ca v_tr v_sw v_ss v_sg)) (va_runV (As := []) (rest := []) ⟨hx, hb, hml, hown, hts⟩ (c_X2_darkCandles l E x A T B S U G  _) (cwV 0 hts gL_law_X2_darkCandles rfl rfl rfl ⟨rfl, hd_X2_darkCandles⟩ ⟨Nat.le_of_ble_eq_true rfl, Nat.le_of_ble_eq_true rfl⟩) (pwV (ci := 2) (q0 := 0) (C := RX2) hw hK rfl rfl rfl (rpS (AV := [.ref x]) hw hK hG rp_91)) rfl rfl hl.1 rfl (lv_room (Nat.le_of_ble_eq_true rfl)) dL_law_1295 ⟨(show cells + 0 ≤ 600130 by omega), (show slots + 0 ≤ 7301080 by omega)⟩) hw hA rp_91 (fun H locs hw => ?_)
        refine lv_if_le (tgt := 1303) hx hb dL_law_1298 (by decide) (fun _ => ?_) (fun q8 => absurd (ha1  c_1) q8)
        have h9 := J_1303 _ _ _ hw (lv_sub hl [0, 1, 2, 3, 4, 5, 6, 7, 8, 9, 10, 11, 12, 13, 14, 15, 16, 17, 18, 19] rfl)
        exact h9
    refine lv_if_le (tgt := 1289) hx hb dL_law_1252 (by decide) (fun c_2 => ?_) (fun c_2 => ?_)
    · have c_2 : (nu : Int32) ≤ 0 := c_2
      have h9 := J_1289 _ _ _ hw (lv_sub hl [0, 1, 2, 3, 4, 5, 6, 7, 8, 9, 10, 11, 12, 13, 14, 15, 16, 17, 18, 19] rfl)
      exact h9
    · have c_2 : ¬ (nu : Int32) ≤ 0 := c_2
      refine lv_iload hx hb dL_law_1255 (lv_at hl 14 rfl) ?_
      refine lv_iload hx hb dL_law_1257 (lv_at hl 11 rfl) ?_
      refine lv_icmp_gt (tgt := 1289) hx hb dL_law_1259 (by decide) (fun c_3 => ?_) (fun c_3 => ?_)
      · have c_3 : (nu : Int32) < nI nk := c_3
        have h9 := J_1289 _ _ _ hw (lv_sub hl [0, 1, 2, 3, 4, 5, 6, 7, 8, 9, 10, 11, 12, 13, 14, 15, 16, 17, 18, 19] rfl)
        exact h9
      · have c_3 : ¬ (nu : Int32) < nI nk := c_3
        refine lv_aload_n hx hb dL_law_1262 rfl (lv_at hl 2 rfl) ?_
        refine kr_i (ws' := wX x A T B ++ wC E A (B 0) S ++ wC E T (B 0) U ++ wG E B G ++ [(qv, aI E (g_sc G) fv)] ++ [(qg, aI E (g_sc G) fg)] ++ [(ql, aI E (g_sc G) fl)] ++ [(qh, aI E (g_pc G) fh)] ++ [(qr, aI E (g_sc G) fr)] ++ wS E q P (mkS v_ni v_wa v_un v_ns v_np v_nw v_ng v_ma v_st v_ou v_ru v_so v_mt v_vo v_gi v_ca v_tr v_sw v_ss v_sg)) (va_runV (As := []) (rest := []) ⟨hx, hb, hml, hown, hts⟩ (c_X2_darkCandles l E x A T B S U G  _) (cwV 0 hts gL_law_X2_darkCandles rfl rfl rfl ⟨rfl, hd_X2_darkCandles⟩ ⟨Nat.le_of_ble_eq_true rfl, Nat.le_of_ble_eq_true rfl⟩) (pwV (ci := 2) (q0 := 0) (C := RX2) hw hK rfl rfl rfl (rpS (AV := [.ref x]) hw hK hG rp_91)) rfl rfl hl.1 rfl (lv_room (Nat.le_of_ble_eq_true rfl)) dL_law_1263 ⟨(show cells + 0 ≤ 600130 by omega), (show slots + 0 ≤ 7301080 by omega)⟩) hw hA rp_91 (fun H locs hw => ?_)
        have J_1274 : ∀ (H : Heap) (locs : List Loc) (ls : Array Slot), Wd E (aL s9) s9.heap (wX x A T B ++ wC E A (B 0) S ++ wC E T (B 0) U ++ wG E B G ++ [(qv, aI E (g_sc G) fv)] ++ [(qg, aI E (g_sc G) fg)] ++ [(ql, aI E (g_sc G) fl)] ++ [(qh, aI E (g_pc G) fh)] ++ [(qr, aI E (g_sc G) fr)] ++ wS E q P (mkS v_ni v_wa v_un v_ns v_np v_nw v_ng v_ma v_st v_ou v_ru v_so v_mt v_vo v_gi v_ca v_tr v_sw v_ss v_sg)) H locs → lv_has ls 29 [(13, .int nw9), (0, .ref b), (1, .ref x), (2, .ref q), (3, .int (nI t)), (4, .int z), (5, .long D), (7, .int (nI (g_sc G))), (8, .ref qv), (9, .ref qg), (10, .ref ql), (14, .int nu), (17, .int (nI nt)), (18, .int nx), (19, .int (nI nk)), (22, .int nv), (23, .int nb), (24, .int nw9), (25, .int no9), (26, .int (bI il))] → W p9 l e room_1 s9 m #[Value.ref b] below meth c H locs cells slots (Q) (F0 m 1274 ls [.int (bI (!decide (l_dark G S 16 ≤ 0)))]) := by
          intro H locs ls hw hl
          refine lv_iload hx hb dL_law_1274 (lv_at hl 14 rfl) ?_
          refine lv_iload hx hb dL_law_1276 (lv_at hl 11 rfl) ?_
          have J_1286 : ∀ (H : Heap) (locs : List Loc) (ls : Array Slot), Wd E (aL s9) s9.heap (wX x A T B ++ wC E A (B 0) S ++ wC E T (B 0) U ++ wG E B G ++ [(qv, aI E (g_sc G) fv)] ++ [(qg, aI E (g_sc G) fg)] ++ [(ql, aI E (g_sc G) fl)] ++ [(qh, aI E (g_pc G) fh)] ++ [(qr, aI E (g_sc G) fr)] ++ wS E q P (mkS v_ni v_wa v_un v_ns v_np v_nw v_ng v_ma v_st v_ou v_ru v_so v_mt v_vo v_gi v_ca v_tr v_sw v_ss v_sg)) H locs → lv_has ls 29 [(13, .int nw9), (0, .ref b), (1, .ref x), (2, .ref q), (3, .int (nI t)), (4, .int z), (5, .long D), (7, .int (nI (g_sc G))), (8, .ref qv), (9, .ref qg), (10, .ref ql), (14, .int nu), (17, .int (nI nt)), (18, .int nx), (19, .int (nI nk)), (22, .int nv), (23, .int nb), (24, .int nw9), (25, .int no9), (26, .int (bI il))] → W p9 l e room_1 s9 m #[Value.ref b] below meth c H locs cells slots (Q) (F0 m 1286 ls [.int (bI (decide (nI nk = nu))), .int (bI (!decide (l_dark G S 16 ≤ 0)))]) := by
            intro H locs ls hw hl
            refine lv_icmp_ne (tgt := 1301) hx hb dL_law_1286 (by decide) (fun q8 => absurd (ha2  c_2 c_3) q8) (fun _ => ?_)
            have h9 := J_1289 _ _ _ hw (lv_sub hl [0, 1, 2, 3, 4, 5, 6, 7, 8, 9, 10, 11, 12, 13, 14, 15, 16, 17, 18, 19] rfl)
            exact h9
          refine lv_icmp_ne (tgt := 1285) hx hb dL_law_1278 (by decide) (fun c_4 => ?_) (fun c_4 => ?_)
          · have c_4 : ¬ (nI nk : Int32) = nu := c_4
            refine lv_iconst (v := 0) hx hb dL_law_1285 (by decide) ?_
            have h9 := J_1286 _ _ _ hw (lv_sub hl [0, 1, 2, 3, 4, 5, 6, 7, 8, 9, 10, 11, 12, 13, 14, 15, 16, 17, 18, 19] rfl)
            rw [show (bI (decide (nI nk = nu)) : Int32) = 0 from (by first | (simp only [c_4]; done) | (simp only [c_4]; rfl) | (simp [bI, c_4]; done))] at h9
            exact h9
          · have c_4 : (nI nk : Int32) = nu := c_4
            refine lv_iconst (v := 1) hx hb dL_law_1281 (by decide) ?_
            refine lv_goto (tgt := 1286) hx hb dL_law_1282 (by decide) ?_
            have h9 := J_1286 _ _ _ hw (lv_sub hl [0, 1, 2, 3, 4, 5, 6, 7, 8, 9, 10, 11, 12, 13, 14, 15, 16, 17, 18, 19] rfl)
            rw [show (bI (decide (nI nk = nu)) : Int32) = 1 from (by first | (simp only [c_4]; done) | (simp only [c_4]; rfl) | (simp [bI, c_4]; done))] at h9
            exact h9
        refine lv_if_le (tgt := 1273) hx hb dL_law_1266 (by decide) (fun c_5 => ?_) (fun c_5 => ?_)
        · have c_5 : (l_dark G S 16 : Int32) ≤ 0 := c_5
          refine lv_iconst (v := 0) hx hb dL_law_1273 (by decide) ?_
          have h9 := J_1274 _ _ _ hw (lv_sub hl [0, 1, 2, 3, 4, 5, 6, 7, 8, 9, 10, 11, 12, 13, 14, 15, 16, 17, 18, 19] rfl)
          rw [show (bI (!decide (l_dark G S 16 ≤ 0)) : Int32) = 0 from (by first | (simp only [c_5]; done) | (simp only [c_5]; rfl) | (simp [bI, c_5]; done))] at h9
          exact h9
        · have c_5 : ¬ (l_dark G S 16 : Int32) ≤ 0 := c_5
          refine lv_iconst (v := 1) hx hb dL_law_1269 (by decide) ?_
          refine lv_goto (tgt := 1274) hx hb dL_law_1270 (by decide) ?_
          have h9 := J_1274 _ _ _ hw (lv_sub hl [0, 1, 2, 3, 4, 5, 6, 7, 8, 9, 10, 11, 12, 13, 14, 15, 16, 17, 18, 19] rfl)
          rw [show (bI (!decide (l_dark G S 16 ≤ 0)) : Int32) = 1 from (by first | (simp only [c_5]; done) | (simp only [c_5]; rfl) | (simp [bI, c_5]; done))] at h9
          exact h9
  refine lv_if_ne (tgt := 1235) hx hb dL_law_1210 (by decide) (fun c_6 => ?_) (fun c_6 => ?_)
  · have c_6 : il = true := bI_nz c_6
    have h9 := J_1235 _ _ _ hw (lv_sub hl [0, 1, 2, 3, 4, 5, 6, 7, 8, 9, 10, 11, 12, 13, 14, 15, 16, 17, 18, 19] rfl)
    exact h9
  · have c_6 : il = false := bI_z c_6
    refine lv_iload hx hb dL_law_1213 (lv_at hl 10 rfl) ?_
    refine lv_iload hx hb dL_law_1215 (lv_at hl 16 rfl) ?_
    refine lv_isub hx hb dL_law_1217 ?_
    refine lv_iload hx hb dL_law_1218 (lv_at hl 17 rfl) ?_
    refine lv_icmp_ne (tgt := 1244) hx hb dL_law_1220 (by decide) (fun q8 => absurd (ha3  c_6) q8) (fun _ => ?_)
    refine lv_aload_n hx hb dL_law_1223 rfl (lv_at hl 1 rfl) ?_
    refine kr_i (ws' := wX x A T B ++ wC E A (B 0) S ++ wC E T (B 0) U ++ wG E B G ++ [(qv, aI E (g_sc G) fv)] ++ [(qg, aI E (g_sc G) fg)] ++ [(ql, aI E (g_sc G) fl)] ++ [(qh, aI E (g_pc G) fh)] ++ [(qr, aI E (g_sc G) fr)] ++ wS E q P (mkS v_ni v_wa v_un v_ns v_np v_nw v_ng v_ma v_st v_ou v_ru v_so v_mt v_vo v_gi v_ca v_tr v_sw v_ss v_sg)) (va_runV (As := []) (rest := []) ⟨hx, hb, hml, hown, hts⟩ (c_X2_bellsUnrung l E x A T B S U G  _) (cwV 0 hts gL_law_X2_bellsUnrung rfl rfl rfl ⟨rfl, hd_X2_bellsUnrung⟩ ⟨Nat.le_of_ble_eq_true rfl, Nat.le_of_ble_eq_true rfl⟩) (pwV (ci := 2) (q0 := 0) (C := RX2) hw hK rfl rfl rfl (rpS (AV := [.ref x]) hw hK hG rp_91)) rfl rfl hl.1 rfl (lv_room (Nat.le_of_ble_eq_true rfl)) dL_law_1224 ⟨(show cells + 0 ≤ 600130 by omega), (show slots + 0 ≤ 7301080 by omega)⟩) hw hA rp_91 (fun H locs hw => ?_)
    refine lv_iload hx hb dL_law_1227 (lv_at hl 15 rfl) ?_
    refine lv_iload hx hb dL_law_1229 (lv_at hl 18 rfl) ?_
    refine lv_iadd hx hb dL_law_1231 ?_
    refine lv_icmp_ne (tgt := 1244) hx hb dL_law_1232 (by decide) (fun q8 => absurd (ha4  c_6) q8) (fun _ => ?_)
    have h9 := J_1235 _ _ _ hw (lv_sub hl [0, 1, 2, 3, 4, 5, 6, 7, 8, 9, 10, 11, 12, 13, 14, 15, 16, 17, 18, 19] rfl)
    exact h9
