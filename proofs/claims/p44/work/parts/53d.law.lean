set_option maxHeartbeats 8000000 in
set_option maxRecDepth 100000 in
theorem lb_557 {p9 : Program} {l : Launch} {e : Env} {s9 : State} {m : MethodId} {below : List Frame} {meth : Method} {c : Code} {b L : Nat} {xs : Nat → Int32} (C0 : lw_At p9 s9 m meth c b L xs) (hflags : l.stackTraces = false) (E : Ev) (hK : va_K E.1 vwCl (tysE E) s9) (hG : Gx s9) (hZ : Zx (aL s9) s9 s9.heap) {Q : State → Prop} (x : Nat) (A T B : Nat → Nat) (S U : CS) (G : HS) (q : Nat) (P : AP) (v_ni v_wa v_un : Int32) (v_ns v_np v_nw v_ng : Nat) (v_ma v_st v_ou v_ru : Fn) (v_so : FnN) (v_mt v_vo v_gi v_ca v_tr : Fn) (v_sw v_ss : FnN) (v_sg : Fn) (t : Nat) (z : Int32) (D : Int64) (qv qg ql : Nat) (fv fg fl : Fn) (nd nn na : Int32) (hns : v_ns ≤ 5) (hnp : v_np ≤ 16) (hnw : v_nw ≤ 4) (hng : v_ng ≤ 20) (hso : ∀ p, p < v_np → v_so p < v_ns) (hsw : ∀ j, j < v_ng → v_sw j < v_nw) (ha0 : (nd : Int32) = l_dark G S 16) (ha1 : (nn : Int32) = l_lost G S 16) (ha2 : (bI (decide (f_untilD G S = 0)) : Int32) = bI (!decide (nd ≤ 0))) (cells slots : Nat) (hc9 : cells + 4 ≤ 600130) (hs9 : slots + 24 ≤ 7301080) (kk : ∀ (U9 : CS) (H : Heap) (locs : List Loc) (ls : Array Slot), Wd E (aL s9) s9.heap (wX x A T B ++ wC E A (B 0) S ++ wC E T (B 0) U9 ++ wG E B G ++ [(qv, aI E (g_sc G) fv)] ++ [(qg, aI E (g_sc G) fg)] ++ [(ql, aI E (g_sc G) fl)] ++ wS E q P (mkS v_ni v_wa v_un v_ns v_np v_nw v_ng v_ma v_st v_ou v_ru v_so v_mt v_vo v_gi v_ca v_tr v_sw v_ss v_sg)) H locs → lv_has ls 29 [(0, .ref b), (1, .ref x), (2, .ref q), (3, .int (nI t)), (4, .int z), (5, .long D), (7, .int (nI (g_sc G))), (8, .ref qv), (9, .ref qg), (10, .ref ql), (11, .int nd), (12, .int nn), (13, .int na), (14, .int (f_untilD G S))] → W p9 l e room_1 s9 m #[Value.ref b] below meth c H locs (cells + 4) (slots + 24) Q (F0 m 606 ls [])) {H : Heap} {locs : List Loc} {ls : Array Slot} (hw : Wd E (aL s9) s9.heap (wX x A T B ++ wC E A (B 0) S ++ wC E T (B 0) U ++ wG E B G ++ [(qv, aI E (g_sc G) fv)] ++ [(qg, aI E (g_sc G) fg)] ++ [(ql, aI E (g_sc G) fl)] ++ wS E q P (mkS v_ni v_wa v_un v_ns v_np v_nw v_ng v_ma v_st v_ou v_ru v_so v_mt v_vo v_gi v_ca v_tr v_sw v_ss v_sg)) H locs) (hl : lv_has ls 29 [(0, .ref b), (1, .ref x), (2, .ref q), (3, .int (nI t)), (4, .int z), (5, .long D), (7, .int (nI (g_sc G))), (8, .ref qv), (9, .ref qg), (10, .ref ql), (11, .int nd), (12, .int nn), (13, .int na)]) : W p9 l e room_1 s9 m #[Value.ref b] below meth c H locs cells slots Q (F0 m 557 ls []) := by
  obtain ⟨hx, hb, hr, hml, hown, hts0, hX, hbl, hlocks, hgv⟩ := C0
  have hts : ∀ w ∈ wsL_law, w.before #[Value.ref b] s9 = true := fun w h => hts0 w (wsL_law_in w h)
  have hown : s9.vm.findClass RL = some m.cls := hown
  have hA : ∀ q, s9.heap.size ≤ q → aL s9 q := fun _ h => h
  refine lv_aload_n hx hb dL_law_557 rfl (lv_at hl 1 rfl) ?_
  refine kr_ie (wU' := fun U9 => wX x A T B ++ wC E A (B 0) S ++ wC E T (B 0) U9 ++ wG E B G ++ [(qv, aI E (g_sc G) fv)] ++ [(qg, aI E (g_sc G) fg)] ++ [(ql, aI E (g_sc G) fl)] ++ wS E q P (mkS v_ni v_wa v_un v_ns v_np v_nw v_ng v_ma v_st v_ou v_ru v_so v_mt v_vo v_gi v_ca v_tr v_sw v_ss v_sg)) (va_runV (As := []) (rest := []) ⟨hx, hb, hml, hown, hts⟩ (c_X2_nightsUntilDark l E x A T B S U G  _) (cwV 0 hts gL_law_X2_nightsUntilDark rfl rfl rfl ⟨rfl, hd_X2_nightsUntilDark⟩ ⟨Nat.le_of_ble_eq_true rfl, Nat.le_of_ble_eq_true rfl⟩) (pwV (ci := 2) (q0 := 0) (C := RX2) hw hK rfl rfl rfl (rpS (AV := [.ref x]) hw hK hG rp_84)) rfl rfl hl.1 rfl (lv_room (Nat.le_of_ble_eq_true rfl)) dL_law_558 ⟨(show cells + 0 ≤ 600130 by omega), (show slots + 0 ≤ 7301080 by omega)⟩) hw hA (fun _ => rp_85) (fun U_1 H locs hw => ?_)
  refine lv_istore (lv' := [(14, .int (f_untilD G S)), (0, .ref b), (1, .ref x), (2, .ref q), (3, .int (nI t)), (4, .int z), (5, .long D), (7, .int (nI (g_sc G))), (8, .ref qv), (9, .ref qg), (10, .ref ql), (11, .int nd), (12, .int nn), (13, .int na)]) hx hb dL_law_561 hl (by decide) rfl (fun ls hl => ?_)
  refine lv_iload hx hb dL_law_563 (lv_at hl 11 rfl) ?_
  refine lv_aload_n hx hb dL_law_565 rfl (lv_at hl 2 rfl) ?_
  refine kr_i (ws' := wX x A T B ++ wC E A (B 0) S ++ wC E T (B 0) U_1 ++ wG E B G ++ [(qv, aI E (g_sc G) fv)] ++ [(qg, aI E (g_sc G) fg)] ++ [(ql, aI E (g_sc G) fl)] ++ wS E q P (mkS v_ni v_wa v_un v_ns v_np v_nw v_ng v_ma v_st v_ou v_ru v_so v_mt v_vo v_gi v_ca v_tr v_sw v_ss v_sg)) (va_runV (As := []) (rest := [.int nd]) ⟨hx, hb, hml, hown, hts⟩ (c_X2_darkCandles l E x A T B S U_1 G  _) (cwV 0 hts gL_law_X2_darkCandles rfl rfl rfl ⟨rfl, hd_X2_darkCandles⟩ ⟨Nat.le_of_ble_eq_true rfl, Nat.le_of_ble_eq_true rfl⟩) (pwV (ci := 2) (q0 := 0) (C := RX2) hw hK rfl rfl rfl (rpS (AV := [.ref x]) hw hK hG rp_84)) rfl rfl hl.1 rfl (lv_room (Nat.le_of_ble_eq_true rfl)) dL_law_566 ⟨(show cells + 0 ≤ 600130 by omega), (show slots + 0 ≤ 7301080 by omega)⟩) hw hA rp_84 (fun H locs hw => ?_)
  refine lv_icmp_ne (tgt := 604) hx hb dL_law_569 (by decide) (fun q8 => absurd ha0 q8) (fun _ => ?_)
  refine lv_iload hx hb dL_law_572 (lv_at hl 12 rfl) ?_
  refine lv_aload_n hx hb dL_law_574 rfl (lv_at hl 2 rfl) ?_
  refine kr_i (ws' := wX x A T B ++ wC E A (B 0) S ++ wC E T (B 0) U_1 ++ wG E B G ++ [(qv, aI E (g_sc G) fv)] ++ [(qg, aI E (g_sc G) fg)] ++ [(ql, aI E (g_sc G) fl)] ++ wS E q P (mkS v_ni v_wa v_un v_ns v_np v_nw v_ng v_ma v_st v_ou v_ru v_so v_mt v_vo v_gi v_ca v_tr v_sw v_ss v_sg)) (va_runV (As := []) (rest := [.int nn]) ⟨hx, hb, hml, hown, hts⟩ (c_X2_namesOnWall l E x A T B S U_1 G  _) (cwV 0 hts gL_law_X2_namesOnWall rfl rfl rfl ⟨rfl, hd_X2_namesOnWall⟩ ⟨Nat.le_of_ble_eq_true rfl, Nat.le_of_ble_eq_true rfl⟩) (pwV (ci := 2) (q0 := 0) (C := RX2) hw hK rfl rfl rfl (rpS (AV := [.ref x]) hw hK hG rp_84)) rfl rfl hl.1 rfl (lv_room (Nat.le_of_ble_eq_true rfl)) dL_law_575 ⟨(show cells + 0 ≤ 600130 by omega), (show slots + 0 ≤ 7301080 by omega)⟩) hw hA rp_84 (fun H locs hw => ?_)
  refine lv_icmp_ne (tgt := 604) hx hb dL_law_578 (by decide) (fun q8 => absurd ha1 q8) (fun _ => ?_)
  refine lv_iload hx hb dL_law_581 (lv_at hl 0 rfl) ?_
  have J_591 : ∀ (H : Heap) (locs : List Loc) (ls : Array Slot), Wd E (aL s9) s9.heap (wX x A T B ++ wC E A (B 0) S ++ wC E T (B 0) U_1 ++ wG E B G ++ [(qv, aI E (g_sc G) fv)] ++ [(qg, aI E (g_sc G) fg)] ++ [(ql, aI E (g_sc G) fl)] ++ wS E q P (mkS v_ni v_wa v_un v_ns v_np v_nw v_ng v_ma v_st v_ou v_ru v_so v_mt v_vo v_gi v_ca v_tr v_sw v_ss v_sg)) H locs → lv_has ls 29 [(14, .int (f_untilD G S)), (0, .ref b), (1, .ref x), (2, .ref q), (3, .int (nI t)), (4, .int z), (5, .long D), (7, .int (nI (g_sc G))), (8, .ref qv), (9, .ref qg), (10, .ref ql), (11, .int nd), (12, .int nn), (13, .int na)] → W p9 l e room_1 s9 m #[Value.ref b] below meth c H locs cells slots (Q) (F0 m 591 ls [.int (bI (decide (f_untilD G S = 0)))]) := by
    intro H locs ls hw hl
    refine lv_iload hx hb dL_law_591 (lv_at hl 11 rfl) ?_
    have J_601 : ∀ (H : Heap) (locs : List Loc) (ls : Array Slot), Wd E (aL s9) s9.heap (wX x A T B ++ wC E A (B 0) S ++ wC E T (B 0) U_1 ++ wG E B G ++ [(qv, aI E (g_sc G) fv)] ++ [(qg, aI E (g_sc G) fg)] ++ [(ql, aI E (g_sc G) fl)] ++ wS E q P (mkS v_ni v_wa v_un v_ns v_np v_nw v_ng v_ma v_st v_ou v_ru v_so v_mt v_vo v_gi v_ca v_tr v_sw v_ss v_sg)) H locs → lv_has ls 29 [(14, .int (f_untilD G S)), (0, .ref b), (1, .ref x), (2, .ref q), (3, .int (nI t)), (4, .int z), (5, .long D), (7, .int (nI (g_sc G))), (8, .ref qv), (9, .ref qg), (10, .ref ql), (11, .int nd), (12, .int nn), (13, .int na)] → W p9 l e room_1 s9 m #[Value.ref b] below meth c H locs cells slots (Q) (F0 m 601 ls [.int (bI (!decide (nd ≤ 0))), .int (bI (decide (f_untilD G S = 0)))]) := by
      intro H locs ls hw hl
      refine lv_icmp_eq (tgt := 606) hx hb dL_law_601 (by decide) (fun _ => ?_) (fun q8 => absurd ha2 q8)
      refine W.widen (k := cells + 4) (n := slots + 24) (show cells ≤ cells + 4 by omega) (show slots ≤ slots + 24 by omega) ?_
      exact kk U_1 _ _ _ hw (lv_sub hl [1, 2, 3, 4, 5, 6, 7, 8, 9, 10, 11, 12, 13, 0] rfl)
    refine lv_if_le (tgt := 600) hx hb dL_law_593 (by decide) (fun c_2 => ?_) (fun c_2 => ?_)
    · have c_2 : (nd : Int32) ≤ 0 := c_2
      refine lv_iconst (v := 0) hx hb dL_law_600 (by decide) ?_
      have h9 := J_601 _ _ _ hw (lv_sub hl [0, 1, 2, 3, 4, 5, 6, 7, 8, 9, 10, 11, 12, 13] rfl)
      rw [show (bI (!decide (nd ≤ 0)) : Int32) = 0 from (by first | (simp only [c_2]; done) | (simp only [c_2]; rfl) | (simp [bI, c_2]; done))] at h9
      exact h9
    · have c_2 : ¬ (nd : Int32) ≤ 0 := c_2
      refine lv_iconst (v := 1) hx hb dL_law_596 (by decide) ?_
      refine lv_goto (tgt := 601) hx hb dL_law_597 (by decide) ?_
      have h9 := J_601 _ _ _ hw (lv_sub hl [0, 1, 2, 3, 4, 5, 6, 7, 8, 9, 10, 11, 12, 13] rfl)
      rw [show (bI (!decide (nd ≤ 0)) : Int32) = 1 from (by first | (simp only [c_2]; done) | (simp only [c_2]; rfl) | (simp [bI, c_2]; done))] at h9
      exact h9
  refine lv_if_ne (tgt := 590) hx hb dL_law_583 (by decide) (fun c_3 => ?_) (fun c_3 => ?_)
  · have c_3 : ¬ (f_untilD G S : Int32) = 0 := c_3
    refine lv_iconst (v := 0) hx hb dL_law_590 (by decide) ?_
    have h9 := J_591 _ _ _ hw (lv_sub hl [0, 1, 2, 3, 4, 5, 6, 7, 8, 9, 10, 11, 12, 13] rfl)
    rw [show (bI (decide (f_untilD G S = 0)) : Int32) = 0 from (by first | (simp only [c_3]; done) | (simp only [c_3]; rfl) | (simp [bI, c_3]; done))] at h9
    exact h9
  · have c_3 : (f_untilD G S : Int32) = 0 := c_3
    refine lv_iconst (v := 1) hx hb dL_law_586 (by decide) ?_
    refine lv_goto (tgt := 591) hx hb dL_law_587 (by decide) ?_
    have h9 := J_591 _ _ _ hw (lv_sub hl [0, 1, 2, 3, 4, 5, 6, 7, 8, 9, 10, 11, 12, 13] rfl)
    rw [show (bI (decide (f_untilD G S = 0)) : Int32) = 1 from (by first | (simp only [c_3]; done) | (simp only [c_3]; rfl) | (simp [bI, c_3]; done))] at h9
    exact h9
