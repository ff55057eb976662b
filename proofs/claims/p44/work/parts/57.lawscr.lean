set_option maxHeartbeats 8000000 in
set_option maxRecDepth 100000 in
theorem lb_28 {p9 : Program} {l : Launch} {e : Env} {s9 : State} {m : MethodId} {below : List Frame} {meth : Method} {c : Code} {b L : Nat} {xs : Nat → Int32} (C0 : lw_At p9 s9 m meth c b L xs) (hflags : l.stackTraces = false) (E : Ev) (hK : va_K E.1 vwCl (tysE E) s9) (hG : Gx s9) (hZ : Zx (aL s9) s9 s9.heap) {Q : State → Prop} (hL : L ≤ 260) (x : Nat) (A T B : Nat → Nat) (S U : CS) (G : HS) (q : Nat) (P : AP) (v_ni v_wa v_un : Int32) (v_ns v_np v_nw v_ng : Nat) (v_ma v_st v_ou v_ru : Fn) (v_so : FnN) (v_mt v_vo v_gi v_ca v_tr : Fn) (v_sw v_ss : FnN) (v_sg : Fn) (t : Nat) (z : Int32)  (hns : v_ns ≤ 5) (hnp : v_np ≤ 16) (hnw : v_nw ≤ 4) (hng : v_ng ≤ 20) (hso : ∀ p, p < v_np → v_so p < v_ns) (hsw : ∀ j, j < v_ng → v_sw j < v_nw) (ht9 : t < 100) (cells slots : Nat) (hc9 : cells + 0 ≤ 600130) (hs9 : slots + 0 ≤ 7301080) (kk : ∀ (H : Heap) (locs : List Loc) (ls : Array Slot), Wd E (aL s9) s9.heap (wX x A T B ++ wC E A (B 0) S ++ wC E T (B 0) U ++ wG E B G ++ wS E q P (mkS v_ni v_wa v_un v_ns v_np v_nw v_ng v_ma v_st v_ou v_ru v_so v_mt v_vo v_gi v_ca v_tr v_sw v_ss v_sg)) H locs → lv_has ls 29 [(0, .ref b), (1, .ref x), (2, .ref q), (3, .int (nI t)), (4, .int (((f_cell L xs t) >>> ((2 : Int32) &&& 31)) + (nI (53 * t))))] → W p9 l e room_1 s9 m #[Value.ref b] below meth c H locs (cells + 0) (slots + 0) Q (F0 m 42 ls [])) {H : Heap} {locs : List Loc} {ls : Array Slot} (hw : Wd E (aL s9) s9.heap (wX x A T B ++ wC E A (B 0) S ++ wC E T (B 0) U ++ wG E B G ++ wS E q P (mkS v_ni v_wa v_un v_ns v_np v_nw v_ng v_ma v_st v_ou v_ru v_so v_mt v_vo v_gi v_ca v_tr v_sw v_ss v_sg)) H locs) (hl : lv_has ls 29 [(0, .ref b), (1, .ref x), (2, .ref q), (3, .int (nI t))]) : W p9 l e room_1 s9 m #[Value.ref b] below meth c H locs cells slots Q (F0 m 28 ls []) := by
  obtain ⟨hx, hb, hr, hml, hown, hts0, hX, hbl, hlocks, hgv⟩ := C0
  have hts : ∀ w ∈ wsL_law, w.before #[Value.ref b] s9 = true := fun w h => hts0 w (wsL_law_in w h)
  have hown : s9.vm.findClass RL = some m.cls := hown
  have hA : ∀ q, s9.heap.size ≤ q → aL s9 q := fun _ h => h
  have hbA : ¬ aL s9 b := Nat.not_le.mpr hbl
  refine lv_aload_n hx hb dL_law_28 rfl (lv_at hl 0 rfl) ?_
  refine lv_iload_n hx hb dL_law_29 rfl (lv_at hl 3 rfl) ?_
  refine kr_i (ws' := wX x A T B ++ wC E A (B 0) S ++ wC E T (B 0) U ++ wG E B G ++ wS E q P (mkS v_ni v_wa v_un v_ns v_np v_nw v_ng v_ma v_st v_ou v_ru v_so v_mt v_vo v_gi v_ca v_tr v_sw v_ss v_sg)) (va_runS (As := [.ref b, .int (nI t)]) (rest := []) ⟨hx, hb, hml, hown, hts⟩ (c_L_cell l E b L xs t (show t < 1000 by omega) hL _) (va_cwS 2 hts gL_law_L_cell rfl rfl rfl hd_L_cell ⟨Nat.le_of_ble_eq_true rfl, Nat.le_of_ble_eq_true rfl⟩) (rpZ (AV := [.ref b, .int (nI t)]) hw hK hG hX hbl hbA rp_nil) rfl rfl hl.1 rfl (lv_room (Nat.le_of_ble_eq_true rfl)) dL_law_30 ⟨(show cells + 0 ≤ 600130 by omega), (show slots + 0 ≤ 7301080 by omega)⟩) hw hA rp_nil (fun H locs hw => ?_)
  refine W.widen (k := cells) (n := slots) (show cells + 0 ≤ cells by omega) (show slots + 0 ≤ slots by omega) ?_
  refine lv_iconst (v := 2) hx hb dL_law_33 (by decide) ?_
  refine lv_ishr hx hb dL_law_34 ?_
  refine lv_bipush (v := 53) hx hb dL_law_35 (by decide) ?_
  refine lv_iload_n hx hb dL_law_37 rfl (lv_at hl 3 rfl) ?_
  refine k_imulN (a := 53) (b := t) hx hb dL_law_38 ?_
  refine lv_iadd hx hb dL_law_39 ?_
  refine lv_istore (lv' := [(4, .int (((f_cell L xs t) >>> ((2 : Int32) &&& 31)) + (nI (53 * t)))), (0, .ref b), (1, .ref x), (2, .ref q), (3, .int (nI t))]) hx hb dL_law_40 hl (by decide) rfl (fun ls hl => ?_)
  refine W.widen (k := cells + 0) (n := slots + 0) (show cells ≤ cells + 0 by omega) (show slots ≤ slots + 0 by omega) ?_
  exact kk _ _ _ hw (lv_sub hl [1, 2, 3, 4, 0] rfl)
