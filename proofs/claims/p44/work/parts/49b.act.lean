set_option maxHeartbeats 4000000 in
set_option maxRecDepth 100000 in
theorem ac_addWatcher (l : Launch) (hflags : l.stackTraces = false) (E : Ev) {p9 : Program} {e : Env} {s9 : State} {m : MethodId} {args : Array Value} {below : List Frame} {meth : Method} {c : Code} {A9 : Nat → Prop} {H : Heap} {locs : List Loc} {ls : Array Slot} {Q : State → Prop} (hC : Cx E yL_act.cls cL_act 12 (some .boolean) wsL_act p9 s9 m args meth c A9) (ht9 : c.exceptionTable.toList = tableOf [(103, 217, 1043, 94), (218, 270, 1043, 94), (271, 322, 1043, 94), (323, 391, 1043, 94), (392, 403, 1043, 94), (404, 478, 1043, 94), (479, 537, 1043, 94), (538, 550, 1043, 94), (551, 656, 1043, 94), (657, 669, 1043, 94), (670, 774, 1043, 94), (775, 784, 1043, 94), (785, 799, 1043, 94), (800, 877, 1043, 94), (878, 887, 1043, 94), (888, 930, 1043, 94), (931, 970, 1043, 94), (971, 1042, 1043, 94)]) (hZ : Zx A9 s9 s9.heap) (x : Nat) (A T B : Nat → Nat) (S U : CS) (G : HS) (q : Nat) (P : AP) (v_ni v_wa v_un : Int32) (v_ns v_np v_nw v_ng : Nat) (v_ma v_st v_ou v_ru : Fn) (v_so : FnN) (v_mt v_vo v_gi v_ca v_tr : Fn) (v_sw v_ss : FnN) (v_sg : Fn) (z : Int32) (s w p : Nat) (hns : v_ns ≤ 5) (hnp : v_np ≤ 16) (hnw : v_nw ≤ 4) (hng : v_ng ≤ 20) (hso : ∀ p, p < v_np → v_so p < v_ns) (hsw : ∀ j, j < v_ng → v_sw j < v_nw) (hs : s < v_ns) (ha0 : t_addWatcher G = 0) (ha1 : (nI (g_wc G) : Int32) = (nI (v_nw + 1)) - 1) (kk : ∀ (P9 : AP) (H : Heap) (locs : List Loc) (ls : Array Slot), Wd E A9 s9.heap (wX x A T B ++ wC E A (B 0) (f_addWatcher G S) ++ wC E T (B 0) U ++ wG E B (f_ewat G) ++ wS E q P9 (mkS v_ni v_wa v_un v_ns v_np (v_nw + 1) v_ng v_ma v_st v_ou v_ru v_so v_mt v_vo v_gi v_ca (upd (l_cpy (v_tr) (fun _ => 0) (v_nw)) v_nw 5) v_sw v_ss v_sg)) H locs → W p9 l e rm_L_act s9 m args below meth c H locs 4000 76000 Q (F0 m 478 ls [.int 1])) (hw : Wd E A9 s9.heap (wX x A T B ++ wC E A (B 0) S ++ wC E T (B 0) U ++ wG E B G ++ wS E q P (mkS v_ni v_wa v_un v_ns v_np v_nw v_ng v_ma v_st v_ou v_ru v_so v_mt v_vo v_gi v_ca v_tr v_sw v_ss v_sg)) H locs) (hl : lv_has ls 12 [(0, .ref x), (1, .ref q), (2, .int z), (3, .int (nI s)), (4, .int (nI w)), (5, .int (nI p)), (6, .int 0)]) : W p9 l e rm_L_act s9 m args below meth c H locs 0 0 Q (F0 m 392 ls []) := by
  obtain ⟨hx, hb, hml, hr, hown, hts, hlocks, hK, hG, hA⟩ := hC
  have hf21 := hts (.fieldLink RL 21 "SailorCandlesLaw$Sim" "trust" "[I") (List.mem_of_getElem? (i := 3) rfl)
  have hinX3 : ∀ w ∈ wsX30, w ∈ wsL_act := fun w h => List.mem_cons_of_mem _ (List.mem_append_left _ (List.mem_append_left _ (List.mem_append_left _ (List.mem_append_left _ (List.mem_append_left _ (List.mem_append_left _ (List.mem_append_right _ h)))))))
  have hq2 := hts (.arrayClass .int) (List.mem_of_getElem? (i := 5) rfl)
  refine lv_iload hx hb dL_act_392 (lv_at hl 6 rfl) ?_
  refine lv_if_eq (tgt := 404) hx hb dL_act_394 (by decide) (fun _ => ?_) (fun q8 => absurd (by decide) q8)
  refine lv_aload_n hx hb dL_act_404 rfl (lv_at hl 1 rfl) ?_
  refine k_get (ci := 3) (v := .ref (P.1 3)) (C := RX3) (T := TX3) (N := 7) hx hb hown hK hw hts hinX3 21 rfl rfl 5 (by decide) hf21 rfl dL_act_405 ?_
  refine k_lenI (n := v_nw) hx hb hK hw 24 rfl dL_act_408 ?_
  refine lv_iconst (v := 1) hx hb dL_act_409 (by decide) ?_
  refine k_iaddN (a := v_nw) (b := 1) hx hb dL_act_410 ?_
  refine k_newI (N := v_nw + 1) hx hb hq2 hK hw hA (show v_nw + 1 < 1000 by omega) (show 0 + 1 ≤ 4000 by omega) (show 0 + (v_nw + 1) ≤ 76000 by omega) dL_act_411 (fun q411 H hw => ?_)
  have hw : Wd E A9 s9.heap (wX x A T B ++ wC E A (B 0) S ++ wC E T (B 0) U ++ wG E B G ++ wS E q P (mkS v_ni v_wa v_un v_ns v_np v_nw v_ng v_ma v_st v_ou v_ru v_so v_mt v_vo v_gi v_ca v_tr v_sw v_ss v_sg) ++ [(q411, aI E (v_nw + 1) (fun _ => 0))]) H _ := hw
  have hw : Wd E A9 s9.heap (wX x A T B ++ wC E A (B 0) S ++ wC E T (B 0) U ++ wG E B G ++ [(q411, aI E (v_nw + 1) (fun _ => 0))] ++ wS E q P (mkS v_ni v_wa v_un v_ns v_np v_nw v_ng v_ma v_st v_ou v_ru v_so v_mt v_vo v_gi v_ca v_tr v_sw v_ss v_sg)) H _ := Wd.perm hw (perm9 (fun a => by simp only [cnt9_app, cnt9_cons, cnt9_nil] <;> omega))
  refine lv_astore (lv' := [(7, .ref q411), (0, .ref x), (1, .ref q), (2, .int z), (3, .int (nI s)), (4, .int (nI w)), (5, .int (nI p)), (6, .int 0)]) hx hb dL_act_413 hl (by decide) rfl (fun ls hl => ?_)
  refine lv_iconst (v := 0) hx hb dL_act_415 (by decide) ?_
  refine lv_istore (lv' := [(8, .int 0), (7, .ref q411), (0, .ref x), (1, .ref q), (2, .int z), (3, .int (nI s)), (4, .int (nI w)), (5, .int (nI p)), (6, .int 0)]) hx hb dL_act_416 hl (by decide) rfl (fun ls hl => ?_)
  have L_418 : ∀ (k9 i : Nat) (H : Heap) (locs : List Loc) (ls : Array Slot), i + k9 = v_nw → Wd E A9 s9.heap (wX x A T B ++ wC E A (B 0) S ++ wC E T (B 0) U ++ wG E B G ++ [(q411, aI E (v_nw + 1) (l_cpy (v_tr) (fun _ => 0) i))] ++ wS E q P (mkS v_ni v_wa v_un v_ns v_np v_nw v_ng v_ma v_st v_ou v_ru v_so v_mt v_vo v_gi v_ca v_tr v_sw v_ss v_sg)) H locs → lv_has ls 12 [(0, .ref x), (1, .ref q), (7, .ref q411), (8, .int (nI i))] → W p9 l e rm_L_act s9 m args below meth c H locs (0 + 1) (0 + (v_nw + 1)) (Q) (F0 m 418 ls []) := by
    intro k9
    induction k9 with
    | zero =>
      intro i H locs ls hi hw hl
      have hz_1 : v_nw = i := by omega
      refine lv_iload hx hb dL_act_418 (lv_at hl 3 rfl) ?_
      refine lv_aload_n hx hb dL_act_420 rfl (lv_at hl 1 rfl) ?_
      refine k_get (ci := 3) (v := .ref (P.1 3)) (C := RX3) (T := TX3) (N := 7) hx hb hown hK hw hts hinX3 22 rfl rfl 5 (by decide) hf21 rfl dL_act_421 ?_
      refine k_lenI (n := v_nw) hx hb hK hw 25 rfl dL_act_424 ?_
      refine lv_icmp_ge (tgt := 446) hx hb dL_act_425 (by decide) (fun _ => ?_) (fun q8 => absurd (by rw [← hz_1]; exact Int32.le_refl _) q8)
      rw [← hz_1] at hw
      refine lv_aload hx hb dL_act_446 (lv_at hl 2 rfl) ?_
      refine lv_aload_n hx hb dL_act_448 rfl (lv_at hl 1 rfl) ?_
      refine k_get (ci := 3) (v := .ref (P.1 3)) (C := RX3) (T := TX3) (N := 7) hx hb hown hK hw hts hinX3 22 rfl rfl 5 (by decide) hf21 rfl dL_act_449 ?_
      refine k_lenI (n := v_nw) hx hb hK hw 25 rfl dL_act_452 ?_
      refine lv_iconst (v := 5) hx hb dL_act_453 (by decide) ?_
      refine k_istN (i := v_nw) (ws' := wX x A T B ++ wC E A (B 0) S ++ wC E T (B 0) U ++ wG E B G ++ [(q411, aI E (v_nw + 1) (upd (l_cpy (v_tr) (fun _ => 0) (v_nw)) v_nw 5))] ++ wS E q P (mkS v_ni v_wa v_un v_ns v_np v_nw v_ng v_ma v_st v_ou v_ru v_so v_mt v_vo v_gi v_ca v_tr v_sw v_ss v_sg)) hx hb hK hw 21 rfl (by omega) (by omega) dL_act_454 rfl (fun H locs hw => ?_)
      refine lv_aload_n hx hb dL_act_455 rfl (lv_at hl 1 rfl) ?_
      refine lv_aload hx hb dL_act_456 (lv_at hl 2 rfl) ?_
      refine k_putR (ci := 3) (C := RX3) (T := TX3) (N := 7) (ws' := wX x A T B ++ wC E A (B 0) S ++ wC E T (B 0) U ++ wG E B G ++ [(q411, aI E (v_nw + 1) (upd (l_cpy (v_tr) (fun _ => 0) (v_nw)) v_nw 5))] ++ wSo E q P (mkS v_ni v_wa v_un v_ns v_np v_nw v_ng v_ma v_st v_ou v_ru v_so v_mt v_vo v_gi v_ca v_tr v_sw v_ss v_sg) [.int (v_ni), .int (v_wa), .int (v_un), .ref (P.1 1), .ref (P.1 2), .ref q411, .ref (P.1 4)]) hx hb hown hK hw hts hinX3 tyX3 tyX3_ok nmX3 22 rfl rfl 5 (by decide) hf21 rfl rfl rfl (Nat.le_of_ble_eq_true rfl) dL_act_458 rfl (fun H locs hw => ?_)
      have hw := add_3 (P := P) (M := mkS v_ni v_wa v_un v_ns v_np v_nw v_ng v_ma v_st v_ou v_ru v_so v_mt v_vo v_gi v_ca v_tr v_sw v_ss v_sg) hw
      have hw : Wd E A9 s9.heap (wX x A T B ++ wC E A (B 0) S ++ wC E T (B 0) U ++ wG E B G ++ wS E q (updN P.1 3 q411, P.2.1, P.2.2.1, P.2.2.2) (mkS v_ni v_wa v_un v_ns v_np (v_nw + 1) v_ng v_ma v_st v_ou v_ru v_so v_mt v_vo v_gi v_ca (upd (l_cpy (v_tr) (fun _ => 0) (v_nw)) v_nw 5) v_sw v_ss v_sg)) H _ := hw
      refine lv_aload_n hx hb dL_act_461 rfl (lv_at hl 0 rfl) ?_
      refine krx_i (ws' := wX x A T B ++ wC E A (B 0) (f_addWatcher G S) ++ wC E T (B 0) U ++ wG E B (f_ewat G) ++ wS E q (updN P.1 3 q411, P.2.1, P.2.2.1, P.2.2.2) (mkS v_ni v_wa v_un v_ns v_np (v_nw + 1) v_ng v_ma v_st v_ou v_ru v_so v_mt v_vo v_gi v_ca (upd (l_cpy (v_tr) (fun _ => 0) (v_nw)) v_nw 5) v_sw v_ss v_sg)) (vx_runV (As := []) (rest := []) ⟨hx, hb, hml, hown, hts⟩ (c_X2_addWatcher l hflags E x A T B S U G  _) (cwV 0 hts gL_act_X2_addWatcher rfl rfl rfl ⟨rfl, hd_X2_addWatcher⟩ ⟨Nat.le_of_ble_eq_true rfl, Nat.le_of_ble_eq_true rfl⟩) (pwV (ci := 2) (q0 := 0) (C := RX2) hw hK rfl rfl rfl (rpX (AV := [.ref x]) hw hK hG hZ hA rp_76)) rfl rfl hl.1 rfl (lv_room (Nat.le_of_ble_eq_true rfl)) dL_act_462 ⟨(show 0 + 1 + 1 ≤ 4000 by omega), (show 0 + (v_nw + 1) + 6 ≤ 76000 by omega)⟩) hw hA rp_80 rp_76 (fun H locs ce9 q9 t_2 hw hy1 hy2 hy3 => absurd ha0 t_2) (fun H locs t_2 hw => ?_)
      refine lv_aload hx hb dL_act_465 (lv_at hl 2 rfl) ?_
      refine k_lenI (n := v_nw + 1) hx hb hK hw 24 rfl dL_act_467 ?_
      refine lv_iconst (v := 1) hx hb dL_act_468 (by decide) ?_
      refine lv_isub hx hb dL_act_469 ?_
      refine lv_icmp_ne (tgt := 477) hx hb dL_act_470 (by decide) (fun q8 => absurd ha1 q8) (fun _ => ?_)
      refine lv_iconst (v := 1) hx hb dL_act_473 (by decide) ?_
      refine lv_goto (tgt := 478) hx hb dL_act_474 (by decide) ?_
      refine W.widen (k := 4000) (n := 76000) (show 0 + 1 + 1 ≤ 4000 by omega) (show 0 + (v_nw + 1) + 6 ≤ 76000 by omega) ?_
      exact kk (updN P.1 3 q411, P.2.1, P.2.2.1, P.2.2.2) _ _ _ hw
    | succ k9 ih_418 =>
      intro i H locs ls hi hw hl
      have hi9 : i < v_nw := by omega
      refine lv_iload hx hb dL_act_418 (lv_at hl 3 rfl) ?_
      refine lv_aload_n hx hb dL_act_420 rfl (lv_at hl 1 rfl) ?_
      refine k_get (ci := 3) (v := .ref (P.1 3)) (C := RX3) (T := TX3) (N := 7) hx hb hown hK hw hts hinX3 22 rfl rfl 5 (by decide) hf21 rfl dL_act_421 ?_
      refine k_lenI (n := v_nw) hx hb hK hw 25 rfl dL_act_424 ?_
      refine lv_icmp_ge (tgt := 446) hx hb dL_act_425 (by decide) (fun q8 => absurd q8 (nI_ge (a := i) (b := v_nw) (by omega) (by omega))) (fun _ => ?_)
      refine lv_aload hx hb dL_act_428 (lv_at hl 2 rfl) ?_
      refine lv_iload hx hb dL_act_430 (lv_at hl 3 rfl) ?_
      refine lv_aload_n hx hb dL_act_432 rfl (lv_at hl 1 rfl) ?_
      refine k_get (ci := 3) (v := .ref (P.1 3)) (C := RX3) (T := TX3) (N := 7) hx hb hown hK hw hts hinX3 22 rfl rfl 5 (by decide) hf21 rfl dL_act_433 ?_
      refine lv_iload hx hb dL_act_436 (lv_at hl 3 rfl) ?_
      refine k_ildN (i := i) (n := v_nw) (f := v_tr) hx hb hK hw 25 rfl (show i < v_nw from by omega) (show v_nw < 2 ^ 31 by omega) dL_act_438 ?_
      refine k_istN (i := i) (ws' := wX x A T B ++ wC E A (B 0) S ++ wC E T (B 0) U ++ wG E B G ++ [(q411, aI E (v_nw + 1) (upd (l_cpy (v_tr) (fun _ => 0) i) i (v_tr i)))] ++ wS E q P (mkS v_ni v_wa v_un v_ns v_np v_nw v_ng v_ma v_st v_ou v_ru v_so v_mt v_vo v_gi v_ca v_tr v_sw v_ss v_sg)) hx hb hK hw 21 rfl (by omega) (by omega) dL_act_439 rfl (fun H locs hw => ?_)
      refine lv_iinc (v := nI (i + 1)) (lv' := [(8, .int (nI (i + 1))), (0, .ref x), (1, .ref q), (7, .ref q411)]) hx hb dL_act_440 hl (k := 3) rfl (nI_add i 1) (by decide) rfl (fun ls hl => ?_)
      refine lv_goto (tgt := 418) hx hb dL_act_443 (by decide) ?_
      refine W.widen (k := 0 + 1) (n := 0 + (v_nw + 1)) (show 0 + 1 ≤ 0 + 1 by omega) (show 0 + (v_nw + 1) ≤ 0 + (v_nw + 1) by omega) ?_
      exact ih_418 (i + 1) _ _ _ (by omega) (hw.to (by first | rfl | assumption | (simp only [l_cpy, if_true, if_false, Bool.false_eq_true, Bool.true_eq_false, reduceIte, reduceCtorEq]; done) | (simp only [l_cpy, if_true, if_false, Bool.false_eq_true, Bool.true_eq_false, reduceIte, reduceCtorEq]; rfl) | (simp [l_cpy, if_true, if_false, Bool.false_eq_true, Bool.true_eq_false, reduceIte, reduceCtorEq]; done) | (simp [bI, l_cpy]; done))) (lv_sub hl [1, 2, 3, 0] rfl)
  exact L_418 (v_nw - 0) 0 _ _ _ (by omega) hw (lv_sub hl [2, 3, 1, 0] rfl)

set_option maxHeartbeats 4000000 in
set_option maxRecDepth 100000 in
theorem ac_buyWax_a (l : Launch) (hflags : l.stackTraces = false) (E : Ev) {p9 : Program} {e : Env} {s9 : State} {m : MethodId} {args : Array Value} {below : List Frame} {meth : Method} {c : Code} {A9 : Nat → Prop} {H : Heap} {locs : List Loc} {ls : Array Slot} {Q : State → Prop} (hC : Cx E yL_act.cls cL_act 12 (some .boolean) wsL_act p9 s9 m args meth c A9) (ht9 : c.exceptionTable.toList = tableOf [(103, 217, 1043, 94), (218, 270, 1043, 94), (271, 322, 1043, 94), (323, 391, 1043, 94), (392, 403, 1043, 94), (404, 478, 1043, 94), (479, 537, 1043, 94), (538, 550, 1043, 94), (551, 656, 1043, 94), (657, 669, 1043, 94), (670, 774, 1043, 94), (775, 784, 1043, 94), (785, 799, 1043, 94), (800, 877, 1043, 94), (878, 887, 1043, 94), (888, 930, 1043, 94), (931, 970, 1043, 94), (971, 1042, 1043, 94)]) (hZ : Zx A9 s9 s9.heap) (x : Nat) (A T B : Nat → Nat) (S U : CS) (G : HS) (q : Nat) (P : AP) (v_ni v_wa v_un : Int32) (v_ns v_np v_nw v_ng : Nat) (v_ma v_st v_ou v_ru : Fn) (v_so : FnN) (v_mt v_vo v_gi v_ca v_tr : Fn) (v_sw v_ss : FnN) (v_sg : Fn) (z : Int32) (s w p : Nat) (hns : v_ns ≤ 5) (hnp : v_np ≤ 16) (hnw : v_nw ≤ 4) (hng : v_ng ≤ 20) (hso : ∀ p, p < v_np → v_so p < v_ns) (hsw : ∀ j, j < v_ng → v_sw j < v_nw) (hs : s < v_ns) (hbb : (nI (bl (z >>> ((3 : Int32) &&& 31)) 2) : Int32) = 0) (ha0 : t_buyWax (nI (1 + (bl (z >>> ((7 : Int32) &&& 31)) 500))) = 0) (ha1 : (c_wa S + (nI (1 + (bl (z >>> ((7 : Int32) &&& 31)) 500))) : Int32) = v_wa + (nI (1 + (bl (z >>> ((7 : Int32) &&& 31)) 500)))) (kk : ∀ (P9 : AP) (H : Heap) (locs : List Loc) (ls : Array Slot), Wd E A9 s9.heap (wX x A T B ++ wC E A (B 0) (p_wa S (c_wa S + (nI (1 + (bl (z >>> ((7 : Int32) &&& 31)) 500))))) ++ wC E T (B 0) U ++ wG E B G ++ wS E q P9 (mkS v_ni (v_wa + (nI (1 + (bl (z >>> ((7 : Int32) &&& 31)) 500)))) v_un v_ns v_np v_nw v_ng v_ma v_st v_ou v_ru v_so v_mt v_vo v_gi v_ca v_tr v_sw v_ss v_sg)) H locs → W p9 l e rm_L_act s9 m args below meth c H locs 4000 76000 Q (F0 m 537 ls [.int 1])) (hw : Wd E A9 s9.heap (wX x A T B ++ wC E A (B 0) S ++ wC E T (B 0) U ++ wG E B G ++ wS E q P (mkS v_ni v_wa v_un v_ns v_np v_nw v_ng v_ma v_st v_ou v_ru v_so v_mt v_vo v_gi v_ca v_tr v_sw v_ss v_sg)) H locs) (hl : lv_has ls 12 [(0, .ref x), (1, .ref q), (2, .int z), (3, .int (nI s)), (4, .int (nI w)), (5, .int (nI p)), (6, .int 0)]) : W p9 l e rm_L_act s9 m args below meth c H locs 0 0 Q (F0 m 479 ls []) := by
  obtain ⟨hx, hb, hml, hr, hown, hts, hlocks, hK, hG, hA⟩ := hC
  have hf50 := hts (.fieldLink RL 50 "SailorCandlesLaw$Sim" "wax" "I") (List.mem_of_getElem? (i := 6) rfl)
  have hinX3 : ∀ w ∈ wsX30, w ∈ wsL_act := fun w h => List.mem_cons_of_mem _ (List.mem_append_left _ (List.mem_append_left _ (List.mem_append_left _ (List.mem_append_left _ (List.mem_append_left _ (List.mem_append_left _ (List.mem_append_right _ h)))))))
  refine lv_iconst (v := 1) hx hb dL_act_479 (by decide) ?_
  refine lv_iload_n hx hb dL_act_480 rfl (lv_at hl 2 rfl) ?_
  refine lv_bipush (v := 7) hx hb dL_act_481 (by decide) ?_
  refine lv_ishr hx hb dL_act_483 ?_
  refine lv_iload_n hx hb dL_act_484 rfl (lv_at hl 2 rfl) ?_
  refine lv_iconst (v := 3) hx hb dL_act_485 (by decide) ?_
  refine lv_ishr hx hb dL_act_486 ?_
  refine lv_iconst (v := 2) hx hb dL_act_487 (by decide) ?_
  refine kr_i (ws' := wX x A T B ++ wC E A (B 0) S ++ wC E T (B 0) U ++ wG E B G ++ wS E q P (mkS v_ni v_wa v_un v_ns v_np v_nw v_ng v_ma v_st v_ou v_ru v_so v_mt v_vo v_gi v_ca v_tr v_sw v_ss v_sg)) (va_runS (As := [.int (z >>> ((3 : Int32) &&& 31)), .int 2]) (rest := [.int (z >>> ((7 : Int32) &&& 31)), .int 1]) ⟨hx, hb, hml, hown, hts⟩ (c_L_below l E (z >>> ((3 : Int32) &&& 31)) 2 (by decide) (by decide) _) (va_cwS 2 hts gL_act_L_below rfl rfl rfl hd_L_below ⟨Nat.le_of_ble_eq_true rfl, Nat.le_of_ble_eq_true rfl⟩) (rpS (AV := [.int (z >>> ((3 : Int32) &&& 31)), .int 2]) hw hK hG rp_78) rfl rfl hl.1 rfl (lv_room (Nat.le_of_ble_eq_true rfl)) dL_act_488 ⟨Nat.le_of_ble_eq_true rfl, Nat.le_of_ble_eq_true rfl⟩) hw hA rp_78 (fun H locs hw => ?_)
  refine lv_if_ne (tgt := 500) hx hb dL_act_491 (by decide) (fun q8 => absurd hbb q8) (fun _ => ?_)
  refine lv_sipush (v := 500) hx hb dL_act_494 (by decide) ?_
  refine lv_goto (tgt := 502) hx hb dL_act_497 (by decide) ?_
  refine kr_i (ws' := wX x A T B ++ wC E A (B 0) S ++ wC E T (B 0) U ++ wG E B G ++ wS E q P (mkS v_ni v_wa v_un v_ns v_np v_nw v_ng v_ma v_st v_ou v_ru v_so v_mt v_vo v_gi v_ca v_tr v_sw v_ss v_sg)) (va_runS (As := [.int (z >>> ((7 : Int32) &&& 31)), .int 500]) (rest := [.int 1]) ⟨hx, hb, hml, hown, hts⟩ (c_L_below l E (z >>> ((7 : Int32) &&& 31)) 500 (by decide) (by decide) _) (va_cwS 2 hts gL_act_L_below rfl rfl rfl hd_L_below ⟨Nat.le_of_ble_eq_true rfl, Nat.le_of_ble_eq_true rfl⟩) (rpS (AV := [.int (z >>> ((7 : Int32) &&& 31)), .int 500]) hw hK hG rp_78) rfl rfl hl.1 rfl (lv_room (Nat.le_of_ble_eq_true rfl)) dL_act_502 ⟨Nat.le_of_ble_eq_true rfl, Nat.le_of_ble_eq_true rfl⟩) hw hA rp_78 (fun H locs hw => ?_)
  refine k_iaddN (a := 1) (b := bl (z >>> ((7 : Int32) &&& 31)) 500) hx hb dL_act_505 ?_
  refine lv_istore (lv' := [(7, .int (nI (1 + (bl (z >>> ((7 : Int32) &&& 31)) 500)))), (0, .ref x), (1, .ref q), (2, .int z), (3, .int (nI s)), (4, .int (nI w)), (5, .int (nI p)), (6, .int 0)]) hx hb dL_act_506 hl (by decide) rfl (fun ls hl => ?_)
  refine lv_aload_n hx hb dL_act_508 rfl (lv_at hl 2 rfl) ?_
  refine lv_dup hx hb dL_act_509 rfl ?_
  refine k_get (ci := 3) (v := .int v_wa) (C := RX3) (T := TX3) (N := 7) hx hb hown hK hw hts hinX3 21 rfl rfl 1 (by decide) hf50 rfl dL_act_510 ?_
  refine lv_iload hx hb dL_act_513 (lv_at hl 0 rfl) ?_
  refine lv_iadd hx hb dL_act_515 ?_
  refine k_putP (ws' := wX x A T B ++ wC E A (B 0) S ++ wC E T (B 0) U ++ wG E B G ++ wS E q P (mkS v_ni (v_wa + (nI (1 + (bl (z >>> ((7 : Int32) &&& 31)) 500)))) v_un v_ns v_np v_nw v_ng v_ma v_st v_ou v_ru v_so v_mt v_vo v_gi v_ca v_tr v_sw v_ss v_sg)) hx hb hown hK hw hts hinX3 1 (Pk.l (Pk_wa (v_wa + (nI (1 + (bl (z >>> ((7 : Int32) &&& 31)) 500)))))) (by decide) hf50 rfl rfl (Nat.le_of_ble_eq_true rfl) dL_act_516 (fun H locs hw => ?_)
  refine lv_aload_n hx hb dL_act_519 rfl (lv_at hl 1 rfl) ?_
  refine lv_iload hx hb dL_act_520 (lv_at hl 0 rfl) ?_
  refine krx_i (ws' := wX x A T B ++ wC E A (B 0) (p_wa S (c_wa S + (nI (1 + (bl (z >>> ((7 : Int32) &&& 31)) 500))))) ++ wC E T (B 0) U ++ wG E B G ++ wS E q P (mkS v_ni (v_wa + (nI (1 + (bl (z >>> ((7 : Int32) &&& 31)) 500)))) v_un v_ns v_np v_nw v_ng v_ma v_st v_ou v_ru v_so v_mt v_vo v_gi v_ca v_tr v_sw v_ss v_sg)) (vx_runV (As := [.int (nI (1 + (bl (z >>> ((7 : Int32) &&& 31)) 500)))]) (rest := []) ⟨hx, hb, hml, hown, hts⟩ (c_X2_buyWax l hflags E x A T B S U G (nI (1 + (bl (z >>> ((7 : Int32) &&& 31)) 500)))  _) (cwV 1 hts gL_act_X2_buyWax rfl rfl rfl ⟨rfl, hd_X2_buyWax⟩ ⟨Nat.le_of_ble_eq_true rfl, Nat.le_of_ble_eq_true rfl⟩) (pwV (ci := 2) (q0 := 0) (C := RX2) hw hK rfl rfl rfl (rpX (AV := [.ref x, .int (nI (1 + (bl (z >>> ((7 : Int32) &&& 31)) 500)))]) hw hK hG hZ hA rp_76)) rfl rfl hl.1 rfl (lv_room (Nat.le_of_ble_eq_true rfl)) dL_act_522 ⟨Nat.le_of_ble_eq_true rfl, Nat.le_of_ble_eq_true rfl⟩) hw hA rp_81 rp_76 (fun H locs ce9 q9 t_1 hw hy1 hy2 hy3 => absurd ha0 t_1) (fun H locs t_1 hw => ?_)
  refine lv_aload_n hx hb dL_act_525 rfl (lv_at hl 2 rfl) ?_
  refine k_get (ci := 3) (v := .int (v_wa + (nI (1 + (bl (z >>> ((7 : Int32) &&& 31)) 500))))) (C := RX3) (T := TX3) (N := 7) hx hb hown hK hw hts hinX3 21 rfl rfl 1 (by decide) hf50 rfl dL_act_526 ?_
  refine lv_icmp_ne (tgt := 536) hx hb dL_act_529 (by decide) (fun q8 => absurd ha1 q8) (fun _ => ?_)
  refine lv_iconst (v := 1) hx hb dL_act_532 (by decide) ?_
  refine lv_goto (tgt := 537) hx hb dL_act_533 (by decide) ?_
  refine W.widen (k := 4000) (n := 76000) (show 1 ≤ 4000 by omega) (show 6 ≤ 76000 by omega) ?_
  exact kk P _ _ _ hw

set_option maxHeartbeats 4000000 in
set_option maxRecDepth 100000 in
theorem ac_buyWax_b (l : Launch) (hflags : l.stackTraces = false) (E : Ev) {p9 : Program} {e : Env} {s9 : State} {m : MethodId} {args : Array Value} {below : List Frame} {meth : Method} {c : Code} {A9 : Nat → Prop} {H : Heap} {locs : List Loc} {ls : Array Slot} {Q : State → Prop} (hC : Cx E yL_act.cls cL_act 12 (some .boolean) wsL_act p9 s9 m args meth c A9) (ht9 : c.exceptionTable.toList = tableOf [(103, 217, 1043, 94), (218, 270, 1043, 94), (271, 322, 1043, 94), (323, 391, 1043, 94), (392, 403, 1043, 94), (404, 478, 1043, 94), (479, 537, 1043, 94), (538, 550, 1043, 94), (551, 656, 1043, 94), (657, 669, 1043, 94), (670, 774, 1043, 94), (775, 784, 1043, 94), (785, 799, 1043, 94), (800, 877, 1043, 94), (878, 887, 1043, 94), (888, 930, 1043, 94), (931, 970, 1043, 94), (971, 1042, 1043, 94)]) (hZ : Zx A9 s9 s9.heap) (x : Nat) (A T B : Nat → Nat) (S U : CS) (G : HS) (q : Nat) (P : AP) (v_ni v_wa v_un : Int32) (v_ns v_np v_nw v_ng : Nat) (v_ma v_st v_ou v_ru : Fn) (v_so : FnN) (v_mt v_vo v_gi v_ca v_tr : Fn) (v_sw v_ss : FnN) (v_sg : Fn) (z : Int32) (s w p : Nat) (hns : v_ns ≤ 5) (hnp : v_np ≤ 16) (hnw : v_nw ≤ 4) (hng : v_ng ≤ 20) (hso : ∀ p, p < v_np → v_so p < v_ns) (hsw : ∀ j, j < v_ng → v_sw j < v_nw) (hs : s < v_ns) (hbb : ¬ (nI (bl (z >>> ((3 : Int32) &&& 31)) 2) : Int32) = 0) (ha0 : t_buyWax (nI (1 + (bl (z >>> ((7 : Int32) &&& 31)) 40))) = 0) (ha1 : (c_wa S + (nI (1 + (bl (z >>> ((7 : Int32) &&& 31)) 40))) : Int32) = v_wa + (nI (1 + (bl (z >>> ((7 : Int32) &&& 31)) 40)))) (kk : ∀ (P9 : AP) (H : Heap) (locs : List Loc) (ls : Array Slot), Wd E A9 s9.heap (wX x A T B ++ wC E A (B 0) (p_wa S (c_wa S + (nI (1 + (bl (z >>> ((7 : Int32) &&& 31)) 40))))) ++ wC E T (B 0) U ++ wG E B G ++ wS E q P9 (mkS v_ni (v_wa + (nI (1 + (bl (z >>> ((7 : Int32) &&& 31)) 40)))) v_un v_ns v_np v_nw v_ng v_ma v_st v_ou v_ru v_so v_mt v_vo v_gi v_ca v_tr v_sw v_ss v_sg)) H locs → W p9 l e rm_L_act s9 m args below meth c H locs 4000 76000 Q (F0 m 537 ls [.int 1])) (hw : Wd E A9 s9.heap (wX x A T B ++ wC E A (B 0) S ++ wC E T (B 0) U ++ wG E B G ++ wS E q P (mkS v_ni v_wa v_un v_ns v_np v_nw v_ng v_ma v_st v_ou v_ru v_so v_mt v_vo v_gi v_ca v_tr v_sw v_ss v_sg)) H locs) (hl : lv_has ls 12 [(0, .ref x), (1, .ref q), (2, .int z), (3, .int (nI s)), (4, .int (nI w)), (5, .int (nI p)), (6, .int 0)]) : W p9 l e rm_L_act s9 m args below meth c H locs 0 0 Q (F0 m 479 ls []) := by
  obtain ⟨hx, hb, hml, hr, hown, hts, hlocks, hK, hG, hA⟩ := hC
  have hf50 := hts (.fieldLink RL 50 "SailorCandlesLaw$Sim" "wax" "I") (List.mem_of_getElem? (i := 6) rfl)
  have hinX3 : ∀ w ∈ wsX30, w ∈ wsL_act := fun w h => List.mem_cons_of_mem _ (List.mem_append_left _ (List.mem_append_left _ (List.mem_append_left _ (List.mem_append_left _ (List.mem_append_left _ (List.mem_append_left _ (List.mem_append_right _ h)))))))
  refine lv_iconst (v := 1) hx hb dL_act_479 (by decide) ?_
  refine lv_iload_n hx hb dL_act_480 rfl (lv_at hl 2 rfl) ?_
  refine lv_bipush (v := 7) hx hb dL_act_481 (by decide) ?_
  refine lv_ishr hx hb dL_act_483 ?_
  refine lv_iload_n hx hb dL_act_484 rfl (lv_at hl 2 rfl) ?_
  refine lv_iconst (v := 3) hx hb dL_act_485 (by decide) ?_
  refine lv_ishr hx hb dL_act_486 ?_
  refine lv_iconst (v := 2) hx hb dL_act_487 (by decide) ?_
  refine kr_i (ws' := wX x A T B ++ wC E A (B 0) S ++ wC E T (B 0) U ++ wG E B G ++ wS E q P (mkS v_ni v_wa v_un v_ns v_np v_nw v_ng v_ma v_st v_ou v_ru v_so v_mt v_vo v_gi v_ca v_tr v_sw v_ss v_sg)) (va_runS (As := [.int (z >>> ((3 : Int32) &&& 31)), .int 2]) (rest := [.int (z >>> ((7 : Int32) &&& 31)), .int 1]) ⟨hx, hb, hml, hown, hts⟩ (c_L_below l E (z >>> ((3 : Int32) &&& 31)) 2 (by decide) (by decide) _) (va_cwS 2 hts gL_act_L_below rfl rfl rfl hd_L_below ⟨Nat.le_of_ble_eq_true rfl, Nat.le_of_ble_eq_true rfl⟩) (rpS (AV := [.int (z >>> ((3 : Int32) &&& 31)), .int 2]) hw hK hG rp_78) rfl rfl hl.1 rfl (lv_room (Nat.le_of_ble_eq_true rfl)) dL_act_488 ⟨Nat.le_of_ble_eq_true rfl, Nat.le_of_ble_eq_true rfl⟩) hw hA rp_78 (fun H locs hw => ?_)
  refine lv_if_ne (tgt := 500) hx hb dL_act_491 (by decide) (fun _ => ?_) (fun q8 => absurd q8 hbb)
  refine lv_bipush (v := 40) hx hb dL_act_500 (by decide) ?_
  refine kr_i (ws' := wX x A T B ++ wC E A (B 0) S ++ wC E T (B 0) U ++ wG E B G ++ wS E q P (mkS v_ni v_wa v_un v_ns v_np v_nw v_ng v_ma v_st v_ou v_ru v_so v_mt v_vo v_gi v_ca v_tr v_sw v_ss v_sg)) (va_runS (As := [.int (z >>> ((7 : Int32) &&& 31)), .int 40]) (rest := [.int 1]) ⟨hx, hb, hml, hown, hts⟩ (c_L_below l E (z >>> ((7 : Int32) &&& 31)) 40 (by decide) (by decide) _) (va_cwS 2 hts gL_act_L_below rfl rfl rfl hd_L_below ⟨Nat.le_of_ble_eq_true rfl, Nat.le_of_ble_eq_true rfl⟩) (rpS (AV := [.int (z >>> ((7 : Int32) &&& 31)), .int 40]) hw hK hG rp_78) rfl rfl hl.1 rfl (lv_room (Nat.le_of_ble_eq_true rfl)) dL_act_502 ⟨Nat.le_of_ble_eq_true rfl, Nat.le_of_ble_eq_true rfl⟩) hw hA rp_78 (fun H locs hw => ?_)
  refine k_iaddN (a := 1) (b := bl (z >>> ((7 : Int32) &&& 31)) 40) hx hb dL_act_505 ?_
  refine lv_istore (lv' := [(7, .int (nI (1 + (bl (z >>> ((7 : Int32) &&& 31)) 40)))), (0, .ref x), (1, .ref q), (2, .int z), (3, .int (nI s)), (4, .int (nI w)), (5, .int (nI p)), (6, .int 0)]) hx hb dL_act_506 hl (by decide) rfl (fun ls hl => ?_)
  refine lv_aload_n hx hb dL_act_508 rfl (lv_at hl 2 rfl) ?_
  refine lv_dup hx hb dL_act_509 rfl ?_
  refine k_get (ci := 3) (v := .int v_wa) (C := RX3) (T := TX3) (N := 7) hx hb hown hK hw hts hinX3 21 rfl rfl 1 (by decide) hf50 rfl dL_act_510 ?_
  refine lv_iload hx hb dL_act_513 (lv_at hl 0 rfl) ?_
  refine lv_iadd hx hb dL_act_515 ?_
  refine k_putP (ws' := wX x A T B ++ wC E A (B 0) S ++ wC E T (B 0) U ++ wG E B G ++ wS E q P (mkS v_ni (v_wa + (nI (1 + (bl (z >>> ((7 : Int32) &&& 31)) 40)))) v_un v_ns v_np v_nw v_ng v_ma v_st v_ou v_ru v_so v_mt v_vo v_gi v_ca v_tr v_sw v_ss v_sg)) hx hb hown hK hw hts hinX3 1 (Pk.l (Pk_wa (v_wa + (nI (1 + (bl (z >>> ((7 : Int32) &&& 31)) 40)))))) (by decide) hf50 rfl rfl (Nat.le_of_ble_eq_true rfl) dL_act_516 (fun H locs hw => ?_)
  refine lv_aload_n hx hb dL_act_519 rfl (lv_at hl 1 rfl) ?_
  refine lv_iload hx hb dL_act_520 (lv_at hl 0 rfl) ?_
  refine krx_i (ws' := wX x A T B ++ wC E A (B 0) (p_wa S (c_wa S + (nI (1 + (bl (z >>> ((7 : Int32) &&& 31)) 40))))) ++ wC E T (B 0) U ++ wG E B G ++ wS E q P (mkS v_ni (v_wa + (nI (1 + (bl (z >>> ((7 : Int32) &&& 31)) 40)))) v_un v_ns v_np v_nw v_ng v_ma v_st v_ou v_ru v_so v_mt v_vo v_gi v_ca v_tr v_sw v_ss v_sg)) (vx_runV (As := [.int (nI (1 + (bl (z >>> ((7 : Int32) &&& 31)) 40)))]) (rest := []) ⟨hx, hb, hml, hown, hts⟩ (c_X2_buyWax l hflags E x A T B S U G (nI (1 + (bl (z >>> ((7 : Int32) &&& 31)) 40)))  _) (cwV 1 hts gL_act_X2_buyWax rfl rfl rfl ⟨rfl, hd_X2_buyWax⟩ ⟨Nat.le_of_ble_eq_true rfl, Nat.le_of_ble_eq_true rfl⟩) (pwV (ci := 2) (q0 := 0) (C := RX2) hw hK rfl rfl rfl (rpX (AV := [.ref x, .int (nI (1 + (bl (z >>> ((7 : Int32) &&& 31)) 40)))]) hw hK hG hZ hA rp_76)) rfl rfl hl.1 rfl (lv_room (Nat.le_of_ble_eq_true rfl)) dL_act_522 ⟨Nat.le_of_ble_eq_true rfl, Nat.le_of_ble_eq_true rfl⟩) hw hA rp_81 rp_76 (fun H locs ce9 q9 t_1 hw hy1 hy2 hy3 => absurd ha0 t_1) (fun H locs t_1 hw => ?_)
  refine lv_aload_n hx hb dL_act_525 rfl (lv_at hl 2 rfl) ?_
  refine k_get (ci := 3) (v := .int (v_wa + (nI (1 + (bl (z >>> ((7 : Int32) &&& 31)) 40))))) (C := RX3) (T := TX3) (N := 7) hx hb hown hK hw hts hinX3 21 rfl rfl 1 (by decide) hf50 rfl dL_act_526 ?_
  refine lv_icmp_ne (tgt := 536) hx hb dL_act_529 (by decide) (fun q8 => absurd ha1 q8) (fun _ => ?_)
  refine lv_iconst (v := 1) hx hb dL_act_532 (by decide) ?_
  refine lv_goto (tgt := 537) hx hb dL_act_533 (by decide) ?_
  refine W.widen (k := 4000) (n := 76000) (show 1 ≤ 4000 by omega) (show 6 ≤ 76000 by omega) ?_
  exact kk P _ _ _ hw

set_option maxHeartbeats 4000000 in
set_option maxRecDepth 100000 in
theorem ac_sail_r (l : Launch) (hflags : l.stackTraces = false) (E : Ev) {p9 : Program} {e : Env} {s9 : State} {m : MethodId} {args : Array Value} {below : List Frame} {meth : Method} {c : Code} {A9 : Nat → Prop} {H : Heap} {locs : List Loc} {ls : Array Slot} {Q : State → Prop} (hC : Cx E yL_act.cls cL_act 12 (some .boolean) wsL_act p9 s9 m args meth c A9) (ht9 : c.exceptionTable.toList = tableOf [(103, 217, 1043, 94), (218, 270, 1043, 94), (271, 322, 1043, 94), (323, 391, 1043, 94), (392, 403, 1043, 94), (404, 478, 1043, 94), (479, 537, 1043, 94), (538, 550, 1043, 94), (551, 656, 1043, 94), (657, 669, 1043, 94), (670, 774, 1043, 94), (775, 784, 1043, 94), (785, 799, 1043, 94), (800, 877, 1043, 94), (878, 887, 1043, 94), (888, 930, 1043, 94), (931, 970, 1043, 94), (971, 1042, 1043, 94)]) (hZ : Zx A9 s9 s9.heap) (x : Nat) (A T B : Nat → Nat) (S U : CS) (G : HS) (q : Nat) (P : AP) (v_ni v_wa v_un : Int32) (v_ns v_np v_nw v_ng : Nat) (v_ma v_st v_ou v_ru : Fn) (v_so : FnN) (v_mt v_vo v_gi v_ca v_tr : Fn) (v_sw v_ss : FnN) (v_sg : Fn) (z : Int32) (s w p : Nat) (hns : v_ns ≤ 5) (hnp : v_np ≤ 16) (hnw : v_nw ≤ 4) (hng : v_ng ≤ 20) (hso : ∀ p, p < v_np → v_so p < v_ns) (hsw : ∀ j, j < v_ng → v_sw j < v_nw) (hs : s < v_ns) (ha0 : t_goes G S (nI s) = 2) (kk : ∀ (P9 : AP) (H : Heap) (locs : List Loc) (ls : Array Slot), Wd E A9 s9.heap (wX x A T B ++ wC E A (B 0) S ++ wC E T (B 0) U ++ wG E B G ++ wS E q P9 (mkS v_ni v_wa v_un v_ns v_np v_nw v_ng v_ma v_st v_ou v_ru v_so v_mt v_vo v_gi v_ca v_tr v_sw v_ss v_sg)) H locs → W p9 l e rm_L_act s9 m args below meth c H locs 4000 76000 Q (F0 m 1047 ls [.int 1])) (hw : Wd E A9 s9.heap (wX x A T B ++ wC E A (B 0) S ++ wC E T (B 0) U ++ wG E B G ++ wS E q P (mkS v_ni v_wa v_un v_ns v_np v_nw v_ng v_ma v_st v_ou v_ru v_so v_mt v_vo v_gi v_ca v_tr v_sw v_ss v_sg)) H locs) (hl : lv_has ls 12 [(0, .ref x), (1, .ref q), (2, .int z), (3, .int (nI s)), (4, .int (nI w)), (5, .int (nI p)), (6, .int 1)]) : W p9 l e rm_L_act s9 m args below meth c H locs 0 0 Q (F0 m 538 ls []) := by
  obtain ⟨hx, hb, hml, hr, hown, hts, hlocks, hK, hG, hA⟩ := hC
  have hq0 := hts (.classLink RL 94 "java/lang/IllegalStateException") (List.mem_of_getElem? (i := 1) rfl)
  refine lv_iload hx hb dL_act_538 (lv_at hl 6 rfl) ?_
  refine lv_if_eq (tgt := 551) hx hb dL_act_540 (by decide) (fun q8 => absurd q8 (by decide)) (fun _ => ?_)
  refine lv_aload_n hx hb dL_act_543 rfl (lv_at hl 0 rfl) ?_
  refine lv_iload_n hx hb dL_act_544 rfl (lv_at hl 3 rfl) ?_
  refine krx_i (ws' := wX x A T B ++ wC E A (B 0) (f_sailS (f_clear G (nI s)) S (nI s)) ++ wC E T (B 0) U ++ wG E B (f_clear G (nI s)) ++ wS E q P (mkS v_ni v_wa v_un v_ns v_np v_nw v_ng v_ma v_st v_ou v_ru v_so v_mt v_vo v_gi v_ca v_tr v_sw v_ss v_sg)) (vx_runV (As := [.int (nI s)]) (rest := []) ⟨hx, hb, hml, hown, hts⟩ (c_X2_sail l hflags E x A T B S U G (nI s)  _) (cwV 1 hts gL_act_X2_sail rfl rfl rfl ⟨rfl, hd_X2_sail⟩ ⟨Nat.le_of_ble_eq_true rfl, Nat.le_of_ble_eq_true rfl⟩) (pwV (ci := 2) (q0 := 0) (C := RX2) hw hK rfl rfl rfl (rpX (AV := [.ref x, .int (nI s)]) hw hK hG hZ hA rp_76)) rfl rfl hl.1 rfl (lv_room (Nat.le_of_ble_eq_true rfl)) dL_act_545 ⟨Nat.le_of_ble_eq_true rfl, Nat.le_of_ble_eq_true rfl⟩) hw hA rp_80 rp_76 (fun H locs ce9 q9 t_1 hw hy1 hy2 hy3 => ?_) (fun H locs t_1 hw => absurd (t_1.symm.trans ha0) (by decide))
  have hy3 : s9.vm.findClass "java/lang/IllegalStateException" = some ce9.cls := by rw [ha0] at hy3; exact hy3
  refine vx_catch hown [⟨103, 217, 1043, 94⟩, ⟨218, 270, 1043, 94⟩, ⟨271, 322, 1043, 94⟩, ⟨323, 391, 1043, 94⟩, ⟨392, 403, 1043, 94⟩, ⟨404, 478, 1043, 94⟩, ⟨479, 537, 1043, 94⟩] ⟨538, 550, 1043, 94⟩ [⟨551, 656, 1043, 94⟩, ⟨657, 669, 1043, 94⟩, ⟨670, 774, 1043, 94⟩, ⟨775, 784, 1043, 94⟩, ⟨785, 799, 1043, 94⟩, ⟨800, 877, 1043, 94⟩, ⟨878, 887, 1043, 94⟩, ⟨888, 930, 1043, 94⟩, ⟨931, 970, 1043, 94⟩, ⟨971, 1042, 1043, 94⟩] (ht9.trans rfl) (fun z hz => Or.inl ((by decide : ∀ z ∈ ([⟨103, 217, 1043, 94⟩, ⟨218, 270, 1043, 94⟩, ⟨271, 322, 1043, 94⟩, ⟨323, 391, 1043, 94⟩, ⟨392, 403, 1043, 94⟩, ⟨404, 478, 1043, 94⟩, ⟨479, 537, 1043, 94⟩] : List ExceptionTableEntry), covers z 545 = false) z hz)) (by decide) (by decide) hq0 (va_Nw.use rfl (hG.nw 25 (w := .castable "java/lang/IllegalStateException" "java/lang/IllegalStateException") rfl)) hy1 hy2 hy3 ?_
  refine lv_astore (lv' := [(7, .ref q9), (0, .ref x), (1, .ref q), (2, .int z), (3, .int (nI s)), (4, .int (nI w)), (5, .int (nI p)), (6, .int 1)]) hx hb dL_act_1043 hl (by decide) rfl (fun ls hl => ?_)
  refine lv_iload hx hb dL_act_1045 (lv_at hl 7 rfl) ?_
  refine W.widen (k := 4000) (n := 76000) (show 2 ≤ 4000 by omega) (show 12 ≤ 76000 by omega) ?_
  exact kk P _ _ _ hw

set_option maxHeartbeats 4000000 in
set_option maxRecDepth 100000 in
theorem ac_sail (l : Launch) (hflags : l.stackTraces = false) (E : Ev) {p9 : Program} {e : Env} {s9 : State} {m : MethodId} {args : Array Value} {below : List Frame} {meth : Method} {c : Code} {A9 : Nat → Prop} {H : Heap} {locs : List Loc} {ls : Array Slot} {Q : State → Prop} (hC : Cx E yL_act.cls cL_act 12 (some .boolean) wsL_act p9 s9 m args meth c A9) (ht9 : c.exceptionTable.toList = tableOf [(103, 217, 1043, 94), (218, 270, 1043, 94), (271, 322, 1043, 94), (323, 391, 1043, 94), (392, 403, 1043, 94), (404, 478, 1043, 94), (479, 537, 1043, 94), (538, 550, 1043, 94), (551, 656, 1043, 94), (657, 669, 1043, 94), (670, 774, 1043, 94), (775, 784, 1043, 94), (785, 799, 1043, 94), (800, 877, 1043, 94), (878, 887, 1043, 94), (888, 930, 1043, 94), (931, 970, 1043, 94), (971, 1042, 1043, 94)]) (hZ : Zx A9 s9 s9.heap) (x : Nat) (A T B : Nat → Nat) (S U : CS) (G : HS) (q : Nat) (P : AP) (v_ni v_wa v_un : Int32) (v_ns v_np v_nw v_ng : Nat) (v_ma v_st v_ou v_ru : Fn) (v_so : FnN) (v_mt v_vo v_gi v_ca v_tr : Fn) (v_sw v_ss : FnN) (v_sg : Fn) (z : Int32) (s w p : Nat) (hns : v_ns ≤ 5) (hnp : v_np ≤ 16) (hnw : v_nw ≤ 4) (hng : v_ng ≤ 20) (hso : ∀ p, p < v_np → v_so p < v_ns) (hsw : ∀ j, j < v_ng → v_sw j < v_nw) (hs : s < v_ns) (ha0 : t_goes G S (nI s) = 0) (ha1 : (f_sailN (f_clear G (nI s)) S (nI s) : Int32) = (l_sl (v_so) s (v_gi) (v_ca) (v_wa) (v_np)).2.2.2) (kk : ∀ (P9 : AP) (H : Heap) (locs : List Loc) (ls : Array Slot), Wd E A9 s9.heap (wX x A T B ++ wC E A (B 0) (f_sailS (f_clear G (nI s)) S (nI s)) ++ wC E T (B 0) U ++ wG E B (f_clear G (nI s)) ++ wS E q P9 (mkS v_ni ((l_sl (v_so) s (v_gi) (v_ca) (v_wa) (v_np)).2.2.1) v_un v_ns v_np v_nw v_ng v_ma (upd (v_st) s 1) (upd (v_ou) s 0) v_ru v_so v_mt v_vo ((l_sl (v_so) s (v_gi) (v_ca) (v_wa) (v_np)).1) ((l_sl (v_so) s (v_gi) (v_ca) (v_wa) (v_np)).2.1) v_tr v_sw v_ss v_sg)) H locs → W p9 l e rm_L_act s9 m args below meth c H locs 4000 76000 Q (F0 m 656 ls [.int 1])) (hw : Wd E A9 s9.heap (wX x A T B ++ wC E A (B 0) S ++ wC E T (B 0) U ++ wG E B G ++ wS E q P (mkS v_ni v_wa v_un v_ns v_np v_nw v_ng v_ma v_st v_ou v_ru v_so v_mt v_vo v_gi v_ca v_tr v_sw v_ss v_sg)) H locs) (hl : lv_has ls 12 [(0, .ref x), (1, .ref q), (2, .int z), (3, .int (nI s)), (4, .int (nI w)), (5, .int (nI p)), (6, .int 0)]) : W p9 l e rm_L_act s9 m args below meth c H locs 0 0 Q (F0 m 538 ls []) := by
  obtain ⟨hx, hb, hml, hr, hown, hts, hlocks, hK, hG, hA⟩ := hC
  have hf9 := hts (.fieldLink RL 9 "SailorCandlesLaw$Sim" "ships" "[[I") (List.mem_of_getElem? (i := 2) rfl)
  have hinX3 : ∀ w ∈ wsX30, w ∈ wsL_act := fun w h => List.mem_cons_of_mem _ (List.mem_append_left _ (List.mem_append_left _ (List.mem_append_left _ (List.mem_append_left _ (List.mem_append_left _ (List.mem_append_left _ (List.mem_append_right _ h)))))))
  have hf25 := hts (.fieldLink RL 25 "SailorCandlesLaw$Sim" "sailors" "[[I") (List.mem_of_getElem? (i := 4) rfl)
  refine lv_iload hx hb dL_act_538 (lv_at hl 6 rfl) ?_
  refine lv_if_eq (tgt := 551) hx hb dL_act_540 (by decide) (fun _ => ?_) (fun q8 => absurd (by decide) q8)
  refine lv_aload_n hx hb dL_act_551 rfl (lv_at hl 1 rfl) ?_
  refine k_get (ci := 3) (v := .ref (P.1 1)) (C := RX3) (T := TX3) (N := 7) hx hb hown hK hw hts hinX3 21 rfl rfl 3 (by decide) hf9 rfl dL_act_552 ?_
  refine lv_iload_n hx hb dL_act_555 rfl (lv_at hl 3 rfl) ?_
  refine k_qld (i := s) (y := P.2.1 s) (n := v_ns) hx hb hK hw 22 rfl (show s < v_ns from by omega) (show v_ns < 2 ^ 31 by omega) rfl dL_act_556 ?_
  refine lv_iconst (v := 1) hx hb dL_act_557 (by decide) ?_
  refine lv_iconst (v := 1) hx hb dL_act_558 (by decide) ?_
  refine k_istP (i := 1) (ws' := wX x A T B ++ wC E A (B 0) S ++ wC E T (B 0) U ++ wG E B G ++ wS E q P (mkS v_ni v_wa v_un v_ns v_np v_nw v_ng v_ma (upd v_st s 1) v_ou v_ru v_so v_mt v_vo v_gi v_ca v_tr v_sw v_ss v_sg)) hx hb hK hw (Pk.l (Pk_st 1 (i := s) (show s < v_ns from by omega))) (by decide) (by decide) dL_act_559 (fun H locs hw => ?_)
  refine lv_aload_n hx hb dL_act_560 rfl (lv_at hl 1 rfl) ?_
  refine k_get (ci := 3) (v := .ref (P.1 1)) (C := RX3) (T := TX3) (N := 7) hx hb hown hK hw hts hinX3 21 rfl rfl 3 (by decide) hf9 rfl dL_act_561 ?_
  refine lv_iload_n hx hb dL_act_564 rfl (lv_at hl 3 rfl) ?_
  refine k_qld (i := s) (y := P.2.1 s) (n := v_ns) hx hb hK hw 22 rfl (show s < v_ns from by omega) (show v_ns < 2 ^ 31 by omega) rfl dL_act_565 ?_
  refine lv_iconst (v := 2) hx hb dL_act_566 (by decide) ?_
  refine lv_iconst (v := 0) hx hb dL_act_567 (by decide) ?_
  refine k_istP (i := 2) (ws' := wX x A T B ++ wC E A (B 0) S ++ wC E T (B 0) U ++ wG E B G ++ wS E q P (mkS v_ni v_wa v_un v_ns v_np v_nw v_ng v_ma (upd v_st s 1) (upd v_ou s 0) v_ru v_so v_mt v_vo v_gi v_ca v_tr v_sw v_ss v_sg)) hx hb hK hw (Pk.l (Pk_ou 0 (i := s) (show s < v_ns from by omega))) (by decide) (by decide) dL_act_568 (fun H locs hw => ?_)
  refine lv_iconst (v := 0) hx hb dL_act_569 (by decide) ?_
  refine lv_istore (lv' := [(7, .int 0), (0, .ref x), (1, .ref q), (2, .int z), (3, .int (nI s)), (4, .int (nI w)), (5, .int (nI p)), (6, .int 0)]) hx hb dL_act_570 hl (by decide) rfl (fun ls hl => ?_)
  refine lv_aload_n hx hb dL_act_572 rfl (lv_at hl 2 rfl) ?_
  refine k_get (ci := 3) (v := .ref (P.1 2)) (C := RX3) (T := TX3) (N := 7) hx hb hown hK hw hts hinX3 21 rfl rfl 4 (by decide) hf25 rfl dL_act_573 ?_
  refine lv_astore (lv' := [(8, .ref (P.1 2)), (7, .int 0), (0, .ref x), (1, .ref q), (2, .int z), (3, .int (nI s)), (4, .int (nI w)), (5, .int (nI p)), (6, .int 0)]) hx hb dL_act_576 hl (by decide) rfl (fun ls hl => ?_)
  refine lv_aload hx hb dL_act_578 (lv_at hl 0 rfl) ?_
  refine k_lenQ (n := v_np) hx hb hK hw 23 rfl dL_act_580 ?_
  refine lv_istore (lv' := [(9, .int (nI v_np)), (8, .ref (P.1 2)), (7, .int 0), (0, .ref x), (1, .ref q), (2, .int z), (3, .int (nI s)), (4, .int (nI w)), (5, .int (nI p)), (6, .int 0)]) hx hb dL_act_581 hl (by decide) rfl (fun ls hl => ?_)
  refine lv_iconst (v := 0) hx hb dL_act_583 (by decide) ?_
  refine lv_istore (lv' := [(10, .int 0), (9, .int (nI v_np)), (8, .ref (P.1 2)), (7, .int 0), (0, .ref x), (1, .ref q), (2, .int z), (3, .int (nI s)), (4, .int (nI w)), (5, .int (nI p)), (6, .int 0)]) hx hb dL_act_584 hl (by decide) rfl (fun ls hl => ?_)
  have L_586 : ∀ (k9 i : Nat) (H : Heap) (locs : List Loc) (ls : Array Slot), i + k9 = v_np → Wd E A9 s9.heap (wX x A T B ++ wC E A (B 0) S ++ wC E T (B 0) U ++ wG E B G ++ wS E q P (mkS v_ni ((l_sl (v_so) s (v_gi) (v_ca) (v_wa) i).2.2.1) v_un v_ns v_np v_nw v_ng v_ma (upd v_st s 1) (upd v_ou s 0) v_ru v_so v_mt v_vo ((l_sl (v_so) s (v_gi) (v_ca) (v_wa) i).1) ((l_sl (v_so) s (v_gi) (v_ca) (v_wa) i).2.1) v_tr v_sw v_ss v_sg)) H locs → lv_has ls 12 [(0, .ref x), (1, .ref q), (3, .int (nI s)), (7, .int ((l_sl (v_so) s (v_gi) (v_ca) (v_wa) i).2.2.2)), (8, .ref (P.1 2)), (9, .int (nI v_np)), (10, .int (nI i))] → W p9 l e rm_L_act s9 m args below meth c H locs 0 0 (Q) (F0 m 586 ls []) := by
    intro k9
    induction k9 with
    | zero =>
      intro i H locs ls hi hw hl
      have hz_1 : v_np = i := by omega
      refine lv_iload hx hb dL_act_586 (lv_at hl 6 rfl) ?_
      refine lv_iload hx hb dL_act_588 (lv_at hl 5 rfl) ?_
      refine lv_icmp_ge (tgt := 641) hx hb dL_act_590 (by decide) (fun _ => ?_) (fun q8 => absurd (by rw [← hz_1]; exact Int32.le_refl _) q8)
      rw [← hz_1] at hw hl
      refine lv_aload_n hx hb dL_act_641 rfl (lv_at hl 0 rfl) ?_
      refine lv_iload_n hx hb dL_act_642 rfl (lv_at hl 2 rfl) ?_
      refine krx_i (ws' := wX x A T B ++ wC E A (B 0) (f_sailS (f_clear G (nI s)) S (nI s)) ++ wC E T (B 0) U ++ wG E B (f_clear G (nI s)) ++ wS E q P (mkS v_ni ((l_sl (v_so) s (v_gi) (v_ca) (v_wa) (v_np)).2.2.1) v_un v_ns v_np v_nw v_ng v_ma (upd (v_st) s 1) (upd (v_ou) s 0) v_ru v_so v_mt v_vo ((l_sl (v_so) s (v_gi) (v_ca) (v_wa) (v_np)).1) ((l_sl (v_so) s (v_gi) (v_ca) (v_wa) (v_np)).2.1) v_tr v_sw v_ss v_sg)) (vx_runV (As := [.int (nI s)]) (rest := []) ⟨hx, hb, hml, hown, hts⟩ (c_X2_sail l hflags E x A T B S U G (nI s)  _) (cwV 1 hts gL_act_X2_sail rfl rfl rfl ⟨rfl, hd_X2_sail⟩ ⟨Nat.le_of_ble_eq_true rfl, Nat.le_of_ble_eq_true rfl⟩) (pwV (ci := 2) (q0 := 0) (C := RX2) hw hK rfl rfl rfl (rpX (AV := [.ref x, .int (nI s)]) hw hK hG hZ hA rp_76)) rfl rfl hl.1 rfl (lv_room (Nat.le_of_ble_eq_true rfl)) dL_act_643 ⟨Nat.le_of_ble_eq_true rfl, Nat.le_of_ble_eq_true rfl⟩) hw hA rp_80 rp_76 (fun H locs ce9 q9 t_2 hw hy1 hy2 hy3 => absurd ha0 t_2) (fun H locs t_2 hw => ?_)
      refine lv_iload hx hb dL_act_646 (lv_at hl 3 rfl) ?_
      refine lv_icmp_ne (tgt := 655) hx hb dL_act_648 (by decide) (fun q8 => absurd ha1 q8) (fun _ => ?_)
      refine lv_iconst (v := 1) hx hb dL_act_651 (by decide) ?_
      refine lv_goto (tgt := 656) hx hb dL_act_652 (by decide) ?_
      refine W.widen (k := 4000) (n := 76000) (show 2 ≤ 4000 by omega) (show 12 ≤ 76000 by omega) ?_
      exact kk P _ _ _ hw
    | succ k9 ih_586 =>
      intro i H locs ls hi hw hl
      have hi9 : i < v_np := by omega
      refine lv_iload hx hb dL_act_586 (lv_at hl 6 rfl) ?_
      refine lv_iload hx hb dL_act_588 (lv_at hl 5 rfl) ?_
      refine lv_icmp_ge (tgt := 641) hx hb dL_act_590 (by decide) (fun q8 => absurd q8 (nI_ge (a := i) (b := v_np) (by omega) (by omega))) (fun _ => ?_)
      refine lv_aload hx hb dL_act_593 (lv_at hl 4 rfl) ?_
      refine lv_iload hx hb dL_act_595 (lv_at hl 6 rfl) ?_
      refine k_qld (i := i) (y := P.2.2.1 i) (n := v_np) hx hb hK hw 23 rfl (show i < v_np from by omega) (show v_np < 2 ^ 31 by omega) rfl dL_act_597 ?_
      refine lv_astore (lv' := [(11, .ref (P.2.2.1 i)), (0, .ref x), (1, .ref q), (3, .int (nI s)), (7, .int ((l_sl (v_so) s (v_gi) (v_ca) (v_wa) i).2.2.2)), (8, .ref (P.1 2)), (9, .int (nI v_np)), (10, .int (nI i))]) hx hb dL_act_598 hl (by decide) rfl (fun ls hl => ?_)
      refine lv_aload hx hb dL_act_600 (lv_at hl 0 rfl) ?_
      refine lv_iconst (v := 0) hx hb dL_act_602 (by decide) ?_
      refine k_ildP (i := 0) (v := nI (v_so i)) hx hb hK hw (Pk.l (Pk_5 (i := i) (show i < v_np from by omega))) (by decide) (by decide) rfl dL_act_603 ?_
      refine lv_iload_n hx hb dL_act_604 rfl (lv_at hl 3 rfl) ?_
      refine lv_icmp_eq (tgt := 611) hx hb dL_act_605 (by decide) (fun c_3 => ?_) (fun c_3 => ?_)
      · have c_3 : (nI (v_so i) : Int32) = nI s := c_3
        refine lv_aload hx hb dL_act_611 (lv_at hl 0 rfl) ?_
        refine lv_iconst (v := 3) hx hb dL_act_613 (by decide) ?_
        refine lv_iconst (v := 0) hx hb dL_act_614 (by decide) ?_
        refine k_istP (i := 3) (ws' := wX x A T B ++ wC E A (B 0) S ++ wC E T (B 0) U ++ wG E B G ++ wS E q P (mkS v_ni ((l_sl (v_so) s (v_gi) (v_ca) (v_wa) i).2.2.1) v_un v_ns v_np v_nw v_ng v_ma (upd v_st s 1) (upd v_ou s 0) v_ru v_so v_mt v_vo (upd ((l_sl (v_so) s (v_gi) (v_ca) (v_wa) i).1) i 0) ((l_sl (v_so) s (v_gi) (v_ca) (v_wa) i).2.1) v_tr v_sw v_ss v_sg)) hx hb hK hw (Pk.l (Pk_gi 0 (i := i) (show i < v_np from by omega))) (by decide) (by decide) dL_act_615 (fun H locs hw => ?_)
        refine lv_iload hx hb dL_act_616 (lv_at hl 4 rfl) ?_
        refine lv_aload_n hx hb dL_act_618 rfl (lv_at hl 2 rfl) ?_
        refine lv_aload hx hb dL_act_619 (lv_at hl 0 rfl) ?_
        refine kr_i (ws' := wX x A T B ++ wC E A (B 0) S ++ wC E T (B 0) U ++ wG E B G ++ wS E q P (mkS v_ni (f_lwa (((l_sl (v_so) s (v_gi) (v_ca) (v_wa) i).2.2.1))) v_un v_ns v_np v_nw v_ng v_ma (upd v_st s 1) (upd v_ou s 0) v_ru v_so v_mt v_vo (upd ((l_sl (v_so) s (v_gi) (v_ca) (v_wa) i).1) i 0) (f_lca (((l_sl (v_so) s (v_gi) (v_ca) (v_wa) i).2.1)) (((l_sl (v_so) s (v_gi) (v_ca) (v_wa) i).2.2.1)) i) v_tr v_sw v_ss v_sg)) (va_runV (As := [.ref (P.2.2.1 i)]) (rest := [.int ((l_sl (v_so) s (v_gi) (v_ca) (v_wa) i).2.2.2)]) ⟨hx, hb, hml, hown, hts⟩ (c_X3_light l E q P v_ni ((l_sl (v_so) s (v_gi) (v_ca) (v_wa) i).2.2.1) v_un v_ns v_np v_nw v_ng v_ma (upd v_st s 1) (upd v_ou s 0) v_ru v_so v_mt v_vo (upd ((l_sl (v_so) s (v_gi) (v_ca) (v_wa) i).1) i 0) ((l_sl (v_so) s (v_gi) (v_ca) (v_wa) i).2.1) v_tr v_sw v_ss v_sg i hns hnp hnw hng hso hsw ((show i < v_np by omega)) _) (cwV 1 hts gL_act_X3_light rfl rfl rfl ⟨rfl, hd_X3_light⟩ ⟨Nat.le_of_ble_eq_true rfl, Nat.le_of_ble_eq_true rfl⟩) (pwV (ci := 3) (q0 := 21) (C := RX3) hw hK rfl rfl rfl (rpS (AV := [.ref q, .ref (P.2.2.1 i)]) hw hK hG rp_77)) rfl rfl hl.1 rfl (lv_room (Nat.le_of_ble_eq_true rfl)) dL_act_621 ⟨Nat.le_of_ble_eq_true rfl, Nat.le_of_ble_eq_true rfl⟩) hw hA rp_82 (fun H locs hw => ?_)
        refine lv_if_eq (tgt := 631) hx hb dL_act_624 (by decide) (fun c_4 => ?_) (fun c_4 => ?_)
        · have c_4 : f_lB (((l_sl (v_so) s (v_gi) (v_ca) (v_wa) i).2.2.1)) = false := bI_z c_4
          refine lv_iconst (v := 0) hx hb dL_act_631 (by decide) ?_
          refine lv_iadd hx hb dL_act_632 ?_
          refine lv_istore (lv' := [(7, .int (((l_sl (v_so) s (v_gi) (v_ca) (v_wa) i).2.2.2) + 0)), (11, .ref (P.2.2.1 i)), (0, .ref x), (1, .ref q), (3, .int (nI s)), (8, .ref (P.1 2)), (9, .int (nI v_np)), (10, .int (nI i))]) hx hb dL_act_633 hl (by decide) rfl (fun ls hl => ?_)
          refine lv_iinc (v := nI (i + 1)) (lv' := [(10, .int (nI (i + 1))), (7, .int (((l_sl (v_so) s (v_gi) (v_ca) (v_wa) i).2.2.2) + 0)), (11, .ref (P.2.2.1 i)), (0, .ref x), (1, .ref q), (3, .int (nI s)), (8, .ref (P.1 2)), (9, .int (nI v_np))]) hx hb dL_act_635 hl (k := 7) rfl (nI_add i 1) (by decide) rfl (fun ls hl => ?_)
          refine lv_goto (tgt := 586) hx hb dL_act_638 (by decide) ?_
          exact ih_586 (i + 1) _ _ _ (by omega) (hw.to (by first | assumption | (simp only [l_sl, if_pos c_3, c_4, if_true, if_false, Bool.false_eq_true, Bool.true_eq_false, reduceIte, reduceCtorEq]; done) | (simp only [l_sl, if_pos c_3, c_4, if_true, if_false, Bool.false_eq_true, Bool.true_eq_false, reduceIte, reduceCtorEq]; rfl) | rfl | (simp [l_sl, if_pos c_3, c_4, if_true, if_false, Bool.false_eq_true, Bool.true_eq_false, reduceIte, reduceCtorEq]; done) | (simp [bI, l_sl, c_3, c_4]; done))) (by rw [show (.int ((l_sl (v_so) s (v_gi) (v_ca) (v_wa) (i + 1)).2.2.2) : Value) = .int (((l_sl (v_so) s (v_gi) (v_ca) (v_wa) i).2.2.2) + 0) from (by first | assumption | (simp only [l_sl, if_pos c_3, c_4, if_true, if_false, Bool.false_eq_true, Bool.true_eq_false, reduceIte, reduceCtorEq]; done) | (simp only [l_sl, if_pos c_3, c_4, if_true, if_false, Bool.false_eq_true, Bool.true_eq_false, reduceIte, reduceCtorEq]; rfl) | rfl | (simp [l_sl, if_pos c_3, c_4, if_true, if_false, Bool.false_eq_true, Bool.true_eq_false, reduceIte, reduceCtorEq]; done) | (simp [bI, l_sl, c_3, c_4]; done))]; exact lv_sub hl [3, 4, 5, 1, 6, 7, 0] rfl)
        · have c_4 : f_lB (((l_sl (v_so) s (v_gi) (v_ca) (v_wa) i).2.2.1)) = true := bI_nz c_4
          refine lv_iconst (v := 1) hx hb dL_act_627 (by decide) ?_
          refine lv_goto (tgt := 632) hx hb dL_act_628 (by decide) ?_
          refine lv_iadd hx hb dL_act_632 ?_
          refine lv_istore (lv' := [(7, .int (((l_sl (v_so) s (v_gi) (v_ca) (v_wa) i).2.2.2) + 1)), (11, .ref (P.2.2.1 i)), (0, .ref x), (1, .ref q), (3, .int (nI s)), (8, .ref (P.1 2)), (9, .int (nI v_np)), (10, .int (nI i))]) hx hb dL_act_633 hl (by decide) rfl (fun ls hl => ?_)
          refine lv_iinc (v := nI (i + 1)) (lv' := [(10, .int (nI (i + 1))), (7, .int (((l_sl (v_so) s (v_gi) (v_ca) (v_wa) i).2.2.2) + 1)), (11, .ref (P.2.2.1 i)), (0, .ref x), (1, .ref q), (3, .int (nI s)), (8, .ref (P.1 2)), (9, .int (nI v_np))]) hx hb dL_act_635 hl (k := 7) rfl (nI_add i 1) (by decide) rfl (fun ls hl => ?_)
          refine lv_goto (tgt := 586) hx hb dL_act_638 (by decide) ?_
          exact ih_586 (i + 1) _ _ _ (by omega) (hw.to (by first | assumption | (simp only [l_sl, if_pos c_3, c_4, if_true, if_false, Bool.false_eq_true, Bool.true_eq_false, reduceIte, reduceCtorEq]; done) | (simp only [l_sl, if_pos c_3, c_4, if_true, if_false, Bool.false_eq_true, Bool.true_eq_false, reduceIte, reduceCtorEq]; rfl) | rfl | (simp [l_sl, if_pos c_3, c_4, if_true, if_false, Bool.false_eq_true, Bool.true_eq_false, reduceIte, reduceCtorEq]; done) | (simp [bI, l_sl, c_3, c_4]; done))) (by rw [show (.int ((l_sl (v_so) s (v_gi) (v_ca) (v_wa) (i + 1)).2.2.2) : Value) = .int (((l_sl (v_so) s (v_gi) (v_ca) (v_wa) i).2.2.2) + 1) from (by first | assumption | (simp only [l_sl, if_pos c_3, c_4, if_true, if_false, Bool.false_eq_true, Bool.true_eq_false, reduceIte, reduceCtorEq]; done) | (simp only [l_sl, if_pos c_3, c_4, if_true, if_false, Bool.false_eq_true, Bool.true_eq_false, reduceIte, reduceCtorEq]; rfl) | rfl | (simp [l_sl, if_pos c_3, c_4, if_true, if_false, Bool.false_eq_true, Bool.true_eq_false, reduceIte, reduceCtorEq]; done) | (simp [bI, l_sl, c_3, c_4]; done))]; exact lv_sub hl [3, 4, 5, 1, 6, 7, 0] rfl)
      · have c_3 : ¬ (nI (v_so i) : Int32) = nI s := c_3
        refine lv_goto (tgt := 635) hx hb dL_act_608 (by decide) ?_
        refine lv_iinc (v := nI (i + 1)) (lv' := [(10, .int (nI (i + 1))), (11, .ref (P.2.2.1 i)), (0, .ref x), (1, .ref q), (3, .int (nI s)), (7, .int ((l_sl (v_so) s (v_gi) (v_ca) (v_wa) i).2.2.2)), (8, .ref (P.1 2)), (9, .int (nI v_np))]) hx hb dL_act_635 hl (k := 7) rfl (nI_add i 1) (by decide) rfl (fun ls hl => ?_)
        refine lv_goto (tgt := 586) hx hb dL_act_638 (by decide) ?_
        exact ih_586 (i + 1) _ _ _ (by omega) (hw.to (by first | assumption | (simp only [l_sl, if_neg c_3, if_true, if_false, Bool.false_eq_true, Bool.true_eq_false, reduceIte, reduceCtorEq]; done) | (simp only [l_sl, if_neg c_3, if_true, if_false, Bool.false_eq_true, Bool.true_eq_false, reduceIte, reduceCtorEq]; rfl) | rfl | (simp [l_sl, if_neg c_3, if_true, if_false, Bool.false_eq_true, Bool.true_eq_false, reduceIte, reduceCtorEq]; done) | (simp [bI, l_sl, c_3]; done))) (by rw [show (.int ((l_sl (v_so) s (v_gi) (v_ca) (v_wa) (i + 1)).2.2.2) : Value) = .int ((l_sl (v_so) s (v_gi) (v_ca) (v_wa) i).2.2.2) from (by first | assumption | (simp only [l_sl, if_neg c_3, if_true, if_false, Bool.false_eq_true, Bool.true_eq_false, reduceIte, reduceCtorEq]; done) | (simp only [l_sl, if_neg c_3, if_true, if_false, Bool.false_eq_true, Bool.true_eq_false, reduceIte, reduceCtorEq]; rfl) | rfl | (simp [l_sl, if_neg c_3, if_true, if_false, Bool.false_eq_true, Bool.true_eq_false, reduceIte, reduceCtorEq]; done) | (simp [bI, l_sl, c_3]; done))]; exact lv_sub hl [2, 3, 4, 5, 6, 7, 0] rfl)
  exact L_586 (v_np - 0) 0 _ _ _ (by omega) hw (lv_sub hl [4, 5, 7, 3, 2, 1, 0] rfl)

set_option maxHeartbeats 4000000 in
set_option maxRecDepth 100000 in
theorem ac_comeHome_r (l : Launch) (hflags : l.stackTraces = false) (E : Ev) {p9 : Program} {e : Env} {s9 : State} {m : MethodId} {args : Array Value} {below : List Frame} {meth : Method} {c : Code} {A9 : Nat → Prop} {H : Heap} {locs : List Loc} {ls : Array Slot} {Q : State → Prop} (hC : Cx E yL_act.cls cL_act 12 (some .boolean) wsL_act p9 s9 m args meth c A9) (ht9 : c.exceptionTable.toList = tableOf [(103, 217, 1043, 94), (218, 270, 1043, 94), (271, 322, 1043, 94), (323, 391, 1043, 94), (392, 403, 1043, 94), (404, 478, 1043, 94), (479, 537, 1043, 94), (538, 550, 1043, 94), (551, 656, 1043, 94), (657, 669, 1043, 94), (670, 774, 1043, 94), (775, 784, 1043, 94), (785, 799, 1043, 94), (800, 877, 1043, 94), (878, 887, 1043, 94), (888, 930, 1043, 94), (931, 970, 1043, 94), (971, 1042, 1043, 94)]) (hZ : Zx A9 s9 s9.heap) (x : Nat) (A T B : Nat → Nat) (S U : CS) (G : HS) (q : Nat) (P : AP) (v_ni v_wa v_un : Int32) (v_ns v_np v_nw v_ng : Nat) (v_ma v_st v_ou v_ru : Fn) (v_so : FnN) (v_mt v_vo v_gi v_ca v_tr : Fn) (v_sw v_ss : FnN) (v_sg : Fn) (z : Int32) (s w p : Nat) (hns : v_ns ≤ 5) (hnp : v_np ≤ 16) (hnw : v_nw ≤ 4) (hng : v_ng ≤ 20) (hso : ∀ p, p < v_np → v_so p < v_ns) (hsw : ∀ j, j < v_ng → v_sw j < v_nw) (hs : s < v_ns) (ha0 : t_home G S (nI s) = 2) (kk : ∀ (P9 : AP) (H : Heap) (locs : List Loc) (ls : Array Slot), Wd E A9 s9.heap (wX x A T B ++ wC E A (B 0) S ++ wC E T (B 0) U ++ wG E B G ++ wS E q P9 (mkS v_ni v_wa v_un v_ns v_np v_nw v_ng v_ma v_st v_ou v_ru v_so v_mt v_vo v_gi v_ca v_tr v_sw v_ss v_sg)) H locs → W p9 l e rm_L_act s9 m args below meth c H locs 4000 76000 Q (F0 m 1047 ls [.int 1])) (hw : Wd E A9 s9.heap (wX x A T B ++ wC E A (B 0) S ++ wC E T (B 0) U ++ wG E B G ++ wS E q P (mkS v_ni v_wa v_un v_ns v_np v_nw v_ng v_ma v_st v_ou v_ru v_so v_mt v_vo v_gi v_ca v_tr v_sw v_ss v_sg)) H locs) (hl : lv_has ls 12 [(0, .ref x), (1, .ref q), (2, .int z), (3, .int (nI s)), (4, .int (nI w)), (5, .int (nI p)), (6, .int 1)]) : W p9 l e rm_L_act s9 m args below meth c H locs 0 0 Q (F0 m 657 ls []) := by
  obtain ⟨hx, hb, hml, hr, hown, hts, hlocks, hK, hG, hA⟩ := hC
  have hq0 := hts (.classLink RL 94 "java/lang/IllegalStateException") (List.mem_of_getElem? (i := 1) rfl)
  refine lv_iload hx hb dL_act_657 (lv_at hl 6 rfl) ?_
  refine lv_if_eq (tgt := 670) hx hb dL_act_659 (by decide) (fun q8 => absurd q8 (by decide)) (fun _ => ?_)
  refine lv_aload_n hx hb dL_act_662 rfl (lv_at hl 0 rfl) ?_
  refine lv_iload_n hx hb dL_act_663 rfl (lv_at hl 3 rfl) ?_
  refine krx_i (ws' := wX x A T B ++ wC E A (B 0) (f_comes G S (nI s)) ++ wC E T (B 0) U ++ wG E B G ++ wS E q P (mkS v_ni v_wa v_un v_ns v_np v_nw v_ng v_ma v_st v_ou v_ru v_so v_mt v_vo v_gi v_ca v_tr v_sw v_ss v_sg)) (vx_runV (As := [.int (nI s)]) (rest := []) ⟨hx, hb, hml, hown, hts⟩ (c_X2_comeHome l hflags E x A T B S U G (nI s)  _) (cwV 1 hts gL_act_X2_comeHome rfl rfl rfl ⟨rfl, hd_X2_comeHome⟩ ⟨Nat.le_of_ble_eq_true rfl, Nat.le_of_ble_eq_true rfl⟩) (pwV (ci := 2) (q0 := 0) (C := RX2) hw hK rfl rfl rfl (rpX (AV := [.ref x, .int (nI s)]) hw hK hG hZ hA rp_76)) rfl rfl hl.1 rfl (lv_room (Nat.le_of_ble_eq_true rfl)) dL_act_664 ⟨Nat.le_of_ble_eq_true rfl, Nat.le_of_ble_eq_true rfl⟩) hw hA rp_81 rp_76 (fun H locs ce9 q9 t_1 hw hy1 hy2 hy3 => ?_) (fun H locs t_1 hw => absurd (t_1.symm.trans ha0) (by decide))
  have hy3 : s9.vm.findClass "java/lang/IllegalStateException" = some ce9.cls := by rw [ha0] at hy3; exact hy3
  refine vx_catch hown [⟨103, 217, 1043, 94⟩, ⟨218, 270, 1043, 94⟩, ⟨271, 322, 1043, 94⟩, ⟨323, 391, 1043, 94⟩, ⟨392, 403, 1043, 94⟩, ⟨404, 478, 1043, 94⟩, ⟨479, 537, 1043, 94⟩, ⟨538, 550, 1043, 94⟩, ⟨551, 656, 1043, 94⟩] ⟨657, 669, 1043, 94⟩ [⟨670, 774, 1043, 94⟩, ⟨775, 784, 1043, 94⟩, ⟨785, 799, 1043, 94⟩, ⟨800, 877, 1043, 94⟩, ⟨878, 887, 1043, 94⟩, ⟨888, 930, 1043, 94⟩, ⟨931, 970, 1043, 94⟩, ⟨971, 1042, 1043, 94⟩] (ht9.trans rfl) (fun z hz => Or.inl ((by decide : ∀ z ∈ ([⟨103, 217, 1043, 94⟩, ⟨218, 270, 1043, 94⟩, ⟨271, 322, 1043, 94⟩, ⟨323, 391, 1043, 94⟩, ⟨392, 403, 1043, 94⟩, ⟨404, 478, 1043, 94⟩, ⟨479, 537, 1043, 94⟩, ⟨538, 550, 1043, 94⟩, ⟨551, 656, 1043, 94⟩] : List ExceptionTableEntry), covers z 664 = false) z hz)) (by decide) (by decide) hq0 (va_Nw.use rfl (hG.nw 25 (w := .castable "java/lang/IllegalStateException" "java/lang/IllegalStateException") rfl)) hy1 hy2 hy3 ?_
  refine lv_astore (lv' := [(7, .ref q9), (0, .ref x), (1, .ref q), (2, .int z), (3, .int (nI s)), (4, .int (nI w)), (5, .int (nI p)), (6, .int 1)]) hx hb dL_act_1043 hl (by decide) rfl (fun ls hl => ?_)
  refine lv_iload hx hb dL_act_1045 (lv_at hl 7 rfl) ?_
  refine W.widen (k := 4000) (n := 76000) (show 2 ≤ 4000 by omega) (show 12 ≤ 76000 by omega) ?_
  exact kk P _ _ _ hw

set_option maxHeartbeats 4000000 in
set_option maxRecDepth 100000 in
theorem ac_comeHome (l : Launch) (hflags : l.stackTraces = false) (E : Ev) {p9 : Program} {e : Env} {s9 : State} {m : MethodId} {args : Array Value} {below : List Frame} {meth : Method} {c : Code} {A9 : Nat → Prop} {H : Heap} {locs : List Loc} {ls : Array Slot} {Q : State → Prop} (hC : Cx E yL_act.cls cL_act 12 (some .boolean) wsL_act p9 s9 m args meth c A9) (ht9 : c.exceptionTable.toList = tableOf [(103, 217, 1043, 94), (218, 270, 1043, 94), (271, 322, 1043, 94), (323, 391, 1043, 94), (392, 403, 1043, 94), (404, 478, 1043, 94), (479, 537, 1043, 94), (538, 550, 1043, 94), (551, 656, 1043, 94), (657, 669, 1043, 94), (670, 774, 1043, 94), (775, 784, 1043, 94), (785, 799, 1043, 94), (800, 877, 1043, 94), (878, 887, 1043, 94), (888, 930, 1043, 94), (931, 970, 1043, 94), (971, 1042, 1043, 94)]) (hZ : Zx A9 s9 s9.heap) (x : Nat) (A T B : Nat → Nat) (S U : CS) (G : HS) (q : Nat) (P : AP) (v_ni v_wa v_un : Int32) (v_ns v_np v_nw v_ng : Nat) (v_ma v_st v_ou v_ru : Fn) (v_so : FnN) (v_mt v_vo v_gi v_ca v_tr : Fn) (v_sw v_ss : FnN) (v_sg : Fn) (z : Int32) (s w p : Nat) (hns : v_ns ≤ 5) (hnp : v_np ≤ 16) (hnw : v_nw ≤ 4) (hng : v_ng ≤ 20) (hso : ∀ p, p < v_np → v_so p < v_ns) (hsw : ∀ j, j < v_ng → v_sw j < v_nw) (hs : s < v_ns) (ha0 : t_home G S (nI s) = 0) (ha1 : (f_at 5 (c_ou (f_comes G S (nI s))) (nI s) : Int32) = v_ou s) (kk : ∀ (P9 : AP) (H : Heap) (locs : List Loc) (ls : Array Slot), Wd E A9 s9.heap (wX x A T B ++ wC E A (B 0) (f_comes G S (nI s)) ++ wC E T (B 0) U ++ wG E B G ++ wS E q P9 (mkS v_ni ((l_en (v_so) s (v_ca) (v_wa) (v_np)).2) v_un v_ns v_np v_nw (d_n (v_ss) (v_sg) (nI s) 99 (v_ng)) v_ma (upd v_st s 0) v_ou (upd (v_ru) s 0) v_so v_mt v_vo v_gi ((l_en (v_so) s (v_ca) (v_wa) (v_np)).1) (l_bw (v_ss) (v_sw) s (v_tr) (v_ng)) (fun j => v_sw (d_ix (v_ss) (v_sg) (nI s) 99 (v_ng) j)) (fun j => v_ss (d_ix (v_ss) (v_sg) (nI s) 99 (v_ng) j)) (fun j => v_sg (d_ix (v_ss) (v_sg) (nI s) 99 (v_ng) j)))) H locs → W p9 l e rm_L_act s9 m args below meth c H locs 4000 76000 Q (F0 m 774 ls [.int 1])) (hw : Wd E A9 s9.heap (wX x A T B ++ wC E A (B 0) S ++ wC E T (B 0) U ++ wG E B G ++ wS E q P (mkS v_ni v_wa v_un v_ns v_np v_nw v_ng v_ma v_st v_ou v_ru v_so v_mt v_vo v_gi v_ca v_tr v_sw v_ss v_sg)) H locs) (hl : lv_has ls 12 [(0, .ref x), (1, .ref q), (2, .int z), (3, .int (nI s)), (4, .int (nI w)), (5, .int (nI p)), (6, .int 0)]) : W p9 l e rm_L_act s9 m args below meth c H locs 0 0 Q (F0 m 657 ls []) := by
  obtain ⟨hx, hb, hml, hr, hown, hts, hlocks, hK, hG, hA⟩ := hC
  have hf67 := hts (.fieldLink RL 67 "SailorCandlesLaw$Sim" "sights" "[[I") (List.mem_of_getElem? (i := 7) rfl)
  have hinX3 : ∀ w ∈ wsX30, w ∈ wsL_act := fun w h => List.mem_cons_of_mem _ (List.mem_append_left _ (List.mem_append_left _ (List.mem_append_left _ (List.mem_append_left _ (List.mem_append_left _ (List.mem_append_left _ (List.mem_append_right _ h)))))))
  have hf9 := hts (.fieldLink RL 9 "SailorCandlesLaw$Sim" "ships" "[[I") (List.mem_of_getElem? (i := 2) rfl)
  have hf21 := hts (.fieldLink RL 21 "SailorCandlesLaw$Sim" "trust" "[I") (List.mem_of_getElem? (i := 3) rfl)
  refine lv_iload hx hb dL_act_657 (lv_at hl 6 rfl) ?_
  refine lv_if_eq (tgt := 670) hx hb dL_act_659 (by decide) (fun _ => ?_) (fun q8 => absurd (by decide) q8)
  refine lv_aload_n hx hb dL_act_670 rfl (lv_at hl 1 rfl) ?_
  refine k_get (ci := 3) (v := .ref (P.1 4)) (C := RX3) (T := TX3) (N := 7) hx hb hown hK hw hts hinX3 21 rfl rfl 6 (by decide) hf67 rfl dL_act_671 ?_
  refine lv_astore (lv' := [(7, .ref (P.1 4)), (0, .ref x), (1, .ref q), (2, .int z), (3, .int (nI s)), (4, .int (nI w)), (5, .int (nI p)), (6, .int 0)]) hx hb dL_act_674 hl (by decide) rfl (fun ls hl => ?_)
  refine lv_aload hx hb dL_act_676 (lv_at hl 0 rfl) ?_
  refine k_lenQ (n := v_ng) hx hb hK hw 25 rfl dL_act_678 ?_
  refine lv_istore (lv' := [(8, .int (nI v_ng)), (7, .ref (P.1 4)), (0, .ref x), (1, .ref q), (2, .int z), (3, .int (nI s)), (4, .int (nI w)), (5, .int (nI p)), (6, .int 0)]) hx hb dL_act_679 hl (by decide) rfl (fun ls hl => ?_)
  refine lv_iconst (v := 0) hx hb dL_act_681 (by decide) ?_
  refine lv_istore (lv' := [(9, .int 0), (8, .int (nI v_ng)), (7, .ref (P.1 4)), (0, .ref x), (1, .ref q), (2, .int z), (3, .int (nI s)), (4, .int (nI w)), (5, .int (nI p)), (6, .int 0)]) hx hb dL_act_682 hl (by decide) rfl (fun ls hl => ?_)
  have L_684 : ∀ (k9 i : Nat) (H : Heap) (locs : List Loc) (ls : Array Slot), i + k9 = v_ng → Wd E A9 s9.heap (wX x A T B ++ wC E A (B 0) S ++ wC E T (B 0) U ++ wG E B G ++ wS E q P (mkS v_ni v_wa v_un v_ns v_np v_nw v_ng v_ma v_st v_ou v_ru v_so v_mt v_vo v_gi v_ca (l_bw (v_ss) (v_sw) s (v_tr) i) v_sw v_ss v_sg)) H locs → lv_has ls 12 [(0, .ref x), (1, .ref q), (3, .int (nI s)), (7, .ref (P.1 4)), (8, .int (nI v_ng)), (9, .int (nI i))] → W p9 l e rm_L_act s9 m args below meth c H locs 0 0 (Q) (F0 m 684 ls []) := by
    intro k9
    induction k9 with
    | zero =>
      intro i H locs ls hi hw hl
      have hz_1 : v_ng = i := by omega
      refine lv_iload hx hb dL_act_684 (lv_at hl 5 rfl) ?_
      refine lv_iload hx hb dL_act_686 (lv_at hl 4 rfl) ?_
      refine lv_icmp_ge (tgt := 739) hx hb dL_act_688 (by decide) (fun _ => ?_) (fun q8 => absurd (by rw [← hz_1]; exact Int32.le_refl _) q8)
      rw [← hz_1] at hw
      refine lv_aload_n hx hb dL_act_739 rfl (lv_at hl 1 rfl) ?_
      refine lv_iload_n hx hb dL_act_740 rfl (lv_at hl 2 rfl) ?_
      have hn741 : Rn (wX x A T B ++ wC E A (B 0) S ++ wC E T (B 0) U ++ wG E B G ++ wS E q P (mkS v_ni v_wa v_un v_ns v_np v_nw v_ng v_ma v_st v_ou v_ru v_so v_mt v_vo v_gi v_ca (l_bw (v_ss) (v_sw) s (v_tr) (v_ng)) v_sw v_ss v_sg)) (wS E q P (mkS v_ni v_wa v_un v_ns v_np v_nw v_ng v_ma v_st v_ou v_ru v_so v_mt v_vo v_gi v_ca (l_bw (v_ss) (v_sw) s (v_tr) (v_ng)) v_sw v_ss v_sg)) (wX x A T B ++ wC E A (B 0) S ++ wC E T (B 0) U ++ wG E B G) := perm9 (fun a => by simp only [cnt9_app, cnt9_cons, cnt9_nil] <;> omega)
      refine kr_new (va_runV (As := [.int (nI s)]) (rest := []) ⟨hx, hb, hml, hown, hts⟩ (c_X3_ends l E q P v_ni v_wa v_un v_ns v_np v_nw v_ng v_ma v_st v_ou v_ru v_so v_mt v_vo v_gi v_ca (l_bw (v_ss) (v_sw) s (v_tr) (v_ng)) v_sw v_ss v_sg s hns hnp hnw hng hso hsw (hs) _) (cwV 1 hts gL_act_X3_ends rfl rfl rfl ⟨rfl, hd_X3_ends⟩ ⟨Nat.le_of_ble_eq_true rfl, Nat.le_of_ble_eq_true rfl⟩) (pwV (ci := 3) (q0 := 21) (C := RX3) hw hK rfl rfl rfl (rpS (AV := [.ref q, .int (nI s)]) hw hK hG hn741.rp)) rfl rfl hl.1 rfl (lv_room (Nat.le_of_ble_eq_true rfl)) dL_act_741 ⟨Nat.le_of_ble_eq_true rfl, Nat.le_of_ble_eq_true rfl⟩) hw hA hn741 (fun u_2 H locs _ hw => ?_)
      have hw : Wd E A9 s9.heap (wX x A T B ++ wC E A (B 0) S ++ wC E T (B 0) U ++ wG E B G ++ wS E q u_2 (mkS v_ni ((l_en (v_so) s (v_ca) (v_wa) (v_np)).2) v_un v_ns v_np v_nw (d_n (v_ss) (v_sg) (nI s) 99 (v_ng)) v_ma v_st v_ou (upd (v_ru) s 0) v_so v_mt v_vo v_gi ((l_en (v_so) s (v_ca) (v_wa) (v_np)).1) (l_bw (v_ss) (v_sw) s (v_tr) (v_ng)) (fun j => v_sw (d_ix (v_ss) (v_sg) (nI s) 99 (v_ng) j)) (fun j => v_ss (d_ix (v_ss) (v_sg) (nI s) 99 (v_ng) j)) (fun j => v_sg (d_ix (v_ss) (v_sg) (nI s) 99 (v_ng) j)))) H _ := Wd.perm hw (perm9 (fun a => by simp only [cnt9_app, cnt9_cons, cnt9_nil] <;> omega))
      refine lv_aload_n hx hb dL_act_744 rfl (lv_at hl 1 rfl) ?_
      refine k_get (ci := 3) (v := .ref (u_2.1 1)) (C := RX3) (T := TX3) (N := 7) hx hb hown hK hw hts hinX3 21 rfl rfl 3 (by decide) hf9 rfl dL_act_745 ?_
      refine lv_iload_n hx hb dL_act_748 rfl (lv_at hl 2 rfl) ?_
      refine k_qld (i := s) (y := u_2.2.1 s) (n := v_ns) hx hb hK hw 22 rfl (show s < v_ns from by omega) (show v_ns < 2 ^ 31 by omega) rfl dL_act_749 ?_
      refine lv_iconst (v := 1) hx hb dL_act_750 (by decide) ?_
      refine lv_iconst (v := 0) hx hb dL_act_751 (by decide) ?_
      refine k_istP (i := 1) (ws' := wX x A T B ++ wC E A (B 0) S ++ wC E T (B 0) U ++ wG E B G ++ wS E q u_2 (mkS v_ni ((l_en (v_so) s (v_ca) (v_wa) (v_np)).2) v_un v_ns v_np v_nw (d_n (v_ss) (v_sg) (nI s) 99 (v_ng)) v_ma (upd v_st s 0) v_ou (upd (v_ru) s 0) v_so v_mt v_vo v_gi ((l_en (v_so) s (v_ca) (v_wa) (v_np)).1) (l_bw (v_ss) (v_sw) s (v_tr) (v_ng)) (fun j => v_sw (d_ix (v_ss) (v_sg) (nI s) 99 (v_ng) j)) (fun j => v_ss (d_ix (v_ss) (v_sg) (nI s) 99 (v_ng) j)) (fun j => v_sg (d_ix (v_ss) (v_sg) (nI s) 99 (v_ng) j)))) hx hb hK hw (Pk.l (Pk_st 0 (i := s) (show s < v_ns from by omega))) (by decide) (by decide) dL_act_752 (fun H locs hw => ?_)
      refine lv_aload_n hx hb dL_act_753 rfl (lv_at hl 0 rfl) ?_
      refine lv_iload_n hx hb dL_act_754 rfl (lv_at hl 2 rfl) ?_
      refine krx_i (ws' := wX x A T B ++ wC E A (B 0) (f_comes G S (nI s)) ++ wC E T (B 0) U ++ wG E B G ++ wS E q u_2 (mkS v_ni ((l_en (v_so) s (v_ca) (v_wa) (v_np)).2) v_un v_ns v_np v_nw (d_n (v_ss) (v_sg) (nI s) 99 (v_ng)) v_ma (upd v_st s 0) v_ou (upd (v_ru) s 0) v_so v_mt v_vo v_gi ((l_en (v_so) s (v_ca) (v_wa) (v_np)).1) (l_bw (v_ss) (v_sw) s (v_tr) (v_ng)) (fun j => v_sw (d_ix (v_ss) (v_sg) (nI s) 99 (v_ng) j)) (fun j => v_ss (d_ix (v_ss) (v_sg) (nI s) 99 (v_ng) j)) (fun j => v_sg (d_ix (v_ss) (v_sg) (nI s) 99 (v_ng) j)))) (vx_runV (As := [.int (nI s)]) (rest := []) ⟨hx, hb, hml, hown, hts⟩ (c_X2_comeHome l hflags E x A T B S U G (nI s)  _) (cwV 1 hts gL_act_X2_comeHome rfl rfl rfl ⟨rfl, hd_X2_comeHome⟩ ⟨Nat.le_of_ble_eq_true rfl, Nat.le_of_ble_eq_true rfl⟩) (pwV (ci := 2) (q0 := 0) (C := RX2) hw hK rfl rfl rfl (rpX (AV := [.ref x, .int (nI s)]) hw hK hG hZ hA rp_76)) rfl rfl hl.1 rfl (lv_room (Nat.le_of_ble_eq_true rfl)) dL_act_755 ⟨Nat.le_of_ble_eq_true rfl, Nat.le_of_ble_eq_true rfl⟩) hw hA rp_81 rp_76 (fun H locs ce9 q9 t_3 hw hy1 hy2 hy3 => absurd ha0 t_3) (fun H locs t_3 hw => ?_)
      refine lv_aload_n hx hb dL_act_758 rfl (lv_at hl 1 rfl) ?_
      refine k_get (ci := 3) (v := .ref (u_2.1 1)) (C := RX3) (T := TX3) (N := 7) hx hb hown hK hw hts hinX3 21 rfl rfl 3 (by decide) hf9 rfl dL_act_759 ?_
      refine lv_iload_n hx hb dL_act_762 rfl (lv_at hl 2 rfl) ?_
      refine k_qld (i := s) (y := u_2.2.1 s) (n := v_ns) hx hb hK hw 22 rfl (show s < v_ns from by omega) (show v_ns < 2 ^ 31 by omega) rfl dL_act_763 ?_
      refine lv_iconst (v := 2) hx hb dL_act_764 (by decide) ?_
      refine k_ildP (i := 2) (v := v_ou s) hx hb hK hw (Pk.l (Pk_4 (i := s) (show s < v_ns from by omega))) (by decide) (by decide) rfl dL_act_765 ?_
      refine lv_icmp_ne (tgt := 773) hx hb dL_act_766 (by decide) (fun q8 => absurd ha1 q8) (fun _ => ?_)
      refine lv_iconst (v := 1) hx hb dL_act_769 (by decide) ?_
      refine lv_goto (tgt := 774) hx hb dL_act_770 (by decide) ?_
      refine W.widen (k := 4000) (n := 76000) (show 23 ≤ 4000 by omega) (show 432 ≤ 76000 by omega) ?_
      exact kk u_2 _ _ _ hw
    | succ k9 ih_684 =>
      intro i H locs ls hi hw hl
      have hi9 : i < v_ng := by omega
      refine lv_iload hx hb dL_act_684 (lv_at hl 5 rfl) ?_
      refine lv_iload hx hb dL_act_686 (lv_at hl 4 rfl) ?_
      refine lv_icmp_ge (tgt := 739) hx hb dL_act_688 (by decide) (fun q8 => absurd q8 (nI_ge (a := i) (b := v_ng) (by omega) (by omega))) (fun _ => ?_)
      refine lv_aload hx hb dL_act_691 (lv_at hl 3 rfl) ?_
      refine lv_iload hx hb dL_act_693 (lv_at hl 5 rfl) ?_
      refine k_qld (i := i) (y := P.2.2.2 i) (n := v_ng) hx hb hK hw 25 rfl (show i < v_ng from by omega) (show v_ng < 2 ^ 31 by omega) rfl dL_act_695 ?_
      refine lv_astore (lv' := [(10, .ref (P.2.2.2 i)), (0, .ref x), (1, .ref q), (3, .int (nI s)), (7, .ref (P.1 4)), (8, .int (nI v_ng)), (9, .int (nI i))]) hx hb dL_act_696 hl (by decide) rfl (fun ls hl => ?_)
      refine lv_aload hx hb dL_act_698 (lv_at hl 0 rfl) ?_
      refine lv_iconst (v := 1) hx hb dL_act_700 (by decide) ?_
      refine k_ildP (i := 1) (v := nI (v_ss i)) hx hb hK hw (Pk.l (Pk_3 (i := i) (show i < v_ng from by omega))) (by decide) (by decide) rfl dL_act_701 ?_
      refine lv_iload_n hx hb dL_act_702 rfl (lv_at hl 3 rfl) ?_
      refine lv_icmp_ne (tgt := 733) hx hb dL_act_703 (by decide) (fun c_4 => ?_) (fun c_4 => ?_)
      · have c_4 : ¬ (nI (v_ss i) : Int32) = nI s := c_4
        refine lv_iinc (v := nI (i + 1)) (lv' := [(9, .int (nI (i + 1))), (10, .ref (P.2.2.2 i)), (0, .ref x), (1, .ref q), (3, .int (nI s)), (7, .ref (P.1 4)), (8, .int (nI v_ng))]) hx hb dL_act_733 hl (k := 6) rfl (nI_add i 1) (by decide) rfl (fun ls hl => ?_)
        refine lv_goto (tgt := 684) hx hb dL_act_736 (by decide) ?_
        exact ih_684 (i + 1) _ _ _ (by omega) (hw.to (by first | assumption | (simp only [l_bw, if_neg c_4, if_true, if_false, Bool.false_eq_true, Bool.true_eq_false, reduceIte, reduceCtorEq]; done) | (simp only [l_bw, if_neg c_4, if_true, if_false, Bool.false_eq_true, Bool.true_eq_false, reduceIte, reduceCtorEq]; rfl) | rfl | (simp [l_bw, if_neg c_4, if_true, if_false, Bool.false_eq_true, Bool.true_eq_false, reduceIte, reduceCtorEq]; done) | (simp [bI, l_bw, c_4]; done))) (lv_sub hl [2, 3, 4, 5, 6, 0] rfl)
      · have c_4 : (nI (v_ss i) : Int32) = nI s := c_4
        refine lv_aload_n hx hb dL_act_706 rfl (lv_at hl 2 rfl) ?_
        refine k_get (ci := 3) (v := .ref (P.1 3)) (C := RX3) (T := TX3) (N := 7) hx hb hown hK hw hts hinX3 21 rfl rfl 5 (by decide) hf21 rfl dL_act_707 ?_
        refine lv_aload hx hb dL_act_710 (lv_at hl 0 rfl) ?_
        refine lv_iconst (v := 0) hx hb dL_act_712 (by decide) ?_
        refine k_ildP (i := 0) (v := nI (v_sw i)) hx hb hK hw (Pk.l (Pk_3 (i := i) (show i < v_ng from by omega))) (by decide) (by decide) rfl dL_act_713 ?_
        refine k_ildN (i := v_sw i) (n := v_nw) (f := l_bw (v_ss) (v_sw) s (v_tr) i) hx hb hK hw 24 rfl (show v_sw i < v_nw from by have := hsw i (by omega); omega) (show v_nw < 2 ^ 31 by omega) dL_act_714 ?_
        refine lv_bipush (v := 9) hx hb dL_act_715 (by decide) ?_
        refine lv_icmp_ge (tgt := 733) hx hb dL_act_717 (by decide) (fun c_5 => ?_) (fun c_5 => ?_)
        · have c_5 : (9 : Int32) ≤ (l_bw (v_ss) (v_sw) s (v_tr) i) (v_sw i) := c_5
          refine lv_iinc (v := nI (i + 1)) (lv' := [(9, .int (nI (i + 1))), (10, .ref (P.2.2.2 i)), (0, .ref x), (1, .ref q), (3, .int (nI s)), (7, .ref (P.1 4)), (8, .int (nI v_ng))]) hx hb dL_act_733 hl (k := 6) rfl (nI_add i 1) (by decide) rfl (fun ls hl => ?_)
          refine lv_goto (tgt := 684) hx hb dL_act_736 (by decide) ?_
          exact ih_684 (i + 1) _ _ _ (by omega) (hw.to (by first | assumption | (simp only [l_bw, if_pos c_4, if_pos c_5, if_true, if_false, Bool.false_eq_true, Bool.true_eq_false, reduceIte, reduceCtorEq]; done) | (simp only [l_bw, if_pos c_4, if_pos c_5, if_true, if_false, Bool.false_eq_true, Bool.true_eq_false, reduceIte, reduceCtorEq]; rfl) | rfl | (simp [l_bw, if_pos c_4, if_pos c_5, if_true, if_false, Bool.false_eq_true, Bool.true_eq_false, reduceIte, reduceCtorEq]; done) | (simp [bI, l_bw, c_4, c_5]; done))) (lv_sub hl [2, 3, 4, 5, 6, 0] rfl)
        · have c_5 : ¬ (9 : Int32) ≤ (l_bw (v_ss) (v_sw) s (v_tr) i) (v_sw i) := c_5
          refine lv_aload_n hx hb dL_act_720 rfl (lv_at hl 2 rfl) ?_
          refine k_get (ci := 3) (v := .ref (P.1 3)) (C := RX3) (T := TX3) (N := 7) hx hb hown hK hw hts hinX3 21 rfl rfl 5 (by decide) hf21 rfl dL_act_721 ?_
          refine lv_aload hx hb dL_act_724 (lv_at hl 0 rfl) ?_
          refine lv_iconst (v := 0) hx hb dL_act_726 (by decide) ?_
          refine k_ildP (i := 0) (v := nI (v_sw i)) hx hb hK hw (Pk.l (Pk_3 (i := i) (show i < v_ng from by omega))) (by decide) (by decide) rfl dL_act_727 ?_
          refine lv_dup2_11 hx hb dL_act_728 rfl rfl ?_
          refine k_ildN (i := v_sw i) (n := v_nw) (f := l_bw (v_ss) (v_sw) s (v_tr) i) hx hb hK hw 24 rfl (show v_sw i < v_nw from by have := hsw i (by omega); omega) (show v_nw < 2 ^ 31 by omega) dL_act_729 ?_
          refine lv_iconst (v := 1) hx hb dL_act_730 (by decide) ?_
          refine lv_iadd hx hb dL_act_731 ?_
          refine k_istP (i := v_sw i) (n := v_nw) (f := l_bw (v_ss) (v_sw) s (v_tr) i) (ws' := wX x A T B ++ wC E A (B 0) S ++ wC E T (B 0) U ++ wG E B G ++ wS E q P (mkS v_ni v_wa v_un v_ns v_np v_nw v_ng v_ma v_st v_ou v_ru v_so v_mt v_vo v_gi v_ca (upd (l_bw (v_ss) (v_sw) s (v_tr) i) (v_sw i) (((l_bw (v_ss) (v_sw) s (v_tr) i) (v_sw i)) + 1)) v_sw v_ss v_sg)) hx hb hK hw (Pk.l (Pk_tr (upd (l_bw (v_ss) (v_sw) s (v_tr) i) (v_sw i) (((l_bw (v_ss) (v_sw) s (v_tr) i) (v_sw i)) + 1)))) (show v_sw i < v_nw from by have := hsw i (by omega); omega) (show v_nw < 2 ^ 31 by omega) dL_act_732 (fun H locs hw => ?_)
          refine lv_iinc (v := nI (i + 1)) (lv' := [(9, .int (nI (i + 1))), (10, .ref (P.2.2.2 i)), (0, .ref x), (1, .ref q), (3, .int (nI s)), (7, .ref (P.1 4)), (8, .int (nI v_ng))]) hx hb dL_act_733 hl (k := 6) rfl (nI_add i 1) (by decide) rfl (fun ls hl => ?_)
          refine lv_goto (tgt := 684) hx hb dL_act_736 (by decide) ?_
          exact ih_684 (i + 1) _ _ _ (by omega) (hw.to (by first | assumption | (simp only [l_bw, if_pos c_4, if_neg c_5, if_true, if_false, Bool.false_eq_true, Bool.true_eq_false, reduceIte, reduceCtorEq]; done) | (simp only [l_bw, if_pos c_4, if_neg c_5, if_true, if_false, Bool.false_eq_true, Bool.true_eq_false, reduceIte, reduceCtorEq]; rfl) | rfl | (simp [l_bw, if_pos c_4, if_neg c_5, if_true, if_false, Bool.false_eq_true, Bool.true_eq_false, reduceIte, reduceCtorEq]; done) | (simp [bI, l_bw, c_4, c_5]; done))) (lv_sub hl [2, 3, 4, 5, 6, 0] rfl)
  exact L_684 (v_ng - 0) 0 _ _ _ (by omega) hw (lv_sub hl [3, 4, 6, 2, 1, 0] rfl)
