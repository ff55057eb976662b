set_option maxHeartbeats 4000000 in
set_option maxRecDepth 100000 in
theorem ap_000 (l : Launch) (hflags : l.stackTraces = false) (E : Ev) {p9 : Program} {e : Env} {s9 : State} {m : MethodId} {args : Array Value} {below : List Frame} {meth : Method} {c : Code} {A9 : Nat → Prop} {H : Heap} {locs : List Loc} {ls : Array Slot} {Q : State → Prop} (hC : Cx E yL_act.cls cL_act 12 (some .boolean) wsL_act p9 s9 m args meth c A9) (ht9 : c.exceptionTable.toList = tableOf [(103, 217, 1043, 94), (218, 270, 1043, 94), (271, 322, 1043, 94), (323, 391, 1043, 94), (392, 403, 1043, 94), (404, 478, 1043, 94), (479, 537, 1043, 94), (538, 550, 1043, 94), (551, 656, 1043, 94), (657, 669, 1043, 94), (670, 774, 1043, 94), (775, 784, 1043, 94), (785, 799, 1043, 94), (800, 877, 1043, 94), (878, 887, 1043, 94), (888, 930, 1043, 94), (931, 970, 1043, 94), (971, 1042, 1043, 94)]) (hZ : Zx A9 s9 s9.heap) (x : Nat) (A T B : Nat → Nat) (S U : CS) (G : HS) (q : Nat) (P : AP) (v_ni v_wa v_un : Int32) (v_ns v_np v_nw v_ng : Nat) (v_ma v_st v_ou v_ru : Fn) (v_so : FnN) (v_mt v_vo v_gi v_ca v_tr : Fn) (v_sw v_ss : FnN) (v_sg : Fn) (z : Int32) (hns : v_ns ≤ 5) (hnp : v_np ≤ 16) (hnw : v_nw ≤ 4) (hng : v_ng ≤ 20) (hso : ∀ p, p < v_np → v_so p < v_ns) (hsw : ∀ j, j < v_ng → v_sw j < v_nw) (h0s : 0 < v_ns) (hbw : v_nw = 0) (hbp : v_np = 0) (hbr : f_ref v_ns v_np v_nw v_ng v_st v_vo v_so v_sw v_ss z (bl (z >>> ((4 : Int32) &&& 31)) v_ns) (0) (0) = false) (kk : ∀ (H : Heap) (locs : List Loc) (ls : Array Slot), Wd E A9 s9.heap (wX x A T B ++ wC E A (B 0) S ++ wC E T (B 0) U ++ wG E B G ++ wS E q P (mkS v_ni v_wa v_un v_ns v_np v_nw v_ng v_ma v_st v_ou v_ru v_so v_mt v_vo v_gi v_ca v_tr v_sw v_ss v_sg)) H locs → lv_has ls 12 [(0, .ref x), (1, .ref q), (2, .int z), (3, .int (nI (bl (z >>> ((4 : Int32) &&& 31)) v_ns))), (4, .int 0), (5, .int 0), (6, .int 0)] → W p9 l e rm_L_act s9 m args below meth c H locs 0 0 Q (F0 m 121 ls [.int (nI (bl z 18))])) (hw : Wd E A9 s9.heap (wX x A T B ++ wC E A (B 0) S ++ wC E T (B 0) U ++ wG E B G ++ wS E q P (mkS v_ni v_wa v_un v_ns v_np v_nw v_ng v_ma v_st v_ou v_ru v_so v_mt v_vo v_gi v_ca v_tr v_sw v_ss v_sg)) H locs) (hl : lv_has ls 12 [(0, .ref x), (1, .ref q), (2, .int z)]) : W p9 l e rm_L_act s9 m args below meth c H locs 0 0 Q (F0 m 0 ls []) := by
  obtain ⟨hx, hb, hml, hr, hown, hts, hlocks, hK, hG, hA⟩ := hC
  have hf9 := hts (.fieldLink RL 9 "SailorCandlesLaw$Sim" "ships" "[[I") (List.mem_of_getElem? (i := 2) rfl)
  have hinX3 : ∀ w ∈ wsX30, w ∈ wsL_act := fun w h => List.mem_cons_of_mem _ (List.mem_append_left _ (List.mem_append_left _ (List.mem_append_left _ (List.mem_append_left _ (List.mem_append_left _ (List.mem_append_left _ (List.mem_append_right _ h)))))))
  have hf21 := hts (.fieldLink RL 21 "SailorCandlesLaw$Sim" "trust" "[I") (List.mem_of_getElem? (i := 3) rfl)
  have hf25 := hts (.fieldLink RL 25 "SailorCandlesLaw$Sim" "sailors" "[[I") (List.mem_of_getElem? (i := 4) rfl)
  refine lv_aload_n hx hb dL_act_0 rfl (lv_at hl 1 rfl) ?_
  refine k_get (ci := 3) (v := .ref (P.1 1)) (C := RX3) (T := TX3) (N := 7) hx hb hown hK hw hts hinX3 21 rfl rfl 3 (by decide) hf9 rfl dL_act_1 ?_
  refine k_lenQ (n := v_ns) hx hb hK hw 22 rfl dL_act_4 ?_
  refine lv_if_ne (tgt := 12) hx hb dL_act_5 (by decide) (fun _ => ?_) (fun q8 => absurd q8 (bl_ne h0s (by omega)))
  refine lv_iload_n hx hb dL_act_12 rfl (lv_at hl 2 rfl) ?_
  refine lv_iconst (v := 4) hx hb dL_act_13 (by decide) ?_
  refine lv_ishr hx hb dL_act_14 ?_
  refine lv_aload_n hx hb dL_act_15 rfl (lv_at hl 1 rfl) ?_
  refine k_get (ci := 3) (v := .ref (P.1 1)) (C := RX3) (T := TX3) (N := 7) hx hb hown hK hw hts hinX3 21 rfl rfl 3 (by decide) hf9 rfl dL_act_16 ?_
  refine k_lenQ (n := v_ns) hx hb hK hw 22 rfl dL_act_19 ?_
  refine kr_i (ws' := wX x A T B ++ wC E A (B 0) S ++ wC E T (B 0) U ++ wG E B G ++ wS E q P (mkS v_ni v_wa v_un v_ns v_np v_nw v_ng v_ma v_st v_ou v_ru v_so v_mt v_vo v_gi v_ca v_tr v_sw v_ss v_sg)) (va_runS (As := [.int (z >>> ((4 : Int32) &&& 31)), .int (nI v_ns)]) (rest := []) ⟨hx, hb, hml, hown, hts⟩ (c_L_below l E (z >>> ((4 : Int32) &&& 31)) v_ns (h0s) ((by omega)) _) (va_cwS 2 hts gL_act_L_below rfl rfl rfl hd_L_below ⟨Nat.le_of_ble_eq_true rfl, Nat.le_of_ble_eq_true rfl⟩) (rpS (AV := [.int (z >>> ((4 : Int32) &&& 31)), .int (nI v_ns)]) hw hK hG rp_78) rfl rfl hl.1 rfl (lv_room (Nat.le_of_ble_eq_true rfl)) dL_act_20 ⟨Nat.le_of_ble_eq_true rfl, Nat.le_of_ble_eq_true rfl⟩) hw hA rp_78 (fun H locs hw => ?_)
  refine lv_istore_n (lv' := [(3, .int (nI (bl (z >>> ((4 : Int32) &&& 31)) v_ns))), (0, .ref x), (1, .ref q), (2, .int z)]) hx hb dL_act_23 rfl hl (by decide) rfl (fun ls hl => ?_)
  refine lv_aload_n hx hb dL_act_24 rfl (lv_at hl 2 rfl) ?_
  refine k_get (ci := 3) (v := .ref (P.1 3)) (C := RX3) (T := TX3) (N := 7) hx hb hown hK hw hts hinX3 21 rfl rfl 5 (by decide) hf21 rfl dL_act_25 ?_
  refine k_lenI (n := v_nw) hx hb hK hw 24 rfl dL_act_28 ?_
  refine lv_if_ne (tgt := 36) hx hb dL_act_29 (by decide) (fun q8 => absurd (by rw [hbw]; rfl) q8) (fun _ => ?_)
  refine lv_iconst (v := 0) hx hb dL_act_32 (by decide) ?_
  refine lv_goto (tgt := 48) hx hb dL_act_33 (by decide) ?_
  refine lv_istore (lv' := [(4, .int 0), (3, .int (nI (bl (z >>> ((4 : Int32) &&& 31)) v_ns))), (0, .ref x), (1, .ref q), (2, .int z)]) hx hb dL_act_48 hl (by decide) rfl (fun ls hl => ?_)
  refine lv_aload_n hx hb dL_act_50 rfl (lv_at hl 3 rfl) ?_
  refine k_get (ci := 3) (v := .ref (P.1 2)) (C := RX3) (T := TX3) (N := 7) hx hb hown hK hw hts hinX3 21 rfl rfl 4 (by decide) hf25 rfl dL_act_51 ?_
  refine k_lenQ (n := v_np) hx hb hK hw 23 rfl dL_act_54 ?_
  refine lv_if_ne (tgt := 62) hx hb dL_act_55 (by decide) (fun q8 => absurd (by rw [hbp]; rfl) q8) (fun _ => ?_)
  refine lv_iconst (v := 0) hx hb dL_act_58 (by decide) ?_
  refine lv_goto (tgt := 73) hx hb dL_act_59 (by decide) ?_
  refine lv_istore (lv' := [(5, .int 0), (4, .int 0), (3, .int (nI (bl (z >>> ((4 : Int32) &&& 31)) v_ns))), (0, .ref x), (1, .ref q), (2, .int z)]) hx hb dL_act_73 hl (by decide) rfl (fun ls hl => ?_)
  refine lv_aload_n hx hb dL_act_75 rfl (lv_at hl 4 rfl) ?_
  refine k_get (ci := 3) (v := .ref (P.1 1)) (C := RX3) (T := TX3) (N := 7) hx hb hown hK hw hts hinX3 21 rfl rfl 3 (by decide) hf9 rfl dL_act_76 ?_
  refine k_lenQ (n := v_ns) hx hb hK hw 22 rfl dL_act_79 ?_
  refine lv_if_le (tgt := 100) hx hb dL_act_80 (by decide) (fun q8 => absurd q8 (nI_nle h0s (by omega))) (fun _ => ?_)
  refine lv_aload_n hx hb dL_act_83 rfl (lv_at hl 4 rfl) ?_
  refine lv_iload_n hx hb dL_act_84 rfl (lv_at hl 5 rfl) ?_
  refine lv_iload_n hx hb dL_act_85 rfl (lv_at hl 2 rfl) ?_
  refine lv_iload hx hb dL_act_86 (lv_at hl 1 rfl) ?_
  refine lv_iload hx hb dL_act_88 (lv_at hl 0 rfl) ?_
  refine kr_i (ws' := wX x A T B ++ wC E A (B 0) S ++ wC E T (B 0) U ++ wG E B G ++ wS E q P (mkS v_ni v_wa v_un v_ns v_np v_nw v_ng v_ma v_st v_ou v_ru v_so v_mt v_vo v_gi v_ca v_tr v_sw v_ss v_sg)) (va_runS (As := [.ref q, .int z, .int (nI (bl (z >>> ((4 : Int32) &&& 31)) v_ns)), .int 0, .int 0]) (rest := []) ⟨hx, hb, hml, hown, hts⟩ (c_L_refused l E q P v_ni v_wa v_un v_ns v_np v_nw v_ng v_ma v_st v_ou v_ru v_so v_mt v_vo v_gi v_ca v_tr v_sw v_ss v_sg z (bl (z >>> ((4 : Int32) &&& 31)) v_ns) 0 0 hns hnp hnw hng hso hsw ((bl_lt h0s)) ((fun q9 => by omega)) _) (va_cwS 5 hts gL_act_L_refused rfl rfl rfl hd_L_refused ⟨Nat.le_of_ble_eq_true rfl, Nat.le_of_ble_eq_true rfl⟩) (rpS (AV := [.ref q, .int z, .int (nI (bl (z >>> ((4 : Int32) &&& 31)) v_ns)), .int 0, .int 0]) hw hK hG rp_77) rfl rfl hl.1 rfl (lv_room (Nat.le_of_ble_eq_true rfl)) dL_act_90 ⟨Nat.le_of_ble_eq_true rfl, Nat.le_of_ble_eq_true rfl⟩) hw hA rp_77 (fun H locs hw => ?_)
  refine lv_if_eq (tgt := 100) hx hb dL_act_93 (by decide) (fun _ => ?_) (fun q8 => absurd (by rw [hbr]; rfl) q8)
  refine lv_iconst (v := 0) hx hb dL_act_100 (by decide) ?_
  refine lv_istore (lv' := [(6, .int 0), (5, .int 0), (4, .int 0), (3, .int (nI (bl (z >>> ((4 : Int32) &&& 31)) v_ns))), (0, .ref x), (1, .ref q), (2, .int z)]) hx hb dL_act_101 hl (by decide) rfl (fun ls hl => ?_)
  refine lv_aload_n hx hb dL_act_103 rfl (lv_at hl 5 rfl) ?_
  refine k_get (ci := 3) (v := .ref (P.1 1)) (C := RX3) (T := TX3) (N := 7) hx hb hown hK hw hts hinX3 21 rfl rfl 3 (by decide) hf9 rfl dL_act_104 ?_
  refine k_lenQ (n := v_ns) hx hb hK hw 22 rfl dL_act_107 ?_
  refine lv_if_ne (tgt := 115) hx hb dL_act_108 (by decide) (fun _ => ?_) (fun q8 => absurd q8 (bl_ne h0s (by omega)))
  refine lv_iload_n hx hb dL_act_115 rfl (lv_at hl 6 rfl) ?_
  refine lv_bipush (v := 18) hx hb dL_act_116 (by decide) ?_
  refine kr_i (ws' := wX x A T B ++ wC E A (B 0) S ++ wC E T (B 0) U ++ wG E B G ++ wS E q P (mkS v_ni v_wa v_un v_ns v_np v_nw v_ng v_ma v_st v_ou v_ru v_so v_mt v_vo v_gi v_ca v_tr v_sw v_ss v_sg)) (va_runS (As := [.int z, .int 18]) (rest := []) ⟨hx, hb, hml, hown, hts⟩ (c_L_below l E z 18 ((by omega)) ((by omega)) _) (va_cwS 2 hts gL_act_L_below rfl rfl rfl hd_L_below ⟨Nat.le_of_ble_eq_true rfl, Nat.le_of_ble_eq_true rfl⟩) (rpS (AV := [.int z, .int 18]) hw hK hG rp_78) rfl rfl hl.1 rfl (lv_room (Nat.le_of_ble_eq_true rfl)) dL_act_118 ⟨Nat.le_of_ble_eq_true rfl, Nat.le_of_ble_eq_true rfl⟩) hw hA rp_78 (fun H locs hw => ?_)
  exact kk _ _ _ hw (lv_sub hl [4, 5, 6, 3, 2, 1, 0] rfl)

set_option maxHeartbeats 4000000 in
set_option maxRecDepth 100000 in
theorem ap_001 (l : Launch) (hflags : l.stackTraces = false) (E : Ev) {p9 : Program} {e : Env} {s9 : State} {m : MethodId} {args : Array Value} {below : List Frame} {meth : Method} {c : Code} {A9 : Nat → Prop} {H : Heap} {locs : List Loc} {ls : Array Slot} {Q : State → Prop} (hC : Cx E yL_act.cls cL_act 12 (some .boolean) wsL_act p9 s9 m args meth c A9) (ht9 : c.exceptionTable.toList = tableOf [(103, 217, 1043, 94), (218, 270, 1043, 94), (271, 322, 1043, 94), (323, 391, 1043, 94), (392, 403, 1043, 94), (404, 478, 1043, 94), (479, 537, 1043, 94), (538, 550, 1043, 94), (551, 656, 1043, 94), (657, 669, 1043, 94), (670, 774, 1043, 94), (775, 784, 1043, 94), (785, 799, 1043, 94), (800, 877, 1043, 94), (878, 887, 1043, 94), (888, 930, 1043, 94), (931, 970, 1043, 94), (971, 1042, 1043, 94)]) (hZ : Zx A9 s9 s9.heap) (x : Nat) (A T B : Nat → Nat) (S U : CS) (G : HS) (q : Nat) (P : AP) (v_ni v_wa v_un : Int32) (v_ns v_np v_nw v_ng : Nat) (v_ma v_st v_ou v_ru : Fn) (v_so : FnN) (v_mt v_vo v_gi v_ca v_tr : Fn) (v_sw v_ss : FnN) (v_sg : Fn) (z : Int32) (hns : v_ns ≤ 5) (hnp : v_np ≤ 16) (hnw : v_nw ≤ 4) (hng : v_ng ≤ 20) (hso : ∀ p, p < v_np → v_so p < v_ns) (hsw : ∀ j, j < v_ng → v_sw j < v_nw) (h0s : 0 < v_ns) (hbw : v_nw = 0) (hbp : v_np = 0) (hbr : f_ref v_ns v_np v_nw v_ng v_st v_vo v_so v_sw v_ss z (bl (z >>> ((4 : Int32) &&& 31)) v_ns) (0) (0) = true) (kk : ∀ (H : Heap) (locs : List Loc) (ls : Array Slot), Wd E A9 s9.heap (wX x A T B ++ wC E A (B 0) S ++ wC E T (B 0) U ++ wG E B G ++ wS E q P (mkS v_ni v_wa v_un v_ns v_np v_nw v_ng v_ma v_st v_ou v_ru v_so v_mt v_vo v_gi v_ca v_tr v_sw v_ss v_sg)) H locs → lv_has ls 12 [(0, .ref x), (1, .ref q), (2, .int z), (3, .int (nI (bl (z >>> ((4 : Int32) &&& 31)) v_ns))), (4, .int 0), (5, .int 0), (6, .int 1)] → W p9 l e rm_L_act s9 m args below meth c H locs 0 0 Q (F0 m 121 ls [.int (nI (bl z 18))])) (hw : Wd E A9 s9.heap (wX x A T B ++ wC E A (B 0) S ++ wC E T (B 0) U ++ wG E B G ++ wS E q P (mkS v_ni v_wa v_un v_ns v_np v_nw v_ng v_ma v_st v_ou v_ru v_so v_mt v_vo v_gi v_ca v_tr v_sw v_ss v_sg)) H locs) (hl : lv_has ls 12 [(0, .ref x), (1, .ref q), (2, .int z)]) : W p9 l e rm_L_act s9 m args below meth c H locs 0 0 Q (F0 m 0 ls []) := by
  obtain ⟨hx, hb, hml, hr, hown, hts, hlocks, hK, hG, hA⟩ := hC
  have hf9 := hts (.fieldLink RL 9 "SailorCandlesLaw$Sim" "ships" "[[I") (List.mem_of_getElem? (i := 2) rfl)
  have hinX3 : ∀ w ∈ wsX30, w ∈ wsL_act := fun w h => List.mem_cons_of_mem _ (List.mem_append_left _ (List.mem_append_left _ (List.mem_append_left _ (List.mem_append_left _ (List.mem_append_left _ (List.mem_append_left _ (List.mem_append_right _ h)))))))
  have hf21 := hts (.fieldLink RL 21 "SailorCandlesLaw$Sim" "trust" "[I") (List.mem_of_getElem? (i := 3) rfl)
  have hf25 := hts (.fieldLink RL 25 "SailorCandlesLaw$Sim" "sailors" "[[I") (List.mem_of_getElem? (i := 4) rfl)
  refine lv_aload_n hx hb dL_act_0 rfl (lv_at hl 1 rfl) ?_
  refine k_get (ci := 3) (v := .ref (P.1 1)) (C := RX3) (T := TX3) (N := 7) hx hb hown hK hw hts hinX3 21 rfl rfl 3 (by decide) hf9 rfl dL_act_1 ?_
  refine k_lenQ (n := v_ns) hx hb hK hw 22 rfl dL_act_4 ?_
  refine lv_if_ne (tgt := 12) hx hb dL_act_5 (by decide) (fun _ => ?_) (fun q8 => absurd q8 (bl_ne h0s (by omega)))
  refine lv_iload_n hx hb dL_act_12 rfl (lv_at hl 2 rfl) ?_
  refine lv_iconst (v := 4) hx hb dL_act_13 (by decide) ?_
  refine lv_ishr hx hb dL_act_14 ?_
  refine lv_aload_n hx hb dL_act_15 rfl (lv_at hl 1 rfl) ?_
  refine k_get (ci := 3) (v := .ref (P.1 1)) (C := RX3) (T := TX3) (N := 7) hx hb hown hK hw hts hinX3 21 rfl rfl 3 (by decide) hf9 rfl dL_act_16 ?_
  refine k_lenQ (n := v_ns) hx hb hK hw 22 rfl dL_act_19 ?_
  refine kr_i (ws' := wX x A T B ++ wC E A (B 0) S ++ wC E T (B 0) U ++ wG E B G ++ wS E q P (mkS v_ni v_wa v_un v_ns v_np v_nw v_ng v_ma v_st v_ou v_ru v_so v_mt v_vo v_gi v_ca v_tr v_sw v_ss v_sg)) (va_runS (As := [.int (z >>> ((4 : Int32) &&& 31)), .int (nI v_ns)]) (rest := []) ⟨hx, hb, hml, hown, hts⟩ (c_L_below l E (z >>> ((4 : Int32) &&& 31)) v_ns (h0s) ((by omega)) _) (va_cwS 2 hts gL_act_L_below rfl rfl rfl hd_L_below ⟨Nat.le_of_ble_eq_true rfl, Nat.le_of_ble_eq_true rfl⟩) (rpS (AV := [.int (z >>> ((4 : Int32) &&& 31)), .int (nI v_ns)]) hw hK hG rp_78) rfl rfl hl.1 rfl (lv_room (Nat.le_of_ble_eq_true rfl)) dL_act_20 ⟨Nat.le_of_ble_eq_true rfl, Nat.le_of_ble_eq_true rfl⟩) hw hA rp_78 (fun H locs hw => ?_)
  refine lv_istore_n (lv' := [(3, .int (nI (bl (z >>> ((4 : Int32) &&& 31)) v_ns))), (0, .ref x), (1, .ref q), (2, .int z)]) hx hb dL_act_23 rfl hl (by decide) rfl (fun ls hl => ?_)
  refine lv_aload_n hx hb dL_act_24 rfl (lv_at hl 2 rfl) ?_
  refine k_get (ci := 3) (v := .ref (P.1 3)) (C := RX3) (T := TX3) (N := 7) hx hb hown hK hw hts hinX3 21 rfl rfl 5 (by decide) hf21 rfl dL_act_25 ?_
  refine k_lenI (n := v_nw) hx hb hK hw 24 rfl dL_act_28 ?_
  refine lv_if_ne (tgt := 36) hx hb dL_act_29 (by decide) (fun q8 => absurd (by rw [hbw]; rfl) q8) (fun _ => ?_)
  refine lv_iconst (v := 0) hx hb dL_act_32 (by decide) ?_
  refine lv_goto (tgt := 48) hx hb dL_act_33 (by decide) ?_
  refine lv_istore (lv' := [(4, .int 0), (3, .int (nI (bl (z >>> ((4 : Int32) &&& 31)) v_ns))), (0, .ref x), (1, .ref q), (2, .int z)]) hx hb dL_act_48 hl (by decide) rfl (fun ls hl => ?_)
  refine lv_aload_n hx hb dL_act_50 rfl (lv_at hl 3 rfl) ?_
  refine k_get (ci := 3) (v := .ref (P.1 2)) (C := RX3) (T := TX3) (N := 7) hx hb hown hK hw hts hinX3 21 rfl rfl 4 (by decide) hf25 rfl dL_act_51 ?_
  refine k_lenQ (n := v_np) hx hb hK hw 23 rfl dL_act_54 ?_
  refine lv_if_ne (tgt := 62) hx hb dL_act_55 (by decide) (fun q8 => absurd (by rw [hbp]; rfl) q8) (fun _ => ?_)
  refine lv_iconst (v := 0) hx hb dL_act_58 (by decide) ?_
  refine lv_goto (tgt := 73) hx hb dL_act_59 (by decide) ?_
  refine lv_istore (lv' := [(5, .int 0), (4, .int 0), (3, .int (nI (bl (z >>> ((4 : Int32) &&& 31)) v_ns))), (0, .ref x), (1, .ref q), (2, .int z)]) hx hb dL_act_73 hl (by decide) rfl (fun ls hl => ?_)
  refine lv_aload_n hx hb dL_act_75 rfl (lv_at hl 4 rfl) ?_
  refine k_get (ci := 3) (v := .ref (P.1 1)) (C := RX3) (T := TX3) (N := 7) hx hb hown hK hw hts hinX3 21 rfl rfl 3 (by decide) hf9 rfl dL_act_76 ?_
  refine k_lenQ (n := v_ns) hx hb hK hw 22 rfl dL_act_79 ?_
  refine lv_if_le (tgt := 100) hx hb dL_act_80 (by decide) (fun q8 => absurd q8 (nI_nle h0s (by omega))) (fun _ => ?_)
  refine lv_aload_n hx hb dL_act_83 rfl (lv_at hl 4 rfl) ?_
  refine lv_iload_n hx hb dL_act_84 rfl (lv_at hl 5 rfl) ?_
  refine lv_iload_n hx hb dL_act_85 rfl (lv_at hl 2 rfl) ?_
  refine lv_iload hx hb dL_act_86 (lv_at hl 1 rfl) ?_
  refine lv_iload hx hb dL_act_88 (lv_at hl 0 rfl) ?_
  refine kr_i (ws' := wX x A T B ++ wC E A (B 0) S ++ wC E T (B 0) U ++ wG E B G ++ wS E q P (mkS v_ni v_wa v_un v_ns v_np v_nw v_ng v_ma v_st v_ou v_ru v_so v_mt v_vo v_gi v_ca v_tr v_sw v_ss v_sg)) (va_runS (As := [.ref q, .int z, .int (nI (bl (z >>> ((4 : Int32) &&& 31)) v_ns)), .int 0, .int 0]) (rest := []) ⟨hx, hb, hml, hown, hts⟩ (c_L_refused l E q P v_ni v_wa v_un v_ns v_np v_nw v_ng v_ma v_st v_ou v_ru v_so v_mt v_vo v_gi v_ca v_tr v_sw v_ss v_sg z (bl (z >>> ((4 : Int32) &&& 31)) v_ns) 0 0 hns hnp hnw hng hso hsw ((bl_lt h0s)) ((fun q9 => by omega)) _) (va_cwS 5 hts gL_act_L_refused rfl rfl rfl hd_L_refused ⟨Nat.le_of_ble_eq_true rfl, Nat.le_of_ble_eq_true rfl⟩) (rpS (AV := [.ref q, .int z, .int (nI (bl (z >>> ((4 : Int32) &&& 31)) v_ns)), .int 0, .int 0]) hw hK hG rp_77) rfl rfl hl.1 rfl (lv_room (Nat.le_of_ble_eq_true rfl)) dL_act_90 ⟨Nat.le_of_ble_eq_true rfl, Nat.le_of_ble_eq_true rfl⟩) hw hA rp_77 (fun H locs hw => ?_)
  refine lv_if_eq (tgt := 100) hx hb dL_act_93 (by decide) (fun q8 => absurd q8 (fun q7 => absurd (hbr.symm.trans (bI_z q7)) (by decide))) (fun _ => ?_)
  refine lv_iconst (v := 1) hx hb dL_act_96 (by decide) ?_
  refine lv_goto (tgt := 101) hx hb dL_act_97 (by decide) ?_
  refine lv_istore (lv' := [(6, .int 1), (5, .int 0), (4, .int 0), (3, .int (nI (bl (z >>> ((4 : Int32) &&& 31)) v_ns))), (0, .ref x), (1, .ref q), (2, .int z)]) hx hb dL_act_101 hl (by decide) rfl (fun ls hl => ?_)
  refine lv_aload_n hx hb dL_act_103 rfl (lv_at hl 5 rfl) ?_
  refine k_get (ci := 3) (v := .ref (P.1 1)) (C := RX3) (T := TX3) (N := 7) hx hb hown hK hw hts hinX3 21 rfl rfl 3 (by decide) hf9 rfl dL_act_104 ?_
  refine k_lenQ (n := v_ns) hx hb hK hw 22 rfl dL_act_107 ?_
  refine lv_if_ne (tgt := 115) hx hb dL_act_108 (by decide) (fun _ => ?_) (fun q8 => absurd q8 (bl_ne h0s (by omega)))
  refine lv_iload_n hx hb dL_act_115 rfl (lv_at hl 6 rfl) ?_
  refine lv_bipush (v := 18) hx hb dL_act_116 (by decide) ?_
  refine kr_i (ws' := wX x A T B ++ wC E A (B 0) S ++ wC E T (B 0) U ++ wG E B G ++ wS E q P (mkS v_ni v_wa v_un v_ns v_np v_nw v_ng v_ma v_st v_ou v_ru v_so v_mt v_vo v_gi v_ca v_tr v_sw v_ss v_sg)) (va_runS (As := [.int z, .int 18]) (rest := []) ⟨hx, hb, hml, hown, hts⟩ (c_L_below l E z 18 ((by omega)) ((by omega)) _) (va_cwS 2 hts gL_act_L_below rfl rfl rfl hd_L_below ⟨Nat.le_of_ble_eq_true rfl, Nat.le_of_ble_eq_true rfl⟩) (rpS (AV := [.int z, .int 18]) hw hK hG rp_78) rfl rfl hl.1 rfl (lv_room (Nat.le_of_ble_eq_true rfl)) dL_act_118 ⟨Nat.le_of_ble_eq_true rfl, Nat.le_of_ble_eq_true rfl⟩) hw hA rp_78 (fun H locs hw => ?_)
  exact kk _ _ _ hw (lv_sub hl [4, 5, 6, 3, 2, 1, 0] rfl)

set_option maxHeartbeats 4000000 in
set_option maxRecDepth 100000 in
theorem ap_010 (l : Launch) (hflags : l.stackTraces = false) (E : Ev) {p9 : Program} {e : Env} {s9 : State} {m : MethodId} {args : Array Value} {below : List Frame} {meth : Method} {c : Code} {A9 : Nat → Prop} {H : Heap} {locs : List Loc} {ls : Array Slot} {Q : State → Prop} (hC : Cx E yL_act.cls cL_act 12 (some .boolean) wsL_act p9 s9 m args meth c A9) (ht9 : c.exceptionTable.toList = tableOf [(103, 217, 1043, 94), (218, 270, 1043, 94), (271, 322, 1043, 94), (323, 391, 1043, 94), (392, 403, 1043, 94), (404, 478, 1043, 94), (479, 537, 1043, 94), (538, 550, 1043, 94), (551, 656, 1043, 94), (657, 669, 1043, 94), (670, 774, 1043, 94), (775, 784, 1043, 94), (785, 799, 1043, 94), (800, 877, 1043, 94), (878, 887, 1043, 94), (888, 930, 1043, 94), (931, 970, 1043, 94), (971, 1042, 1043, 94)]) (hZ : Zx A9 s9 s9.heap) (x : Nat) (A T B : Nat → Nat) (S U : CS) (G : HS) (q : Nat) (P : AP) (v_ni v_wa v_un : Int32) (v_ns v_np v_nw v_ng : Nat) (v_ma v_st v_ou v_ru : Fn) (v_so : FnN) (v_mt v_vo v_gi v_ca v_tr : Fn) (v_sw v_ss : FnN) (v_sg : Fn) (z : Int32) (hns : v_ns ≤ 5) (hnp : v_np ≤ 16) (hnw : v_nw ≤ 4) (hng : v_ng ≤ 20) (hso : ∀ p, p < v_np → v_so p < v_ns) (hsw : ∀ j, j < v_ng → v_sw j < v_nw) (h0s : 0 < v_ns) (hbw : v_nw = 0) (hbp : 0 < v_np) (hbr : f_ref v_ns v_np v_nw v_ng v_st v_vo v_so v_sw v_ss z (bl (z >>> ((4 : Int32) &&& 31)) v_ns) (0) (bl (z >>> ((5 : Int32) &&& 31)) v_np) = false) (kk : ∀ (H : Heap) (locs : List Loc) (ls : Array Slot), Wd E A9 s9.heap (wX x A T B ++ wC E A (B 0) S ++ wC E T (B 0) U ++ wG E B G ++ wS E q P (mkS v_ni v_wa v_un v_ns v_np v_nw v_ng v_ma v_st v_ou v_ru v_so v_mt v_vo v_gi v_ca v_tr v_sw v_ss v_sg)) H locs → lv_has ls 12 [(0, .ref x), (1, .ref q), (2, .int z), (3, .int (nI (bl (z >>> ((4 : Int32) &&& 31)) v_ns))), (4, .int 0), (5, .int (nI (bl (z >>> ((5 : Int32) &&& 31)) v_np))), (6, .int 0)] → W p9 l e rm_L_act s9 m args below meth c H locs 0 0 Q (F0 m 121 ls [.int (nI (bl z 18))])) (hw : Wd E A9 s9.heap (wX x A T B ++ wC E A (B 0) S ++ wC E T (B 0) U ++ wG E B G ++ wS E q P (mkS v_ni v_wa v_un v_ns v_np v_nw v_ng v_ma v_st v_ou v_ru v_so v_mt v_vo v_gi v_ca v_tr v_sw v_ss v_sg)) H locs) (hl : lv_has ls 12 [(0, .ref x), (1, .ref q), (2, .int z)]) : W p9 l e rm_L_act s9 m args below meth c H locs 0 0 Q (F0 m 0 ls []) := by
  obtain ⟨hx, hb, hml, hr, hown, hts, hlocks, hK, hG, hA⟩ := hC
  have hf9 := hts (.fieldLink RL 9 "SailorCandlesLaw$Sim" "ships" "[[I") (List.mem_of_getElem? (i := 2) rfl)
  have hinX3 : ∀ w ∈ wsX30, w ∈ wsL_act := fun w h => List.mem_cons_of_mem _ (List.mem_append_left _ (List.mem_append_left _ (List.mem_append_left _ (List.mem_append_left _ (List.mem_append_left _ (List.mem_append_left _ (List.mem_append_right _ h)))))))
  have hf21 := hts (.fieldLink RL 21 "SailorCandlesLaw$Sim" "trust" "[I") (List.mem_of_getElem? (i := 3) rfl)
  have hf25 := hts (.fieldLink RL 25 "SailorCandlesLaw$Sim" "sailors" "[[I") (List.mem_of_getElem? (i := 4) rfl)
  refine lv_aload_n hx hb dL_act_0 rfl (lv_at hl 1 rfl) ?_
  refine k_get (ci := 3) (v := .ref (P.1 1)) (C := RX3) (T := TX3) (N := 7) hx hb hown hK hw hts hinX3 21 rfl rfl 3 (by decide) hf9 rfl dL_act_1 ?_
  refine k_lenQ (n := v_ns) hx hb hK hw 22 rfl dL_act_4 ?_
  refine lv_if_ne (tgt := 12) hx hb dL_act_5 (by decide) (fun _ => ?_) (fun q8 => absurd q8 (bl_ne h0s (by omega)))
  refine lv_iload_n hx hb dL_act_12 rfl (lv_at hl 2 rfl) ?_
  refine lv_iconst (v := 4) hx hb dL_act_13 (by decide) ?_
  refine lv_ishr hx hb dL_act_14 ?_
  refine lv_aload_n hx hb dL_act_15 rfl (lv_at hl 1 rfl) ?_
  refine k_get (ci := 3) (v := .ref (P.1 1)) (C := RX3) (T := TX3) (N := 7) hx hb hown hK hw hts hinX3 21 rfl rfl 3 (by decide) hf9 rfl dL_act_16 ?_
  refine k_lenQ (n := v_ns) hx hb hK hw 22 rfl dL_act_19 ?_
  refine kr_i (ws' := wX x A T B ++ wC E A (B 0) S ++ wC E T (B 0) U ++ wG E B G ++ wS E q P (mkS v_ni v_wa v_un v_ns v_np v_nw v_ng v_ma v_st v_ou v_ru v_so v_mt v_vo v_gi v_ca v_tr v_sw v_ss v_sg)) (va_runS (As := [.int (z >>> ((4 : Int32) &&& 31)), .int (nI v_ns)]) (rest := []) ⟨hx, hb, hml, hown, hts⟩ (c_L_below l E (z >>> ((4 : Int32) &&& 31)) v_ns (h0s) ((by omega)) _) (va_cwS 2 hts gL_act_L_below rfl rfl rfl hd_L_below ⟨Nat.le_of_ble_eq_true rfl, Nat.le_of_ble_eq_true rfl⟩) (rpS (AV := [.int (z >>> ((4 : Int32) &&& 31)), .int (nI v_ns)]) hw hK hG rp_78) rfl rfl hl.1 rfl (lv_room (Nat.le_of_ble_eq_true rfl)) dL_act_20 ⟨Nat.le_of_ble_eq_true rfl, Nat.le_of_ble_eq_true rfl⟩) hw hA rp_78 (fun H locs hw => ?_)
  refine lv_istore_n (lv' := [(3, .int (nI (bl (z >>> ((4 : Int32) &&& 31)) v_ns))), (0, .ref x), (1, .ref q), (2, .int z)]) hx hb dL_act_23 rfl hl (by decide) rfl (fun ls hl => ?_)
  refine lv_aload_n hx hb dL_act_24 rfl (lv_at hl 2 rfl) ?_
  refine k_get (ci := 3) (v := .ref (P.1 3)) (C := RX3) (T := TX3) (N := 7) hx hb hown hK hw hts hinX3 21 rfl rfl 5 (by decide) hf21 rfl dL_act_25 ?_
  refine k_lenI (n := v_nw) hx hb hK hw 24 rfl dL_act_28 ?_
  refine lv_if_ne (tgt := 36) hx hb dL_act_29 (by decide) (fun q8 => absurd (by rw [hbw]; rfl) q8) (fun _ => ?_)
  refine lv_iconst (v := 0) hx hb dL_act_32 (by decide) ?_
  refine lv_goto (tgt := 48) hx hb dL_act_33 (by decide) ?_
  refine lv_istore (lv' := [(4, .int 0), (3, .int (nI (bl (z >>> ((4 : Int32) &&& 31)) v_ns))), (0, .ref x), (1, .ref q), (2, .int z)]) hx hb dL_act_48 hl (by decide) rfl (fun ls hl => ?_)
  refine lv_aload_n hx hb dL_act_50 rfl (lv_at hl 3 rfl) ?_
  refine k_get (ci := 3) (v := .ref (P.1 2)) (C := RX3) (T := TX3) (N := 7) hx hb hown hK hw hts hinX3 21 rfl rfl 4 (by decide) hf25 rfl dL_act_51 ?_
  refine k_lenQ (n := v_np) hx hb hK hw 23 rfl dL_act_54 ?_
  refine lv_if_ne (tgt := 62) hx hb dL_act_55 (by decide) (fun _ => ?_) (fun q8 => absurd q8 (bl_ne hbp (by omega)))
  refine lv_iload_n hx hb dL_act_62 rfl (lv_at hl 4 rfl) ?_
  refine lv_iconst (v := 5) hx hb dL_act_63 (by decide) ?_
  refine lv_ishr hx hb dL_act_64 ?_
  refine lv_aload_n hx hb dL_act_65 rfl (lv_at hl 3 rfl) ?_
  refine k_get (ci := 3) (v := .ref (P.1 2)) (C := RX3) (T := TX3) (N := 7) hx hb hown hK hw hts hinX3 21 rfl rfl 4 (by decide) hf25 rfl dL_act_66 ?_
  refine k_lenQ (n := v_np) hx hb hK hw 23 rfl dL_act_69 ?_
  refine kr_i (ws' := wX x A T B ++ wC E A (B 0) S ++ wC E T (B 0) U ++ wG E B G ++ wS E q P (mkS v_ni v_wa v_un v_ns v_np v_nw v_ng v_ma v_st v_ou v_ru v_so v_mt v_vo v_gi v_ca v_tr v_sw v_ss v_sg)) (va_runS (As := [.int (z >>> ((5 : Int32) &&& 31)), .int (nI v_np)]) (rest := []) ⟨hx, hb, hml, hown, hts⟩ (c_L_below l E (z >>> ((5 : Int32) &&& 31)) v_np (hbp) ((by omega)) _) (va_cwS 2 hts gL_act_L_below rfl rfl rfl hd_L_below ⟨Nat.le_of_ble_eq_true rfl, Nat.le_of_ble_eq_true rfl⟩) (rpS (AV := [.int (z >>> ((5 : Int32) &&& 31)), .int (nI v_np)]) hw hK hG rp_78) rfl rfl hl.1 rfl (lv_room (Nat.le_of_ble_eq_true rfl)) dL_act_70 ⟨Nat.le_of_ble_eq_true rfl, Nat.le_of_ble_eq_true rfl⟩) hw hA rp_78 (fun H locs hw => ?_)
  refine lv_istore (lv' := [(5, .int (nI (bl (z >>> ((5 : Int32) &&& 31)) v_np))), (4, .int 0), (3, .int (nI (bl (z >>> ((4 : Int32) &&& 31)) v_ns))), (0, .ref x), (1, .ref q), (2, .int z)]) hx hb dL_act_73 hl (by decide) rfl (fun ls hl => ?_)
  refine lv_aload_n hx hb dL_act_75 rfl (lv_at hl 4 rfl) ?_
  refine k_get (ci := 3) (v := .ref (P.1 1)) (C := RX3) (T := TX3) (N := 7) hx hb hown hK hw hts hinX3 21 rfl rfl 3 (by decide) hf9 rfl dL_act_76 ?_
  refine k_lenQ (n := v_ns) hx hb hK hw 22 rfl dL_act_79 ?_
  refine lv_if_le (tgt := 100) hx hb dL_act_80 (by decide) (fun q8 => absurd q8 (nI_nle h0s (by omega))) (fun _ => ?_)
  refine lv_aload_n hx hb dL_act_83 rfl (lv_at hl 4 rfl) ?_
  refine lv_iload_n hx hb dL_act_84 rfl (lv_at hl 5 rfl) ?_
  refine lv_iload_n hx hb dL_act_85 rfl (lv_at hl 2 rfl) ?_
  refine lv_iload hx hb dL_act_86 (lv_at hl 1 rfl) ?_
  refine lv_iload hx hb dL_act_88 (lv_at hl 0 rfl) ?_
  refine kr_i (ws' := wX x A T B ++ wC E A (B 0) S ++ wC E T (B 0) U ++ wG E B G ++ wS E q P (mkS v_ni v_wa v_un v_ns v_np v_nw v_ng v_ma v_st v_ou v_ru v_so v_mt v_vo v_gi v_ca v_tr v_sw v_ss v_sg)) (va_runS (As := [.ref q, .int z, .int (nI (bl (z >>> ((4 : Int32) &&& 31)) v_ns)), .int 0, .int (nI (bl (z >>> ((5 : Int32) &&& 31)) v_np))]) (rest := []) ⟨hx, hb, hml, hown, hts⟩ (c_L_refused l E q P v_ni v_wa v_un v_ns v_np v_nw v_ng v_ma v_st v_ou v_ru v_so v_mt v_vo v_gi v_ca v_tr v_sw v_ss v_sg z (bl (z >>> ((4 : Int32) &&& 31)) v_ns) 0 (bl (z >>> ((5 : Int32) &&& 31)) v_np) hns hnp hnw hng hso hsw ((bl_lt h0s)) ((fun q9 => bl_lt q9)) _) (va_cwS 5 hts gL_act_L_refused rfl rfl rfl hd_L_refused ⟨Nat.le_of_ble_eq_true rfl, Nat.le_of_ble_eq_true rfl⟩) (rpS (AV := [.ref q, .int z, .int (nI (bl (z >>> ((4 : Int32) &&& 31)) v_ns)), .int 0, .int (nI (bl (z >>> ((5 : Int32) &&& 31)) v_np))]) hw hK hG rp_77) rfl rfl hl.1 rfl (lv_room (Nat.le_of_ble_eq_true rfl)) dL_act_90 ⟨Nat.le_of_ble_eq_true rfl, Nat.le_of_ble_eq_true rfl⟩) hw hA rp_77 (fun H locs hw => ?_)
  refine lv_if_eq (tgt := 100) hx hb dL_act_93 (by decide) (fun _ => ?_) (fun q8 => absurd (by rw [hbr]; rfl) q8)
  refine lv_iconst (v := 0) hx hb dL_act_100 (by decide) ?_
  refine lv_istore (lv' := [(6, .int 0), (5, .int (nI (bl (z >>> ((5 : Int32) &&& 31)) v_np))), (4, .int 0), (3, .int (nI (bl (z >>> ((4 : Int32) &&& 31)) v_ns))), (0, .ref x), (1, .ref q), (2, .int z)]) hx hb dL_act_101 hl (by decide) rfl (fun ls hl => ?_)
  refine lv_aload_n hx hb dL_act_103 rfl (lv_at hl 5 rfl) ?_
  refine k_get (ci := 3) (v := .ref (P.1 1)) (C := RX3) (T := TX3) (N := 7) hx hb hown hK hw hts hinX3 21 rfl rfl 3 (by decide) hf9 rfl dL_act_104 ?_
  refine k_lenQ (n := v_ns) hx hb hK hw 22 rfl dL_act_107 ?_
  refine lv_if_ne (tgt := 115) hx hb dL_act_108 (by decide) (fun _ => ?_) (fun q8 => absurd q8 (bl_ne h0s (by omega)))
  refine lv_iload_n hx hb dL_act_115 rfl (lv_at hl 6 rfl) ?_
  refine lv_bipush (v := 18) hx hb dL_act_116 (by decide) ?_
  refine kr_i (ws' := wX x A T B ++ wC E A (B 0) S ++ wC E T (B 0) U ++ wG E B G ++ wS E q P (mkS v_ni v_wa v_un v_ns v_np v_nw v_ng v_ma v_st v_ou v_ru v_so v_mt v_vo v_gi v_ca v_tr v_sw v_ss v_sg)) (va_runS (As := [.int z, .int 18]) (rest := []) ⟨hx, hb, hml, hown, hts⟩ (c_L_below l E z 18 ((by omega)) ((by omega)) _) (va_cwS 2 hts gL_act_L_below rfl rfl rfl hd_L_below ⟨Nat.le_of_ble_eq_true rfl, Nat.le_of_ble_eq_true rfl⟩) (rpS (AV := [.int z, .int 18]) hw hK hG rp_78) rfl rfl hl.1 rfl (lv_room (Nat.le_of_ble_eq_true rfl)) dL_act_118 ⟨Nat.le_of_ble_eq_true rfl, Nat.le_of_ble_eq_true rfl⟩) hw hA rp_78 (fun H locs hw => ?_)
  exact kk _ _ _ hw (lv_sub hl [4, 5, 6, 3, 2, 1, 0] rfl)

set_option maxHeartbeats 4000000 in
set_option maxRecDepth 100000 in
theorem ap_011 (l : Launch) (hflags : l.stackTraces = false) (E : Ev) {p9 : Program} {e : Env} {s9 : State} {m : MethodId} {args : Array Value} {below : List Frame} {meth : Method} {c : Code} {A9 : Nat → Prop} {H : Heap} {locs : List Loc} {ls : Array Slot} {Q : State → Prop} (hC : Cx E yL_act.cls cL_act 12 (some .boolean) wsL_act p9 s9 m args meth c A9) (ht9 : c.exceptionTable.toList = tableOf [(103, 217, 1043, 94), (218, 270, 1043, 94), (271, 322, 1043, 94), (323, 391, 1043, 94), (392, 403, 1043, 94), (404, 478, 1043, 94), (479, 537, 1043, 94), (538, 550, 1043, 94), (551, 656, 1043, 94), (657, 669, 1043, 94), (670, 774, 1043, 94), (775, 784, 1043, 94), (785, 799, 1043, 94), (800, 877, 1043, 94), (878, 887, 1043, 94), (888, 930, 1043, 94), (931, 970, 1043, 94), (971, 1042, 1043, 94)]) (hZ : Zx A9 s9 s9.heap) (x : Nat) (A T B : Nat → Nat) (S U : CS) (G : HS) (q : Nat) (P : AP) (v_ni v_wa v_un : Int32) (v_ns v_np v_nw v_ng : Nat) (v_ma v_st v_ou v_ru : Fn) (v_so : FnN) (v_mt v_vo v_gi v_ca v_tr : Fn) (v_sw v_ss : FnN) (v_sg : Fn) (z : Int32) (hns : v_ns ≤ 5) (hnp : v_np ≤ 16) (hnw : v_nw ≤ 4) (hng : v_ng ≤ 20) (hso : ∀ p, p < v_np → v_so p < v_ns) (hsw : ∀ j, j < v_ng → v_sw j < v_nw) (h0s : 0 < v_ns) (hbw : v_nw = 0) (hbp : 0 < v_np) (hbr : f_ref v_ns v_np v_nw v_ng v_st v_vo v_so v_sw v_ss z (bl (z >>> ((4 : Int32) &&& 31)) v_ns) (0) (bl (z >>> ((5 : Int32) &&& 31)) v_np) = true) (kk : ∀ (H : Heap) (locs : List Loc) (ls : Array Slot), Wd E A9 s9.heap (wX x A T B ++ wC E A (B 0) S ++ wC E T (B 0) U ++ wG E B G ++ wS E q P (mkS v_ni v_wa v_un v_ns v_np v_nw v_ng v_ma v_st v_ou v_ru v_so v_mt v_vo v_gi v_ca v_tr v_sw v_ss v_sg)) H locs → lv_has ls 12 [(0, .ref x), (1, .ref q), (2, .int z), (3, .int (nI (bl (z >>> ((4 : Int32) &&& 31)) v_ns))), (4, .int 0), (5, .int (nI (bl (z >>> ((5 : Int32) &&& 31)) v_np))), (6, .int 1)] → W p9 l e rm_L_act s9 m args below meth c H locs 0 0 Q (F0 m 121 ls [.int (nI (bl z 18))])) (hw : Wd E A9 s9.heap (wX x A T B ++ wC E A (B 0) S ++ wC E T (B 0) U ++ wG E B G ++ wS E q P (mkS v_ni v_wa v_un v_ns v_np v_nw v_ng v_ma v_st v_ou v_ru v_so v_mt v_vo v_gi v_ca v_tr v_sw v_ss v_sg)) H locs) (hl : lv_has ls 12 [(0, .ref x), (1, .ref q), (2, .int z)]) : W p9 l e rm_L_act s9 m args below meth c H locs 0 0 Q (F0 m 0 ls []) := by
  obtain ⟨hx, hb, hml, hr, hown, hts, hlocks, hK, hG, hA⟩ := hC
  have hf9 := hts (.fieldLink RL 9 "SailorCandlesLaw$Sim" "ships" "[[I") (List.mem_of_getElem? (i := 2) rfl)
  have hinX3 : ∀ w ∈ wsX30, w ∈ wsL_act := fun w h => List.mem_cons_of_mem _ (List.mem_append_left _ (List.mem_append_left _ (List.mem_append_left _ (List.mem_append_left _ (List.mem_append_left _ (List.mem_append_left _ (List.mem_append_right _ h)))))))
  have hf21 := hts (.fieldLink RL 21 "SailorCandlesLaw$Sim" "trust" "[I") (List.mem_of_getElem? (i := 3) rfl)
  have hf25 := hts (.fieldLink RL 25 "SailorCandlesLaw$Sim" "sailors" "[[I") (List.mem_of_getElem? (i := 4) rfl)
  refine lv_aload_n hx hb dL_act_0 rfl (lv_at hl 1 rfl) ?_
  refine k_get (ci := 3) (v := .ref (P.1 1)) (C := RX3) (T := TX3) (N := 7) hx hb hown hK hw hts hinX3 21 rfl rfl 3 (by decide) hf9 rfl dL_act_1 ?_
  refine k_lenQ (n := v_ns) hx hb hK hw 22 rfl dL_act_4 ?_
  refine lv_if_ne (tgt := 12) hx hb dL_act_5 (by decide) (fun _ => ?_) (fun q8 => absurd q8 (bl_ne h0s (by omega)))
  refine lv_iload_n hx hb dL_act_12 rfl (lv_at hl 2 rfl) ?_
  refine lv_iconst (v := 4) hx hb dL_act_13 (by decide) ?_
  refine lv_ishr hx hb dL_act_14 ?_
  refine lv_aload_n hx hb dL_act_15 rfl (lv_at hl 1 rfl) ?_
  refine k_get (ci := 3) (v := .ref (P.1 1)) (C := RX3) (T := TX3) (N := 7) hx hb hown hK hw hts hinX3 21 rfl rfl 3 (by decide) hf9 rfl dL_act_16 ?_
  refine k_lenQ (n := v_ns) hx hb hK hw 22 rfl dL_act_19 ?_
  refine kr_i (ws' := wX x A T B ++ wC E A (B 0) S ++ wC E T (B 0) U ++ wG E B G ++ wS E q P (mkS v_ni v_wa v_un v_ns v_np v_nw v_ng v_ma v_st v_ou v_ru v_so v_mt v_vo v_gi v_ca v_tr v_sw v_ss v_sg)) (va_runS (As := [.int (z >>> ((4 : Int32) &&& 31)), .int (nI v_ns)]) (rest := []) ⟨hx, hb, hml, hown, hts⟩ (c_L_below l E (z >>> ((4 : Int32) &&& 31)) v_ns (h0s) ((by omega)) _) (va_cwS 2 hts gL_act_L_below rfl rfl rfl hd_L_below ⟨Nat.le_of_ble_eq_true rfl, Nat.le_of_ble_eq_true rfl⟩) (rpS (AV := [.int (z >>> ((4 : Int32) &&& 31)), .int (nI v_ns)]) hw hK hG rp_78) rfl rfl hl.1 rfl (lv_room (Nat.le_of_ble_eq_true rfl)) dL_act_20 ⟨Nat.le_of_ble_eq_true rfl, Nat.le_of_ble_eq_true rfl⟩) hw hA rp_78 (fun H locs hw => ?_)
  refine lv_istore_n (lv' := [(3, .int (nI (bl (z >>> ((4 : Int32) &&& 31)) v_ns))), (0, .ref x), (1, .ref q), (2, .int z)]) hx hb dL_act_23 rfl hl (by decide) rfl (fun ls hl => ?_)
  refine lv_aload_n hx hb dL_act_24 rfl (lv_at hl 2 rfl) ?_
  refine k_get (ci := 3) (v := .ref (P.1 3)) (C := RX3) (T := TX3) (N := 7) hx hb hown hK hw hts hinX3 21 rfl rfl 5 (by decide) hf21 rfl dL_act_25 ?_
  refine k_lenI (n := v_nw) hx hb hK hw 24 rfl dL_act_28 ?_
  refine lv_if_ne (tgt := 36) hx hb dL_act_29 (by decide) (fun q8 => absurd (by rw [hbw]; rfl) q8) (fun _ => ?_)
  refine lv_iconst (v := 0) hx hb dL_act_32 (by decide) ?_
  refine lv_goto (tgt := 48) hx hb dL_act_33 (by decide) ?_
  refine lv_istore (lv' := [(4, .int 0), (3, .int (nI (bl (z >>> ((4 : Int32) &&& 31)) v_ns))), (0, .ref x), (1, .ref q), (2, .int z)]) hx hb dL_act_48 hl (by decide) rfl (fun ls hl => ?_)
  refine lv_aload_n hx hb dL_act_50 rfl (lv_at hl 3 rfl) ?_
  refine k_get (ci := 3) (v := .ref (P.1 2)) (C := RX3) (T := TX3) (N := 7) hx hb hown hK hw hts hinX3 21 rfl rfl 4 (by decide) hf25 rfl dL_act_51 ?_
  refine k_lenQ (n := v_np) hx hb hK hw 23 rfl dL_act_54 ?_
  refine lv_if_ne (tgt := 62) hx hb dL_act_55 (by decide) (fun _ => ?_) (fun q8 => absurd q8 (bl_ne hbp (by omega)))
  refine lv_iload_n hx hb dL_act_62 rfl (lv_at hl 4 rfl) ?_
  refine lv_iconst (v := 5) hx hb dL_act_63 (by decide) ?_
  refine lv_ishr hx hb dL_act_64 ?_
  refine lv_aload_n hx hb dL_act_65 rfl (lv_at hl 3 rfl) ?_
  refine k_get (ci := 3) (v := .ref (P.1 2)) (C := RX3) (T := TX3) (N := 7) hx hb hown hK hw hts hinX3 21 rfl rfl 4 (by decide) hf25 rfl dL_act_66 ?_
  refine k_lenQ (n := v_np) hx hb hK hw 23 rfl dL_act_69 ?_
  refine kr_i (ws' := wX x A T B ++ wC E A (B 0) S ++ wC E T (B 0) U ++ wG E B G ++ wS E q P (mkS v_ni v_wa v_un v_ns v_np v_nw v_ng v_ma v_st v_ou v_ru v_so v_mt v_vo v_gi v_ca v_tr v_sw v_ss v_sg)) (va_runS (As := [.int (z >>> ((5 : Int32) &&& 31)), .int (nI v_np)]) (rest := []) ⟨hx, hb, hml, hown, hts⟩ (c_L_below l E (z >>> ((5 : Int32) &&& 31)) v_np (hbp) ((by omega)) _) (va_cwS 2 hts gL_act_L_below rfl rfl rfl hd_L_below ⟨Nat.le_of_ble_eq_true rfl, Nat.le_of_ble_eq_true rfl⟩) (rpS (AV := [.int (z >>> ((5 : Int32) &&& 31)), .int (nI v_np)]) hw hK hG rp_78) rfl rfl hl.1 rfl (lv_room (Nat.le_of_ble_eq_true rfl)) dL_act_70 ⟨Nat.le_of_ble_eq_true rfl, Nat.le_of_ble_eq_true rfl⟩) hw hA rp_78 (fun H locs hw => ?_)
  refine lv_istore (lv' := [(5, .int (nI (bl (z >>> ((5 : Int32) &&& 31)) v_np))), (4, .int 0), (3, .int (nI (bl (z >>> ((4 : Int32) &&& 31)) v_ns))), (0, .ref x), (1, .ref q), (2, .int z)]) hx hb dL_act_73 hl (by decide) rfl (fun ls hl => ?_)
  refine lv_aload_n hx hb dL_act_75 rfl (lv_at hl 4 rfl) ?_
  refine k_get (ci := 3) (v := .ref (P.1 1)) (C := RX3) (T := TX3) (N := 7) hx hb hown hK hw hts hinX3 21 rfl rfl 3 (by decide) hf9 rfl dL_act_76 ?_
  refine k_lenQ (n := v_ns) hx hb hK hw 22 rfl dL_act_79 ?_
  refine lv_if_le (tgt := 100) hx hb dL_act_80 (by decide) (fun q8 => absurd q8 (nI_nle h0s (by omega))) (fun _ => ?_)
  refine lv_aload_n hx hb dL_act_83 rfl (lv_at hl 4 rfl) ?_
  refine lv_iload_n hx hb dL_act_84 rfl (lv_at hl 5 rfl) ?_
  refine lv_iload_n hx hb dL_act_85 rfl (lv_at hl 2 rfl) ?_
  refine lv_iload hx hb dL_act_86 (lv_at hl 1 rfl) ?_
  refine lv_iload hx hb dL_act_88 (lv_at hl 0 rfl) ?_
  refine kr_i (ws' := wX x A T B ++ wC E A (B 0) S ++ wC E T (B 0) U ++ wG E B G ++ wS E q P (mkS v_ni v_wa v_un v_ns v_np v_nw v_ng v_ma v_st v_ou v_ru v_so v_mt v_vo v_gi v_ca v_tr v_sw v_ss v_sg)) (va_runS (As := [.ref q, .int z, .int (nI (bl (z >>> ((4 : Int32) &&& 31)) v_ns)), .int 0, .int (nI (bl (z >>> ((5 : Int32) &&& 31)) v_np))]) (rest := []) ⟨hx, hb, hml, hown, hts⟩ (c_L_refused l E q P v_ni v_wa v_un v_ns v_np v_nw v_ng v_ma v_st v_ou v_ru v_so v_mt v_vo v_gi v_ca v_tr v_sw v_ss v_sg z (bl (z >>> ((4 : Int32) &&& 31)) v_ns) 0 (bl (z >>> ((5 : Int32) &&& 31)) v_np) hns hnp hnw hng hso hsw ((bl_lt h0s)) ((fun q9 => bl_lt q9)) _) (va_cwS 5 hts gL_act_L_refused rfl rfl rfl hd_L_refused ⟨Nat.le_of_ble_eq_true rfl, Nat.le_of_ble_eq_true rfl⟩) (rpS (AV := [.ref q, .int z, .int (nI (bl (z >>> ((4 : Int32) &&& 31)) v_ns)), .int 0, .int (nI (bl (z >>> ((5 : Int32) &&& 31)) v_np))]) hw hK hG rp_77) rfl rfl hl.1 rfl (lv_room (Nat.le_of_ble_eq_true rfl)) dL_act_90 ⟨Nat.le_of_ble_eq_true rfl, Nat.le_of_ble_eq_true rfl⟩) hw hA rp_77 (fun H locs hw => ?_)
  refine lv_if_eq (tgt := 100) hx hb dL_act_93 (by decide) (fun q8 => absurd q8 (fun q7 => absurd (hbr.symm.trans (bI_z q7)) (by decide))) (fun _ => ?_)
  refine lv_iconst (v := 1) hx hb dL_act_96 (by decide) ?_
  refine lv_goto (tgt := 101) hx hb dL_act_97 (by decide) ?_
  refine lv_istore (lv' := [(6, .int 1), (5, .int (nI (bl (z >>> ((5 : Int32) &&& 31)) v_np))), (4, .int 0), (3, .int (nI (bl (z >>> ((4 : Int32) &&& 31)) v_ns))), (0, .ref x), (1, .ref q), (2, .int z)]) hx hb dL_act_101 hl (by decide) rfl (fun ls hl => ?_)
  refine lv_aload_n hx hb dL_act_103 rfl (lv_at hl 5 rfl) ?_
  refine k_get (ci := 3) (v := .ref (P.1 1)) (C := RX3) (T := TX3) (N := 7) hx hb hown hK hw hts hinX3 21 rfl rfl 3 (by decide) hf9 rfl dL_act_104 ?_
  refine k_lenQ (n := v_ns) hx hb hK hw 22 rfl dL_act_107 ?_
  refine lv_if_ne (tgt := 115) hx hb dL_act_108 (by decide) (fun _ => ?_) (fun q8 => absurd q8 (bl_ne h0s (by omega)))
  refine lv_iload_n hx hb dL_act_115 rfl (lv_at hl 6 rfl) ?_
  refine lv_bipush (v := 18) hx hb dL_act_116 (by decide) ?_
  refine kr_i (ws' := wX x A T B ++ wC E A (B 0) S ++ wC E T (B 0) U ++ wG E B G ++ wS E q P (mkS v_ni v_wa v_un v_ns v_np v_nw v_ng v_ma v_st v_ou v_ru v_so v_mt v_vo v_gi v_ca v_tr v_sw v_ss v_sg)) (va_runS (As := [.int z, .int 18]) (rest := []) ⟨hx, hb, hml, hown, hts⟩ (c_L_below l E z 18 ((by omega)) ((by omega)) _) (va_cwS 2 hts gL_act_L_below rfl rfl rfl hd_L_below ⟨Nat.le_of_ble_eq_true rfl, Nat.le_of_ble_eq_true rfl⟩) (rpS (AV := [.int z, .int 18]) hw hK hG rp_78) rfl rfl hl.1 rfl (lv_room (Nat.le_of_ble_eq_true rfl)) dL_act_118 ⟨Nat.le_of_ble_eq_true rfl, Nat.le_of_ble_eq_true rfl⟩) hw hA rp_78 (fun H locs hw => ?_)
  exact kk _ _ _ hw (lv_sub hl [4, 5, 6, 3, 2, 1, 0] rfl)

set_option maxHeartbeats 4000000 in
set_option maxRecDepth 100000 in
theorem ap_100 (l : Launch) (hflags : l.stackTraces = false) (E : Ev) {p9 : Program} {e : Env} {s9 : State} {m : MethodId} {args : Array Value} {below : List Frame} {meth : Method} {c : Code} {A9 : Nat → Prop} {H : Heap} {locs : List Loc} {ls : Array Slot} {Q : State → Prop} (hC : Cx E yL_act.cls cL_act 12 (some .boolean) wsL_act p9 s9 m args meth c A9) (ht9 : c.exceptionTable.toList = tableOf [(103, 217, 1043, 94), (218, 270, 1043, 94), (271, 322, 1043, 94), (323, 391, 1043, 94), (392, 403, 1043, 94), (404, 478, 1043, 94), (479, 537, 1043, 94), (538, 550, 1043, 94), (551, 656, 1043, 94), (657, 669, 1043, 94), (670, 774, 1043, 94), (775, 784, 1043, 94), (785, 799, 1043, 94), (800, 877, 1043, 94), (878, 887, 1043, 94), (888, 930, 1043, 94), (931, 970, 1043, 94), (971, 1042, 1043, 94)]) (hZ : Zx A9 s9 s9.heap) (x : Nat) (A T B : Nat → Nat) (S U : CS) (G : HS) (q : Nat) (P : AP) (v_ni v_wa v_un : Int32) (v_ns v_np v_nw v_ng : Nat) (v_ma v_st v_ou v_ru : Fn) (v_so : FnN) (v_mt v_vo v_gi v_ca v_tr : Fn) (v_sw v_ss : FnN) (v_sg : Fn) (z : Int32) (hns : v_ns ≤ 5) (hnp : v_np ≤ 16) (hnw : v_nw ≤ 4) (hng : v_ng ≤ 20) (hso : ∀ p, p < v_np → v_so p < v_ns) (hsw : ∀ j, j < v_ng → v_sw j < v_nw) (h0s : 0 < v_ns) (hbw : 0 < v_nw) (hbp : v_np = 0) (hbr : f_ref v_ns v_np v_nw v_ng v_st v_vo v_so v_sw v_ss z (bl (z >>> ((4 : Int32) &&& 31)) v_ns) (bl (z >>> ((6 : Int32) &&& 31)) v_nw) (0) = false) (kk : ∀ (H : Heap) (locs : List Loc) (ls : Array Slot), Wd E A9 s9.heap (wX x A T B ++ wC E A (B 0) S ++ wC E T (B 0) U ++ wG E B G ++ wS E q P (mkS v_ni v_wa v_un v_ns v_np v_nw v_ng v_ma v_st v_ou v_ru v_so v_mt v_vo v_gi v_ca v_tr v_sw v_ss v_sg)) H locs → lv_has ls 12 [(0, .ref x), (1, .ref q), (2, .int z), (3, .int (nI (bl (z >>> ((4 : Int32) &&& 31)) v_ns))), (4, .int (nI (bl (z >>> ((6 : Int32) &&& 31)) v_nw))), (5, .int 0), (6, .int 0)] → W p9 l e rm_L_act s9 m args below meth c H locs 0 0 Q (F0 m 121 ls [.int (nI (bl z 18))])) (hw : Wd E A9 s9.heap (wX x A T B ++ wC E A (B 0) S ++ wC E T (B 0) U ++ wG E B G ++ wS E q P (mkS v_ni v_wa v_un v_ns v_np v_nw v_ng v_ma v_st v_ou v_ru v_so v_mt v_vo v_gi v_ca v_tr v_sw v_ss v_sg)) H locs) (hl : lv_has ls 12 [(0, .ref x), (1, .ref q), (2, .int z)]) : W p9 l e rm_L_act s9 m args below meth c H locs 0 0 Q (F0 m 0 ls []) := by
  obtain ⟨hx, hb, hml, hr, hown, hts, hlocks, hK, hG, hA⟩ := hC
  have hf9 := hts (.fieldLink RL 9 "SailorCandlesLaw$Sim" "ships" "[[I") (List.mem_of_getElem? (i := 2) rfl)
  have hinX3 : ∀ w ∈ wsX30, w ∈ wsL_act := fun w h => List.mem_cons_of_mem _ (List.mem_append_left _ (List.mem_append_left _ (List.mem_append_left _ (List.mem_append_left _ (List.mem_append_left _ (List.mem_append_left _ (List.mem_append_right _ h)))))))
  have hf21 := hts (.fieldLink RL 21 "SailorCandlesLaw$Sim" "trust" "[I") (List.mem_of_getElem? (i := 3) rfl)
  have hf25 := hts (.fieldLink RL 25 "SailorCandlesLaw$Sim" "sailors" "[[I") (List.mem_of_getElem? (i := 4) rfl)
  refine lv_aload_n hx hb dL_act_0 rfl (lv_at hl 1 rfl) ?_
  refine k_get (ci := 3) (v := .ref (P.1 1)) (C := RX3) (T := TX3) (N := 7) hx hb hown hK hw hts hinX3 21 rfl rfl 3 (by decide) hf9 rfl dL_act_1 ?_
  refine k_lenQ (n := v_ns) hx hb hK hw 22 rfl dL_act_4 ?_
  refine lv_if_ne (tgt := 12) hx hb dL_act_5 (by decide) (fun _ => ?_) (fun q8 => absurd q8 (bl_ne h0s (by omega)))
  refine lv_iload_n hx hb dL_act_12 rfl (lv_at hl 2 rfl) ?_
  refine lv_iconst (v := 4) hx hb dL_act_13 (by decide) ?_
  refine lv_ishr hx hb dL_act_14 ?_
  refine lv_aload_n hx hb dL_act_15 rfl (lv_at hl 1 rfl) ?_
  refine k_get (ci := 3) (v := .ref (P.1 1)) (C := RX3) (T := TX3) (N := 7) hx hb hown hK hw hts hinX3 21 rfl rfl 3 (by decide) hf9 rfl dL_act_16 ?_
  refine k_lenQ (n := v_ns) hx hb hK hw 22 rfl dL_act_19 ?_
  refine kr_i (ws' := wX x A T B ++ wC E A (B 0) S ++ wC E T (B 0) U ++ wG E B G ++ wS E q P (mkS v_ni v_wa v_un v_ns v_np v_nw v_ng v_ma v_st v_ou v_ru v_so v_mt v_vo v_gi v_ca v_tr v_sw v_ss v_sg)) (va_runS (As := [.int (z >>> ((4 : Int32) &&& 31)), .int (nI v_ns)]) (rest := []) ⟨hx, hb, hml, hown, hts⟩ (c_L_below l E (z >>> ((4 : Int32) &&& 31)) v_ns (h0s) ((by omega)) _) (va_cwS 2 hts gL_act_L_below rfl rfl rfl hd_L_below ⟨Nat.le_of_ble_eq_true rfl, Nat.le_of_ble_eq_true rfl⟩) (rpS (AV := [.int (z >>> ((4 : Int32) &&& 31)), .int (nI v_ns)]) hw hK hG rp_78) rfl rfl hl.1 rfl (lv_room (Nat.le_of_ble_eq_true rfl)) dL_act_20 ⟨Nat.le_of_ble_eq_true rfl, Nat.le_of_ble_eq_true rfl⟩) hw hA rp_78 (fun H locs hw => ?_)
  refine lv_istore_n (lv' := [(3, .int (nI (bl (z >>> ((4 : Int32) &&& 31)) v_ns))), (0, .ref x), (1, .ref q), (2, .int z)]) hx hb dL_act_23 rfl hl (by decide) rfl (fun ls hl => ?_)
  refine lv_aload_n hx hb dL_act_24 rfl (lv_at hl 2 rfl) ?_
  refine k_get (ci := 3) (v := .ref (P.1 3)) (C := RX3) (T := TX3) (N := 7) hx hb hown hK hw hts hinX3 21 rfl rfl 5 (by decide) hf21 rfl dL_act_25 ?_
  refine k_lenI (n := v_nw) hx hb hK hw 24 rfl dL_act_28 ?_
  refine lv_if_ne (tgt := 36) hx hb dL_act_29 (by decide) (fun _ => ?_) (fun q8 => absurd q8 (bl_ne hbw (by omega)))
  refine lv_iload_n hx hb dL_act_36 rfl (lv_at hl 3 rfl) ?_
  refine lv_bipush (v := 6) hx hb dL_act_37 (by decide) ?_
  refine lv_ishr hx hb dL_act_39 ?_
  refine lv_aload_n hx hb dL_act_40 rfl (lv_at hl 2 rfl) ?_
  refine k_get (ci := 3) (v := .ref (P.1 3)) (C := RX3) (T := TX3) (N := 7) hx hb hown hK hw hts hinX3 21 rfl rfl 5 (by decide) hf21 rfl dL_act_41 ?_
  refine k_lenI (n := v_nw) hx hb hK hw 24 rfl dL_act_44 ?_
  refine kr_i (ws' := wX x A T B ++ wC E A (B 0) S ++ wC E T (B 0) U ++ wG E B G ++ wS E q P (mkS v_ni v_wa v_un v_ns v_np v_nw v_ng v_ma v_st v_ou v_ru v_so v_mt v_vo v_gi v_ca v_tr v_sw v_ss v_sg)) (va_runS (As := [.int (z >>> ((6 : Int32) &&& 31)), .int (nI v_nw)]) (rest := []) ⟨hx, hb, hml, hown, hts⟩ (c_L_below l E (z >>> ((6 : Int32) &&& 31)) v_nw (hbw) ((by omega)) _) (va_cwS 2 hts gL_act_L_below rfl rfl rfl hd_L_below ⟨Nat.le_of_ble_eq_true rfl, Nat.le_of_ble_eq_true rfl⟩) (rpS (AV := [.int (z >>> ((6 : Int32) &&& 31)), .int (nI v_nw)]) hw hK hG rp_78) rfl rfl hl.1 rfl (lv_room (Nat.le_of_ble_eq_true rfl)) dL_act_45 ⟨Nat.le_of_ble_eq_true rfl, Nat.le_of_ble_eq_true rfl⟩) hw hA rp_78 (fun H locs hw => ?_)
  refine lv_istore (lv' := [(4, .int (nI (bl (z >>> ((6 : Int32) &&& 31)) v_nw))), (3, .int (nI (bl (z >>> ((4 : Int32) &&& 31)) v_ns))), (0, .ref x), (1, .ref q), (2, .int z)]) hx hb dL_act_48 hl (by decide) rfl (fun ls hl => ?_)
  refine lv_aload_n hx hb dL_act_50 rfl (lv_at hl 3 rfl) ?_
  refine k_get (ci := 3) (v := .ref (P.1 2)) (C := RX3) (T := TX3) (N := 7) hx hb hown hK hw hts hinX3 21 rfl rfl 4 (by decide) hf25 rfl dL_act_51 ?_
  refine k_lenQ (n := v_np) hx hb hK hw 23 rfl dL_act_54 ?_
  refine lv_if_ne (tgt := 62) hx hb dL_act_55 (by decide) (fun q8 => absurd (by rw [hbp]; rfl) q8) (fun _ => ?_)
  refine lv_iconst (v := 0) hx hb dL_act_58 (by decide) ?_
  refine lv_goto (tgt := 73) hx hb dL_act_59 (by decide) ?_
  refine lv_istore (lv' := [(5, .int 0), (4, .int (nI (bl (z >>> ((6 : Int32) &&& 31)) v_nw))), (3, .int (nI (bl (z >>> ((4 : Int32) &&& 31)) v_ns))), (0, .ref x), (1, .ref q), (2, .int z)]) hx hb dL_act_73 hl (by decide) rfl (fun ls hl => ?_)
  refine lv_aload_n hx hb dL_act_75 rfl (lv_at hl 4 rfl) ?_
  refine k_get (ci := 3) (v := .ref (P.1 1)) (C := RX3) (T := TX3) (N := 7) hx hb hown hK hw hts hinX3 21 rfl rfl 3 (by decide) hf9 rfl dL_act_76 ?_
  refine k_lenQ (n := v_ns) hx hb hK hw 22 rfl dL_act_79 ?_
  refine lv_if_le (tgt := 100) hx hb dL_act_80 (by decide) (fun q8 => absurd q8 (nI_nle h0s (by omega))) (fun _ => ?_)
  refine lv_aload_n hx hb dL_act_83 rfl (lv_at hl 4 rfl) ?_
  refine lv_iload_n hx hb dL_act_84 rfl (lv_at hl 5 rfl) ?_
  refine lv_iload_n hx hb dL_act_85 rfl (lv_at hl 2 rfl) ?_
  refine lv_iload hx hb dL_act_86 (lv_at hl 1 rfl) ?_
  refine lv_iload hx hb dL_act_88 (lv_at hl 0 rfl) ?_
  refine kr_i (ws' := wX x A T B ++ wC E A (B 0) S ++ wC E T (B 0) U ++ wG E B G ++ wS E q P (mkS v_ni v_wa v_un v_ns v_np v_nw v_ng v_ma v_st v_ou v_ru v_so v_mt v_vo v_gi v_ca v_tr v_sw v_ss v_sg)) (va_runS (As := [.ref q, .int z, .int (nI (bl (z >>> ((4 : Int32) &&& 31)) v_ns)), .int (nI (bl (z >>> ((6 : Int32) &&& 31)) v_nw)), .int 0]) (rest := []) ⟨hx, hb, hml, hown, hts⟩ (c_L_refused l E q P v_ni v_wa v_un v_ns v_np v_nw v_ng v_ma v_st v_ou v_ru v_so v_mt v_vo v_gi v_ca v_tr v_sw v_ss v_sg z (bl (z >>> ((4 : Int32) &&& 31)) v_ns) (bl (z >>> ((6 : Int32) &&& 31)) v_nw) 0 hns hnp hnw hng hso hsw ((bl_lt h0s)) ((fun q9 => by omega)) _) (va_cwS 5 hts gL_act_L_refused rfl rfl rfl hd_L_refused ⟨Nat.le_of_ble_eq_true rfl, Nat.le_of_ble_eq_true rfl⟩) (rpS (AV := [.ref q, .int z, .int (nI (bl (z >>> ((4 : Int32) &&& 31)) v_ns)), .int (nI (bl (z >>> ((6 : Int32) &&& 31)) v_nw)), .int 0]) hw hK hG rp_77) rfl rfl hl.1 rfl (lv_room (Nat.le_of_ble_eq_true rfl)) dL_act_90 ⟨Nat.le_of_ble_eq_true rfl, Nat.le_of_ble_eq_true rfl⟩) hw hA rp_77 (fun H locs hw => ?_)
  refine lv_if_eq (tgt := 100) hx hb dL_act_93 (by decide) (fun _ => ?_) (fun q8 => absurd (by rw [hbr]; rfl) q8)
  refine lv_iconst (v := 0) hx hb dL_act_100 (by decide) ?_
  refine lv_istore (lv' := [(6, .int 0), (5, .int 0), (4, .int (nI (bl (z >>> ((6 : Int32) &&& 31)) v_nw))), (3, .int (nI (bl (z >>> ((4 : Int32) &&& 31)) v_ns))), (0, .ref x), (1, .ref q), (2, .int z)]) hx hb dL_act_101 hl (by decide) rfl (fun ls hl => ?_)
  refine lv_aload_n hx hb dL_act_103 rfl (lv_at hl 5 rfl) ?_
  refine k_get (ci := 3) (v := .ref (P.1 1)) (C := RX3) (T := TX3) (N := 7) hx hb hown hK hw hts hinX3 21 rfl rfl 3 (by decide) hf9 rfl dL_act_104 ?_
  refine k_lenQ (n := v_ns) hx hb hK hw 22 rfl dL_act_107 ?_
  refine lv_if_ne (tgt := 115) hx hb dL_act_108 (by decide) (fun _ => ?_) (fun q8 => absurd q8 (bl_ne h0s (by omega)))
  refine lv_iload_n hx hb dL_act_115 rfl (lv_at hl 6 rfl) ?_
  refine lv_bipush (v := 18) hx hb dL_act_116 (by decide) ?_
  refine kr_i (ws' := wX x A T B ++ wC E A (B 0) S ++ wC E T (B 0) U ++ wG E B G ++ wS E q P (mkS v_ni v_wa v_un v_ns v_np v_nw v_ng v_ma v_st v_ou v_ru v_so v_mt v_vo v_gi v_ca v_tr v_sw v_ss v_sg)) (va_runS (As := [.int z, .int 18]) (rest := []) ⟨hx, hb, hml, hown, hts⟩ (c_L_below l E z 18 ((by omega)) ((by omega)) _) (va_cwS 2 hts gL_act_L_below rfl rfl rfl hd_L_below ⟨Nat.le_of_ble_eq_true rfl, Nat.le_of_ble_eq_true rfl⟩) (rpS (AV := [.int z, .int 18]) hw hK hG rp_78) rfl rfl hl.1 rfl (lv_room (Nat.le_of_ble_eq_true rfl)) dL_act_118 ⟨Nat.le_of_ble_eq_true rfl, Nat.le_of_ble_eq_true rfl⟩) hw hA rp_78 (fun H locs hw => ?_)
  exact kk _ _ _ hw (lv_sub hl [4, 5, 6, 3, 2, 1, 0] rfl)

set_option maxHeartbeats 4000000 in
set_option maxRecDepth 100000 in
theorem ap_101 (l : Launch) (hflags : l.stackTraces = false) (E : Ev) {p9 : Program} {e : Env} {s9 : State} {m : MethodId} {args : Array Value} {below : List Frame} {meth : Method} {c : Code} {A9 : Nat → Prop} {H : Heap} {locs : List Loc} {ls : Array Slot} {Q : State → Prop} (hC : Cx E yL_act.cls cL_act 12 (some .boolean) wsL_act p9 s9 m args meth c A9) (ht9 : c.exceptionTable.toList = tableOf [(103, 217, 1043, 94), (218, 270, 1043, 94), (271, 322, 1043, 94), (323, 391, 1043, 94), (392, 403, 1043, 94), (404, 478, 1043, 94), (479, 537, 1043, 94), (538, 550, 1043, 94), (551, 656, 1043, 94), (657, 669, 1043, 94), (670, 774, 1043, 94), (775, 784, 1043, 94), (785, 799, 1043, 94), (800, 877, 1043, 94), (878, 887, 1043, 94), (888, 930, 1043, 94), (931, 970, 1043, 94), (971, 1042, 1043, 94)]) (hZ : Zx A9 s9 s9.heap) (x : Nat) (A T B : Nat → Nat) (S U : CS) (G : HS) (q : Nat) (P : AP) (v_ni v_wa v_un : Int32) (v_ns v_np v_nw v_ng : Nat) (v_ma v_st v_ou v_ru : Fn) (v_so : FnN) (v_mt v_vo v_gi v_ca v_tr : Fn) (v_sw v_ss : FnN) (v_sg : Fn) (z : Int32) (hns : v_ns ≤ 5) (hnp : v_np ≤ 16) (hnw : v_nw ≤ 4) (hng : v_ng ≤ 20) (hso : ∀ p, p < v_np → v_so p < v_ns) (hsw : ∀ j, j < v_ng → v_sw j < v_nw) (h0s : 0 < v_ns) (hbw : 0 < v_nw) (hbp : v_np = 0) (hbr : f_ref v_ns v_np v_nw v_ng v_st v_vo v_so v_sw v_ss z (bl (z >>> ((4 : Int32) &&& 31)) v_ns) (bl (z >>> ((6 : Int32) &&& 31)) v_nw) (0) = true) (kk : ∀ (H : Heap) (locs : List Loc) (ls : Array Slot), Wd E A9 s9.heap (wX x A T B ++ wC E A (B 0) S ++ wC E T (B 0) U ++ wG E B G ++ wS E q P (mkS v_ni v_wa v_un v_ns v_np v_nw v_ng v_ma v_st v_ou v_ru v_so v_mt v_vo v_gi v_ca v_tr v_sw v_ss v_sg)) H locs → lv_has ls 12 [(0, .ref x), (1, .ref q), (2, .int z), (3, .int (nI (bl (z >>> ((4 : Int32) &&& 31)) v_ns))), (4, .int (nI (bl (z >>> ((6 : Int32) &&& 31)) v_nw))), (5, .int 0), (6, .int 1)] → W p9 l e rm_L_act s9 m args below meth c H locs 0 0 Q (F0 m 121 ls [.int (nI (bl z 18))])) (hw : Wd E A9 s9.heap (wX x A T B ++ wC E A (B 0) S ++ wC E T (B 0) U ++ wG E B G ++ wS E q P (mkS v_ni v_wa v_un v_ns v_np v_nw v_ng v_ma v_st v_ou v_ru v_so v_mt v_vo v_gi v_ca v_tr v_sw v_ss v_sg)) H locs) (hl : lv_has ls 12 [(0, .ref x), (1, .ref q), (2, .int z)]) : W p9 l e rm_L_act s9 m args below meth c H locs 0 0 Q (F0 m 0 ls []) := by
  obtain ⟨hx, hb, hml, hr, hown, hts, hlocks, hK, hG, hA⟩ := hC
  have hf9 := hts (.fieldLink RL 9 "SailorCandlesLaw$Sim" "ships" "[[I") (List.mem_of_getElem? (i := 2) rfl)
  have hinX3 : ∀ w ∈ wsX30, w ∈ wsL_act := fun w h => List.mem_cons_of_mem _ (List.mem_append_left _ (List.mem_append_left _ (List.mem_append_left _ (List.mem_append_left _ (List.mem_append_left _ (List.mem_append_left _ (List.mem_append_right _ h)))))))
  have hf21 := hts (.fieldLink RL 21 "SailorCandlesLaw$Sim" "trust" "[I") (List.mem_of_getElem? (i := 3) rfl)
  have hf25 := hts (.fieldLink RL 25 "SailorCandlesLaw$Sim" "sailors" "[[I") (List.mem_of_getElem? (i := 4) rfl)
  refine lv_aload_n hx hb dL_act_0 rfl (lv_at hl 1 rfl) ?_
  refine k_get (ci := 3) (v := .ref (P.1 1)) (C := RX3) (T := TX3) (N := 7) hx hb hown hK hw hts hinX3 21 rfl rfl 3 (by decide) hf9 rfl dL_act_1 ?_
  refine k_lenQ (n := v_ns) hx hb hK hw 22 rfl dL_act_4 ?_
  refine lv_if_ne (tgt := 12) hx hb dL_act_5 (by decide) (fun _ => ?_) (fun q8 => absurd q8 (bl_ne h0s (by omega)))
  refine lv_iload_n hx hb dL_act_12 rfl (lv_at hl 2 rfl) ?_
  refine lv_iconst (v := 4) hx hb dL_act_13 (by decide) ?_
  refine lv_ishr hx hb dL_act_14 ?_
  refine lv_aload_n hx hb dL_act_15 rfl (lv_at hl 1 rfl) ?_
  refine k_get (ci := 3) (v := .ref (P.1 1)) (C := RX3) (T := TX3) (N := 7) hx hb hown hK hw hts hinX3 21 rfl rfl 3 (by decide) hf9 rfl dL_act_16 ?_
  refine k_lenQ (n := v_ns) hx hb hK hw 22 rfl dL_act_19 ?_
  refine kr_i (ws' := wX x A T B ++ wC E A (B 0) S ++ wC E T (B 0) U ++ wG E B G ++ wS E q P (mkS v_ni v_wa v_un v_ns v_np v_nw v_ng v_ma v_st v_ou v_ru v_so v_mt v_vo v_gi v_ca v_tr v_sw v_ss v_sg)) (va_runS (As := [.int (z >>> ((4 : Int32) &&& 31)), .int (nI v_ns)]) (rest := []) ⟨hx, hb, hml, hown, hts⟩ (c_L_below l E (z >>> ((4 : Int32) &&& 31)) v_ns (h0s) ((by omega)) _) (va_cwS 2 hts gL_act_L_below rfl rfl rfl hd_L_below ⟨Nat.le_of_ble_eq_true rfl, Nat.le_of_ble_eq_true rfl⟩) (rpS (AV := [.int (z >>> ((4 : Int32) &&& 31)), .int (nI v_ns)]) hw hK hG rp_78) rfl rfl hl.1 rfl (lv_room (Nat.le_of_ble_eq_true rfl)) dL_act_20 ⟨Nat.le_of_ble_eq_true rfl, Nat.le_of_ble_eq_true rfl⟩) hw hA rp_78 (fun H locs hw => ?_)
  refine lv_istore_n (lv' := [(3, .int (nI (bl (z >>> ((4 : Int32) &&& 31)) v_ns))), (0, .ref x), (1, .ref q), (2, .int z)]) hx hb dL_act_23 rfl hl (by decide) rfl (fun ls hl => ?_)
  refine lv_aload_n hx hb dL_act_24 rfl (lv_at hl 2 rfl) ?_
  refine k_get (ci := 3) (v := .ref (P.1 3)) (C := RX3) (T := TX3) (N := 7) hx hb hown hK hw hts hinX3 21 rfl rfl 5 (by decide) hf21 rfl dL_act_25 ?_
  refine k_lenI (n := v_nw) hx hb hK hw 24 rfl dL_act_28 ?_
  refine lv_if_ne (tgt := 36) hx hb dL_act_29 (by decide) (fun _ => ?_) (fun q8 => absurd q8 (bl_ne hbw (by omega)))
  refine lv_iload_n hx hb dL_act_36 rfl (lv_at hl 3 rfl) ?_
  refine lv_bipush (v := 6) hx hb dL_act_37 (by decide) ?_
  refine lv_ishr hx hb dL_act_39 ?_
  refine lv_aload_n hx hb dL_act_40 rfl (lv_at hl 2 rfl) ?_
  refine k_get (ci := 3) (v := .ref (P.1 3)) (C := RX3) (T := TX3) (N := 7) hx hb hown hK hw hts hinX3 21 rfl rfl 5 (by decide) hf21 rfl dL_act_41 ?_
  refine k_lenI (n := v_nw) hx hb hK hw 24 rfl dL_act_44 ?_
  refine kr_i (ws' := wX x A T B ++ wC E A (B 0) S ++ wC E T (B 0) U ++ wG E B G ++ wS E q P (mkS v_ni v_wa v_un v_ns v_np v_nw v_ng v_ma v_st v_ou v_ru v_so v_mt v_vo v_gi v_ca v_tr v_sw v_ss v_sg)) (va_runS (As := [.int (z >>> ((6 : Int32) &&& 31)), .int (nI v_nw)]) (rest := []) ⟨hx, hb, hml, hown, hts⟩ (c_L_below l E (z >>> ((6 : Int32) &&& 31)) v_nw (hbw) ((by omega)) _) (va_cwS 2 hts gL_act_L_below rfl rfl rfl hd_L_below ⟨Nat.le_of_ble_eq_true rfl, Nat.le_of_ble_eq_true rfl⟩) (rpS (AV := [.int (z >>> ((6 : Int32) &&& 31)), .int (nI v_nw)]) hw hK hG rp_78) rfl rfl hl.1 rfl (lv_room (Nat.le_of_ble_eq_true rfl)) dL_act_45 ⟨Nat.le_of_ble_eq_true rfl, Nat.le_of_ble_eq_true rfl⟩) hw hA rp_78 (fun H locs hw => ?_)
  refine lv_istore (lv' := [(4, .int (nI (bl (z >>> ((6 : Int32) &&& 31)) v_nw))), (3, .int (nI (bl (z >>> ((4 : Int32) &&& 31)) v_ns))), (0, .ref x), (1, .ref q), (2, .int z)]) hx hb dL_act_48 hl (by decide) rfl (fun ls hl => ?_)
  refine lv_aload_n hx hb dL_act_50 rfl (lv_at hl 3 rfl) ?_
  refine k_get (ci := 3) (v := .ref (P.1 2)) (C := RX3) (T := TX3) (N := 7) hx hb hown hK hw hts hinX3 21 rfl rfl 4 (by decide) hf25 rfl dL_act_51 ?_
  refine k_lenQ (n := v_np) hx hb hK hw 23 rfl dL_act_54 ?_
  refine lv_if_ne (tgt := 62) hx hb dL_act_55 (by decide) (fun q8 => absurd (by rw [hbp]; rfl) q8) (fun _ => ?_)
  refine lv_iconst (v := 0) hx hb dL_act_58 (by decide) ?_
  refine lv_goto (tgt := 73) hx hb dL_act_59 (by decide) ?_
  refine lv_istore (lv' := [(5, .int 0), (4, .int (nI (bl (z >>> ((6 : Int32) &&& 31)) v_nw))), (3, .int (nI (bl (z >>> ((4 : Int32) &&& 31)) v_ns))), (0, .ref x), (1, .ref q), (2, .int z)]) hx hb dL_act_73 hl (by decide) rfl (fun ls hl => ?_)
  refine lv_aload_n hx hb dL_act_75 rfl (lv_at hl 4 rfl) ?_
  refine k_get (ci := 3) (v := .ref (P.1 1)) (C := RX3) (T := TX3) (N := 7) hx hb hown hK hw hts hinX3 21 rfl rfl 3 (by decide) hf9 rfl dL_act_76 ?_
  refine k_lenQ (n := v_ns) hx hb hK hw 22 rfl dL_act_79 ?_
  refine lv_if_le (tgt := 100) hx hb dL_act_80 (by decide) (fun q8 => absurd q8 (nI_nle h0s (by omega))) (fun _ => ?_)
  refine lv_aload_n hx hb dL_act_83 rfl (lv_at hl 4 rfl) ?_
  refine lv_iload_n hx hb dL_act_84 rfl (lv_at hl 5 rfl) ?_
  refine lv_iload_n hx hb dL_act_85 rfl (lv_at hl 2 rfl) ?_
  refine lv_iload hx hb dL_act_86 (lv_at hl 1 rfl) ?_
  refine lv_iload hx hb dL_act_88 (lv_at hl 0 rfl) ?_
  refine kr_i (ws' := wX x A T B ++ wC E A (B 0) S ++ wC E T (B 0) U ++ wG E B G ++ wS E q P (mkS v_ni v_wa v_un v_ns v_np v_nw v_ng v_ma v_st v_ou v_ru v_so v_mt v_vo v_gi v_ca v_tr v_sw v_ss v_sg)) (va_runS (As := [.ref q, .int z, .int (nI (bl (z >>> ((4 : Int32) &&& 31)) v_ns)), .int (nI (bl (z >>> ((6 : Int32) &&& 31)) v_nw)), .int 0]) (rest := []) ⟨hx, hb, hml, hown, hts⟩ (c_L_refused l E q P v_ni v_wa v_un v_ns v_np v_nw v_ng v_ma v_st v_ou v_ru v_so v_mt v_vo v_gi v_ca v_tr v_sw v_ss v_sg z (bl (z >>> ((4 : Int32) &&& 31)) v_ns) (bl (z >>> ((6 : Int32) &&& 31)) v_nw) 0 hns hnp hnw hng hso hsw ((bl_lt h0s)) ((fun q9 => by omega)) _) (va_cwS 5 hts gL_act_L_refused rfl rfl rfl hd_L_refused ⟨Nat.le_of_ble_eq_true rfl, Nat.le_of_ble_eq_true rfl⟩) (rpS (AV := [.ref q, .int z, .int (nI (bl (z >>> ((4 : Int32) &&& 31)) v_ns)), .int (nI (bl (z >>> ((6 : Int32) &&& 31)) v_nw)), .int 0]) hw hK hG rp_77) rfl rfl hl.1 rfl (lv_room (Nat.le_of_ble_eq_true rfl)) dL_act_90 ⟨Nat.le_of_ble_eq_true rfl, Nat.le_of_ble_eq_true rfl⟩) hw hA rp_77 (fun H locs hw => ?_)
  refine lv_if_eq (tgt := 100) hx hb dL_act_93 (by decide) (fun q8 => absurd q8 (fun q7 => absurd (hbr.symm.trans (bI_z q7)) (by decide))) (fun _ => ?_)
  refine lv_iconst (v := 1) hx hb dL_act_96 (by decide) ?_
  refine lv_goto (tgt := 101) hx hb dL_act_97 (by decide) ?_
  refine lv_istore (lv' := [(6, .int 1), (5, .int 0), (4, .int (nI (bl (z >>> ((6 : Int32) &&& 31)) v_nw))), (3, .int (nI (bl (z >>> ((4 : Int32) &&& 31)) v_ns))), (0, .ref x), (1, .ref q), (2, .int z)]) hx hb dL_act_101 hl (by decide) rfl (fun ls hl => ?_)
  refine lv_aload_n hx hb dL_act_103 rfl (lv_at hl 5 rfl) ?_
  refine k_get (ci := 3) (v := .ref (P.1 1)) (C := RX3) (T := TX3) (N := 7) hx hb hown hK hw hts hinX3 21 rfl rfl 3 (by decide) hf9 rfl dL_act_104 ?_
  refine k_lenQ (n := v_ns) hx hb hK hw 22 rfl dL_act_107 ?_
  refine lv_if_ne (tgt := 115) hx hb dL_act_108 (by decide) (fun _ => ?_) (fun q8 => absurd q8 (bl_ne h0s (by omega)))
  refine lv_iload_n hx hb dL_act_115 rfl (lv_at hl 6 rfl) ?_
  refine lv_bipush (v := 18) hx hb dL_act_116 (by decide) ?_
  refine kr_i (ws' := wX x A T B ++ wC E A (B 0) S ++ wC E T (B 0) U ++ wG E B G ++ wS E q P (mkS v_ni v_wa v_un v_ns v_np v_nw v_ng v_ma v_st v_ou v_ru v_so v_mt v_vo v_gi v_ca v_tr v_sw v_ss v_sg)) (va_runS (As := [.int z, .int 18]) (rest := []) ⟨hx, hb, hml, hown, hts⟩ (c_L_below l E z 18 ((by omega)) ((by omega)) _) (va_cwS 2 hts gL_act_L_below rfl rfl rfl hd_L_below ⟨Nat.le_of_ble_eq_true rfl, Nat.le_of_ble_eq_true rfl⟩) (rpS (AV := [.int z, .int 18]) hw hK hG rp_78) rfl rfl hl.1 rfl (lv_room (Nat.le_of_ble_eq_true rfl)) dL_act_118 ⟨Nat.le_of_ble_eq_true rfl, Nat.le_of_ble_eq_true rfl⟩) hw hA rp_78 (fun H locs hw => ?_)
  exact kk _ _ _ hw (lv_sub hl [4, 5, 6, 3, 2, 1, 0] rfl)

set_option maxHeartbeats 4000000 in
set_option maxRecDepth 100000 in
theorem ap_110 (l : Launch) (hflags : l.stackTraces = false) (E : Ev) {p9 : Program} {e : Env} {s9 : State} {m : MethodId} {args : Array Value} {below : List Frame} {meth : Method} {c : Code} {A9 : Nat → Prop} {H : Heap} {locs : List Loc} {ls : Array Slot} {Q : State → Prop} (hC : Cx E yL_act.cls cL_act 12 (some .boolean) wsL_act p9 s9 m args meth c A9) (ht9 : c.exceptionTable.toList = tableOf [(103, 217, 1043, 94), (218, 270, 1043, 94), (271, 322, 1043, 94), (323, 391, 1043, 94), (392, 403, 1043, 94), (404, 478, 1043, 94), (479, 537, 1043, 94), (538, 550, 1043, 94), (551, 656, 1043, 94), (657, 669, 1043, 94), (670, 774, 1043, 94), (775, 784, 1043, 94), (785, 799, 1043, 94), (800, 877, 1043, 94), (878, 887, 1043, 94), (888, 930, 1043, 94), (931, 970, 1043, 94), (971, 1042, 1043, 94)]) (hZ : Zx A9 s9 s9.heap) (x : Nat) (A T B : Nat → Nat) (S U : CS) (G : HS) (q : Nat) (P : AP) (v_ni v_wa v_un : Int32) (v_ns v_np v_nw v_ng : Nat) (v_ma v_st v_ou v_ru : Fn) (v_so : FnN) (v_mt v_vo v_gi v_ca v_tr : Fn) (v_sw v_ss : FnN) (v_sg : Fn) (z : Int32) (hns : v_ns ≤ 5) (hnp : v_np ≤ 16) (hnw : v_nw ≤ 4) (hng : v_ng ≤ 20) (hso : ∀ p, p < v_np → v_so p < v_ns) (hsw : ∀ j, j < v_ng → v_sw j < v_nw) (h0s : 0 < v_ns) (hbw : 0 < v_nw) (hbp : 0 < v_np) (hbr : f_ref v_ns v_np v_nw v_ng v_st v_vo v_so v_sw v_ss z (bl (z >>> ((4 : Int32) &&& 31)) v_ns) (bl (z >>> ((6 : Int32) &&& 31)) v_nw) (bl (z >>> ((5 : Int32) &&& 31)) v_np) = false) (kk : ∀ (H : Heap) (locs : List Loc) (ls : Array Slot), Wd E A9 s9.heap (wX x A T B ++ wC E A (B 0) S ++ wC E T (B 0) U ++ wG E B G ++ wS E q P (mkS v_ni v_wa v_un v_ns v_np v_nw v_ng v_ma v_st v_ou v_ru v_so v_mt v_vo v_gi v_ca v_tr v_sw v_ss v_sg)) H locs → lv_has ls 12 [(0, .ref x), (1, .ref q), (2, .int z), (3, .int (nI (bl (z >>> ((4 : Int32) &&& 31)) v_ns))), (4, .int (nI (bl (z >>> ((6 : Int32) &&& 31)) v_nw))), (5, .int (nI (bl (z >>> ((5 : Int32) &&& 31)) v_np))), (6, .int 0)] → W p9 l e rm_L_act s9 m args below meth c H locs 0 0 Q (F0 m 121 ls [.int (nI (bl z 18))])) (hw : Wd E A9 s9.heap (wX x A T B ++ wC E A (B 0) S ++ wC E T (B 0) U ++ wG E B G ++ wS E q P (mkS v_ni v_wa v_un v_ns v_np v_nw v_ng v_ma v_st v_ou v_ru v_so v_mt v_vo v_gi v_ca v_tr v_sw v_ss v_sg)) H locs) (hl : lv_has ls 12 [(0, .ref x), (1, .ref q), (2, .int z)]) : W p9 l e rm_L_act s9 m args below meth c H locs 0 0 Q (F0 m 0 ls []) := by
  obtain ⟨hx, hb, hml, hr, hown, hts, hlocks, hK, hG, hA⟩ := hC
  have hf9 := hts (.fieldLink RL 9 "SailorCandlesLaw$Sim" "ships" "[[I") (List.mem_of_getElem? (i := 2) rfl)
  have hinX3 : ∀ w ∈ wsX30, w ∈ wsL_act := fun w h => List.mem_cons_of_mem _ (List.mem_append_left _ (List.mem_append_left _ (List.mem_append_left _ (List.mem_append_left _ (List.mem_append_left _ (List.mem_append_left _ (List.mem_append_right _ h)))))))
  have hf21 := hts (.fieldLink RL 21 "SailorCandlesLaw$Sim" "trust" "[I") (List.mem_of_getElem? (i := 3) rfl)
  have hf25 := hts (.fieldLink RL 25 "SailorCandlesLaw$Sim" "sailors" "[[I") (List.mem_of_getElem? (i := 4) rfl)
  refine lv_aload_n hx hb dL_act_0 rfl (lv_at hl 1 rfl) ?_
  refine k_get (ci := 3) (v := .ref (P.1 1)) (C := RX3) (T := TX3) (N := 7) hx hb hown hK hw hts hinX3 21 rfl rfl 3 (by decide) hf9 rfl dL_act_1 ?_
  refine k_lenQ (n := v_ns) hx hb hK hw 22 rfl dL_act_4 ?_
  refine lv_if_ne (tgt := 12) hx hb dL_act_5 (by decide) (fun _ => ?_) (fun q8 => absurd q8 (bl_ne h0s (by omega)))
  refine lv_iload_n hx hb dL_act_12 rfl (lv_at hl 2 rfl) ?_
  refine lv_iconst (v := 4) hx hb dL_act_13 (by decide) ?_
  refine lv_ishr hx hb dL_act_14 ?_
  refine lv_aload_n hx hb dL_act_15 rfl (lv_at hl 1 rfl) ?_
  refine k_get (ci := 3) (v := .ref (P.1 1)) (C := RX3) (T := TX3) (N := 7) hx hb hown hK hw hts hinX3 21 rfl rfl 3 (by decide) hf9 rfl dL_act_16 ?_
  refine k_lenQ (n := v_ns) hx hb hK hw 22 rfl dL_act_19 ?_
  refine kr_i (ws' := wX x A T B ++ wC E A (B 0) S ++ wC E T (B 0) U ++ wG E B G ++ wS E q P (mkS v_ni v_wa v_un v_ns v_np v_nw v_ng v_ma v_st v_ou v_ru v_so v_mt v_vo v_gi v_ca v_tr v_sw v_ss v_sg)) (va_runS (As := [.int (z >>> ((4 : Int32) &&& 31)), .int (nI v_ns)]) (rest := []) ⟨hx, hb, hml, hown, hts⟩ (c_L_below l E (z >>> ((4 : Int32) &&& 31)) v_ns (h0s) ((by omega)) _) (va_cwS 2 hts gL_act_L_below rfl rfl rfl hd_L_below ⟨Nat.le_of_ble_eq_true rfl, Nat.le_of_ble_eq_true rfl⟩) (rpS (AV := [.int (z >>> ((4 : Int32) &&& 31)), .int (nI v_ns)]) hw hK hG rp_78) rfl rfl hl.1 rfl (lv_room (Nat.le_of_ble_eq_true rfl)) dL_act_20 ⟨Nat.le_of_ble_eq_true rfl, Nat.le_of_ble_eq_true rfl⟩) hw hA rp_78 (fun H locs hw => ?_)
  refine lv_istore_n (lv' := [(3, .int (nI (bl (z >>> ((4 : Int32) &&& 31)) v_ns))), (0, .ref x), (1, .ref q), (2, .int z)]) hx hb dL_act_23 rfl hl (by decide) rfl (fun ls hl => ?_)
  refine lv_aload_n hx hb dL_act_24 rfl (lv_at hl 2 rfl) ?_
  refine k_get (ci := 3) (v := .ref (P.1 3)) (C := RX3) (T := TX3) (N := 7) hx hb hown hK hw hts hinX3 21 rfl rfl 5 (by decide) hf21 rfl dL_act_25 ?_
  refine k_lenI (n := v_nw) hx hb hK hw 24 rfl dL_act_28 ?_
  refine lv_if_ne (tgt := 36) hx hb dL_act_29 (by decide) (fun _ => ?_) (fun q8 => absurd q8 (bl_ne hbw (by omega)))
  refine lv_iload_n hx hb dL_act_36 rfl (lv_at hl 3 rfl) ?_
  refine lv_bipush (v := 6) hx hb dL_act_37 (by decide) ?_
  refine lv_ishr hx hb dL_act_39 ?_
  refine lv_aload_n hx hb dL_act_40 rfl (lv_at hl 2 rfl) ?_
  refine k_get (ci := 3) (v := .ref (P.1 3)) (C := RX3) (T := TX3) (N := 7) hx hb hown hK hw hts hinX3 21 rfl rfl 5 (by decide) hf21 rfl dL_act_41 ?_
  refine k_lenI (n := v_nw) hx hb hK hw 24 rfl dL_act_44 ?_
  refine kr_i (ws' := wX x A T B ++ wC E A (B 0) S ++ wC E T (B 0) U ++ wG E B G ++ wS E q P (mkS v_ni v_wa v_un v_ns v_np v_nw v_ng v_ma v_st v_ou v_ru v_so v_mt v_vo v_gi v_ca v_tr v_sw v_ss v_sg)) (va_runS (As := [.int (z >>> ((6 : Int32) &&& 31)), .int (nI v_nw)]) (rest := []) ⟨hx, hb, hml, hown, hts⟩ (c_L_below l E (z >>> ((6 : Int32) &&& 31)) v_nw (hbw) ((by omega)) _) (va_cwS 2 hts gL_act_L_below rfl rfl rfl hd_L_below ⟨Nat.le_of_ble_eq_true rfl, Nat.le_of_ble_eq_true rfl⟩) (rpS (AV := [.int (z >>> ((6 : Int32) &&& 31)), .int (nI v_nw)]) hw hK hG rp_78) rfl rfl hl.1 rfl (lv_room (Nat.le_of_ble_eq_true rfl)) dL_act_45 ⟨Nat.le_of_ble_eq_true rfl, Nat.le_of_ble_eq_true rfl⟩) hw hA rp_78 (fun H locs hw => ?_)
  refine lv_istore (lv' := [(4, .int (nI (bl (z >>> ((6 : Int32) &&& 31)) v_nw))), (3, .int (nI (bl (z >>> ((4 : Int32) &&& 31)) v_ns))), (0, .ref x), (1, .ref q), (2, .int z)]) hx hb dL_act_48 hl (by decide) rfl (fun ls hl => ?_)
  refine lv_aload_n hx hb dL_act_50 rfl (lv_at hl 3 rfl) ?_
  refine k_get (ci := 3) (v := .ref (P.1 2)) (C := RX3) (T := TX3) (N := 7) hx hb hown hK hw hts hinX3 21 rfl rfl 4 (by decide) hf25 rfl dL_act_51 ?_
  refine k_lenQ (n := v_np) hx hb hK hw 23 rfl dL_act_54 ?_
  refine lv_if_ne (tgt := 62) hx hb dL_act_55 (by decide) (fun _ => ?_) (fun q8 => absurd q8 (bl_ne hbp (by omega)))
  refine lv_iload_n hx hb dL_act_62 rfl (lv_at hl 4 rfl) ?_
  refine lv_iconst (v := 5) hx hb dL_act_63 (by decide) ?_
  refine lv_ishr hx hb dL_act_64 ?_
  refine lv_aload_n hx hb dL_act_65 rfl (lv_at hl 3 rfl) ?_
  refine k_get (ci := 3) (v := .ref (P.1 2)) (C := RX3) (T := TX3) (N := 7) hx hb hown hK hw hts hinX3 21 rfl rfl 4 (by decide) hf25 rfl dL_act_66 ?_
  refine k_lenQ (n := v_np) hx hb hK hw 23 rfl dL_act_69 ?_
  refine kr_i (ws' := wX x A T B ++ wC E A (B 0) S ++ wC E T (B 0) U ++ wG E B G ++ wS E q P (mkS v_ni v_wa v_un v_ns v_np v_nw v_ng v_ma v_st v_ou v_ru v_so v_mt v_vo v_gi v_ca v_tr v_sw v_ss v_sg)) (va_runS (As := [.int (z >>> ((5 : Int32) &&& 31)), .int (nI v_np)]) (rest := []) ⟨hx, hb, hml, hown, hts⟩ (c_L_below l E (z >>> ((5 : Int32) &&& 31)) v_np (hbp) ((by omega)) _) (va_cwS 2 hts gL_act_L_below rfl rfl rfl hd_L_below ⟨Nat.le_of_ble_eq_true rfl, Nat.le_of_ble_eq_true rfl⟩) (rpS (AV := [.int (z >>> ((5 : Int32) &&& 31)), .int (nI v_np)]) hw hK hG rp_78) rfl rfl hl.1 rfl (lv_room (Nat.le_of_ble_eq_true rfl)) dL_act_70 ⟨Nat.le_of_ble_eq_true rfl, Nat.le_of_ble_eq_true rfl⟩) hw hA rp_78 (fun H locs hw => ?_)
  refine lv_istore (lv' := [(5, .int (nI (bl (z >>> ((5 : Int32) &&& 31)) v_np))), (4, .int (nI (bl (z >>> ((6 : Int32) &&& 31)) v_nw))), (3, .int (nI (bl (z >>> ((4 : Int32) &&& 31)) v_ns))), (0, .ref x), (1, .ref q), (2, .int z)]) hx hb dL_act_73 hl (by decide) rfl (fun ls hl => ?_)
  refine lv_aload_n hx hb dL_act_75 rfl (lv_at hl 4 rfl) ?_
  refine k_get (ci := 3) (v := .ref (P.1 1)) (C := RX3) (T := TX3) (N := 7) hx hb hown hK hw hts hinX3 21 rfl rfl 3 (by decide) hf9 rfl dL_act_76 ?_
  refine k_lenQ (n := v_ns) hx hb hK hw 22 rfl dL_act_79 ?_
  refine lv_if_le (tgt := 100) hx hb dL_act_80 (by decide) (fun q8 => absurd q8 (nI_nle h0s (by omega))) (fun _ => ?_)
  refine lv_aload_n hx hb dL_act_83 rfl (lv_at hl 4 rfl) ?_
  refine lv_iload_n hx hb dL_act_84 rfl (lv_at hl 5 rfl) ?_
  refine lv_iload_n hx hb dL_act_85 rfl (lv_at hl 2 rfl) ?_
  refine lv_iload hx hb dL_act_86 (lv_at hl 1 rfl) ?_
  refine lv_iload hx hb dL_act_88 (lv_at hl 0 rfl) ?_
  refine kr_i (ws' := wX x A T B ++ wC E A (B 0) S ++ wC E T (B 0) U ++ wG E B G ++ wS E q P (mkS v_ni v_wa v_un v_ns v_np v_nw v_ng v_ma v_st v_ou v_ru v_so v_mt v_vo v_gi v_ca v_tr v_sw v_ss v_sg)) (va_runS (As := [.ref q, .int z, .int (nI (bl (z >>> ((4 : Int32) &&& 31)) v_ns)), .int (nI (bl (z >>> ((6 : Int32) &&& 31)) v_nw)), .int (nI (bl (z >>> ((5 : Int32) &&& 31)) v_np))]) (rest := []) ⟨hx, hb, hml, hown, hts⟩ (c_L_refused l E q P v_ni v_wa v_un v_ns v_np v_nw v_ng v_ma v_st v_ou v_ru v_so v_mt v_vo v_gi v_ca v_tr v_sw v_ss v_sg z (bl (z >>> ((4 : Int32) &&& 31)) v_ns) (bl (z >>> ((6 : Int32) &&& 31)) v_nw) (bl (z >>> ((5 : Int32) &&& 31)) v_np) hns hnp hnw hng hso hsw ((bl_lt h0s)) ((fun q9 => bl_lt q9)) _) (va_cwS 5 hts gL_act_L_refused rfl rfl rfl hd_L_refused ⟨Nat.le_of_ble_eq_true rfl, Nat.le_of_ble_eq_true rfl⟩) (rpS (AV := [.ref q, .int z, .int (nI (bl (z >>> ((4 : Int32) &&& 31)) v_ns)), .int (nI (bl (z >>> ((6 : Int32) &&& 31)) v_nw)), .int (nI (bl (z >>> ((5 : Int32) &&& 31)) v_np))]) hw hK hG rp_77) rfl rfl hl.1 rfl (lv_room (Nat.le_of_ble_eq_true rfl)) dL_act_90 ⟨Nat.le_of_ble_eq_true rfl, Nat.le_of_ble_eq_true rfl⟩) hw hA rp_77 (fun H locs hw => ?_)
  refine lv_if_eq (tgt := 100) hx hb dL_act_93 (by decide) (fun _ => ?_) (fun q8 => absurd (by rw [hbr]; rfl) q8)
  refine lv_iconst (v := 0) hx hb dL_act_100 (by decide) ?_
  refine lv_istore (lv' := [(6, .int 0), (5, .int (nI (bl (z >>> ((5 : Int32) &&& 31)) v_np))), (4, .int (nI (bl (z >>> ((6 : Int32) &&& 31)) v_nw))), (3, .int (nI (bl (z >>> ((4 : Int32) &&& 31)) v_ns))), (0, .ref x), (1, .ref q), (2, .int z)]) hx hb dL_act_101 hl (by decide) rfl (fun ls hl => ?_)
  refine lv_aload_n hx hb dL_act_103 rfl (lv_at hl 5 rfl) ?_
  refine k_get (ci := 3) (v := .ref (P.1 1)) (C := RX3) (T := TX3) (N := 7) hx hb hown hK hw hts hinX3 21 rfl rfl 3 (by decide) hf9 rfl dL_act_104 ?_
  refine k_lenQ (n := v_ns) hx hb hK hw 22 rfl dL_act_107 ?_
  refine lv_if_ne (tgt := 115) hx hb dL_act_108 (by decide) (fun _ => ?_) (fun q8 => absurd q8 (bl_ne h0s (by omega)))
  refine lv_iload_n hx hb dL_act_115 rfl (lv_at hl 6 rfl) ?_
  refine lv_bipush (v := 18) hx hb dL_act_116 (by decide) ?_
  refine kr_i (ws' := wX x A T B ++ wC E A (B 0) S ++ wC E T (B 0) U ++ wG E B G ++ wS E q P (mkS v_ni v_wa v_un v_ns v_np v_nw v_ng v_ma v_st v_ou v_ru v_so v_mt v_vo v_gi v_ca v_tr v_sw v_ss v_sg)) (va_runS (As := [.int z, .int 18]) (rest := []) ⟨hx, hb, hml, hown, hts⟩ (c_L_below l E z 18 ((by omega)) ((by omega)) _) (va_cwS 2 hts gL_act_L_below rfl rfl rfl hd_L_below ⟨Nat.le_of_ble_eq_true rfl, Nat.le_of_ble_eq_true rfl⟩) (rpS (AV := [.int z, .int 18]) hw hK hG rp_78) rfl rfl hl.1 rfl (lv_room (Nat.le_of_ble_eq_true rfl)) dL_act_118 ⟨Nat.le_of_ble_eq_true rfl, Nat.le_of_ble_eq_true rfl⟩) hw hA rp_78 (fun H locs hw => ?_)
  exact kk _ _ _ hw (lv_sub hl [4, 5, 6, 3, 2, 1, 0] rfl)

set_option maxHeartbeats 4000000 in
set_option maxRecDepth 100000 in
theorem ap_111 (l : Launch) (hflags : l.stackTraces = false) (E : Ev) {p9 : Program} {e : Env} {s9 : State} {m : MethodId} {args : Array Value} {below : List Frame} {meth : Method} {c : Code} {A9 : Nat → Prop} {H : Heap} {locs : List Loc} {ls : Array Slot} {Q : State → Prop} (hC : Cx E yL_act.cls cL_act 12 (some .boolean) wsL_act p9 s9 m args meth c A9) (ht9 : c.exceptionTable.toList = tableOf [(103, 217, 1043, 94), (218, 270, 1043, 94), (271, 322, 1043, 94), (323, 391, 1043, 94), (392, 403, 1043, 94), (404, 478, 1043, 94), (479, 537, 1043, 94), (538, 550, 1043, 94), (551, 656, 1043, 94), (657, 669, 1043, 94), (670, 774, 1043, 94), (775, 784, 1043, 94), (785, 799, 1043, 94), (800, 877, 1043, 94), (878, 887, 1043, 94), (888, 930, 1043, 94), (931, 970, 1043, 94), (971, 1042, 1043, 94)]) (hZ : Zx A9 s9 s9.heap) (x : Nat) (A T B : Nat → Nat) (S U : CS) (G : HS) (q : Nat) (P : AP) (v_ni v_wa v_un : Int32) (v_ns v_np v_nw v_ng : Nat) (v_ma v_st v_ou v_ru : Fn) (v_so : FnN) (v_mt v_vo v_gi v_ca v_tr : Fn) (v_sw v_ss : FnN) (v_sg : Fn) (z : Int32) (hns : v_ns ≤ 5) (hnp : v_np ≤ 16) (hnw : v_nw ≤ 4) (hng : v_ng ≤ 20) (hso : ∀ p, p < v_np → v_so p < v_ns) (hsw : ∀ j, j < v_ng → v_sw j < v_nw) (h0s : 0 < v_ns) (hbw : 0 < v_nw) (hbp : 0 < v_np) (hbr : f_ref v_ns v_np v_nw v_ng v_st v_vo v_so v_sw v_ss z (bl (z >>> ((4 : Int32) &&& 31)) v_ns) (bl (z >>> ((6 : Int32) &&& 31)) v_nw) (bl (z >>> ((5 : Int32) &&& 31)) v_np) = true) (kk : ∀ (H : Heap) (locs : List Loc) (ls : Array Slot), Wd E A9 s9.heap (wX x A T B ++ wC E A (B 0) S ++ wC E T (B 0) U ++ wG E B G ++ wS E q P (mkS v_ni v_wa v_un v_ns v_np v_nw v_ng v_ma v_st v_ou v_ru v_so v_mt v_vo v_gi v_ca v_tr v_sw v_ss v_sg)) H locs → lv_has ls 12 [(0, .ref x), (1, .ref q), (2, .int z), (3, .int (nI (bl (z >>> ((4 : Int32) &&& 31)) v_ns))), (4, .int (nI (bl (z >>> ((6 : Int32) &&& 31)) v_nw))), (5, .int (nI (bl (z >>> ((5 : Int32) &&& 31)) v_np))), (6, .int 1)] → W p9 l e rm_L_act s9 m args below meth c H locs 0 0 Q (F0 m 121 ls [.int (nI (bl z 18))])) (hw : Wd E A9 s9.heap (wX x A T B ++ wC E A (B 0) S ++ wC E T (B 0) U ++ wG E B G ++ wS E q P (mkS v_ni v_wa v_un v_ns v_np v_nw v_ng v_ma v_st v_ou v_ru v_so v_mt v_vo v_gi v_ca v_tr v_sw v_ss v_sg)) H locs) (hl : lv_has ls 12 [(0, .ref x), (1, .ref q), (2, .int z)]) : W p9 l e rm_L_act s9 m args below meth c H locs 0 0 Q (F0 m 0 ls []) := by
  obtain ⟨hx, hb, hml, hr, hown, hts, hlocks, hK, hG, hA⟩ := hC
  have hf9 := hts (.fieldLink RL 9 "SailorCandlesLaw$Sim" "ships" "[[I") (List.mem_of_getElem? (i := 2) rfl)
  have hinX3 : ∀ w ∈ wsX30, w ∈ wsL_act := fun w h => List.mem_cons_of_mem _ (List.mem_append_left _ (List.mem_append_left _ (List.mem_append_left _ (List.mem_append_left _ (List.mem_append_left _ (List.mem_append_left _ (List.mem_append_right _ h)))))))
  have hf21 := hts (.fieldLink RL 21 "SailorCandlesLaw$Sim" "trust" "[I") (List.mem_of_getElem? (i := 3) rfl)
  have hf25 := hts (.fieldLink RL 25 "SailorCandlesLaw$Sim" "sailors" "[[I") (List.mem_of_getElem? (i := 4) rfl)
  refine lv_aload_n hx hb dL_act_0 rfl (lv_at hl 1 rfl) ?_
  refine k_get (ci := 3) (v := .ref (P.1 1)) (C := RX3) (T := TX3) (N := 7) hx hb hown hK hw hts hinX3 21 rfl rfl 3 (by decide) hf9 rfl dL_act_1 ?_
  refine k_lenQ (n := v_ns) hx hb hK hw 22 rfl dL_act_4 ?_
  refine lv_if_ne (tgt := 12) hx hb dL_act_5 (by decide) (fun _ => ?_) (fun q8 => absurd q8 (bl_ne h0s (by omega)))
  refine lv_iload_n hx hb dL_act_12 rfl (lv_at hl 2 rfl) ?_
  refine lv_iconst (v := 4) hx hb dL_act_13 (by decide) ?_
  refine lv_ishr hx hb dL_act_14 ?_
  refine lv_aload_n hx hb dL_act_15 rfl (lv_at hl 1 rfl) ?_
  refine k_get (ci := 3) (v := .ref (P.1 1)) (C := RX3) (T := TX3) (N := 7) hx hb hown hK hw hts hinX3 21 rfl rfl 3 (by decide) hf9 rfl dL_act_16 ?_
  refine k_lenQ (n := v_ns) hx hb hK hw 22 rfl dL_act_19 ?_
  refine kr_i (ws' := wX x A T B ++ wC E A (B 0) S ++ wC E T (B 0) U ++ wG E B G ++ wS E q P (mkS v_ni v_wa v_un v_ns v_np v_nw v_ng v_ma v_st v_ou v_ru v_so v_mt v_vo v_gi v_ca v_tr v_sw v_ss v_sg)) (va_runS (As := [.int (z >>> ((4 : Int32) &&& 31)), .int (nI v_ns)]) (rest := []) ⟨hx, hb, hml, hown, hts⟩ (c_L_below l E (z >>> ((4 : Int32) &&& 31)) v_ns (h0s) ((by omega)) _) (va_cwS 2 hts gL_act_L_below rfl rfl rfl hd_L_below ⟨Nat.le_of_ble_eq_true rfl, Nat.le_of_ble_eq_true rfl⟩) (rpS (AV := [.int (z >>> ((4 : Int32) &&& 31)), .int (nI v_ns)]) hw hK hG rp_78) rfl rfl hl.1 rfl (lv_room (Nat.le_of_ble_eq_true rfl)) dL_act_20 ⟨Nat.le_of_ble_eq_true rfl, Nat.le_of_ble_eq_true rfl⟩) hw hA rp_78 (fun H locs hw => ?_)
  refine lv_istore_n (lv' := [(3, .int (nI (bl (z >>> ((4 : Int32) &&& 31)) v_ns))), (0, .ref x), (1, .ref q), (2, .int z)]) hx hb dL_act_23 rfl hl (by decide) rfl (fun ls hl => ?_)
  refine lv_aload_n hx hb dL_act_24 rfl (lv_at hl 2 rfl) ?_
  refine k_get (ci := 3) (v := .ref (P.1 3)) (C := RX3) (T := TX3) (N := 7) hx hb hown hK hw hts hinX3 21 rfl rfl 5 (by decide) hf21 rfl dL_act_25 ?_
  refine k_lenI (n := v_nw) hx hb hK hw 24 rfl dL_act_28 ?_
  refine lv_if_ne (tgt := 36) hx hb dL_act_29 (by decide) (fun _ => ?_) (fun q8 => absurd q8 (bl_ne hbw (by omega)))
  refine lv_iload_n hx hb dL_act_36 rfl (lv_at hl 3 rfl) ?_
  refine lv_bipush (v := 6) hx hb dL_act_37 (by decide) ?_
  refine lv_ishr hx hb dL_act_39 ?_
  refine lv_aload_n hx hb dL_act_40 rfl (lv_at hl 2 rfl) ?_
  refine k_get (ci := 3) (v := .ref (P.1 3)) (C := RX3) (T := TX3) (N := 7) hx hb hown hK hw hts hinX3 21 rfl rfl 5 (by decide) hf21 rfl dL_act_41 ?_
  refine k_lenI (n := v_nw) hx hb hK hw 24 rfl dL_act_44 ?_
  refine kr_i (ws' := wX x A T B ++ wC E A (B 0) S ++ wC E T (B 0) U ++ wG E B G ++ wS E q P (mkS v_ni v_wa v_un v_ns v_np v_nw v_ng v_ma v_st v_ou v_ru v_so v_mt v_vo v_gi v_ca v_tr v_sw v_ss v_sg)) (va_runS (As := [.int (z >>> ((6 : Int32) &&& 31)), .int (nI v_nw)]) (rest := []) ⟨hx, hb, hml, hown, hts⟩ (c_L_below l E (z >>> ((6 : Int32) &&& 31)) v_nw (hbw) ((by omega)) _) (va_cwS 2 hts gL_act_L_below rfl rfl rfl hd_L_below ⟨Nat.le_of_ble_eq_true rfl, Nat.le_of_ble_eq_true rfl⟩) (rpS (AV := [.int (z >>> ((6 : Int32) &&& 31)), .int (nI v_nw)]) hw hK hG rp_78) rfl rfl hl.1 rfl (lv_room (Nat.le_of_ble_eq_true rfl)) dL_act_45 ⟨Nat.le_of_ble_eq_true rfl, Nat.le_of_ble_eq_true rfl⟩) hw hA rp_78 (fun H locs hw => ?_)
  refine lv_istore (lv' := [(4, .int (nI (bl (z >>> ((6 : Int32) &&& 31)) v_nw))), (3, .int (nI (bl (z >>> ((4 : Int32) &&& 31)) v_ns))), (0, .ref x), (1, .ref q), (2, .int z)]) hx hb dL_act_48 hl (by decide) rfl (fun ls hl => ?_)
  refine lv_aload_n hx hb dL_act_50 rfl (lv_at hl 3 rfl) ?_
  refine k_get (ci := 3) (v := .ref (P.1 2)) (C := RX3) (T := TX3) (N := 7) hx hb hown hK hw hts hinX3 21 rfl rfl 4 (by decide) hf25 rfl dL_act_51 ?_
  refine k_lenQ (n := v_np) hx hb hK hw 23 rfl dL_act_54 ?_
  refine lv_if_ne (tgt := 62) hx hb dL_act_55 (by decide) (fun _ => ?_) (fun q8 => absurd q8 (bl_ne hbp (by omega)))
  refine lv_iload_n hx hb dL_act_62 rfl (lv_at hl 4 rfl) ?_
  refine lv_iconst (v := 5) hx hb dL_act_63 (by decide) ?_
  refine lv_ishr hx hb dL_act_64 ?_
  refine lv_aload_n hx hb dL_act_65 rfl (lv_at hl 3 rfl) ?_
  refine k_get (ci := 3) (v := .ref (P.1 2)) (C := RX3) (T := TX3) (N := 7) hx hb hown hK hw hts hinX3 21 rfl rfl 4 (by decide) hf25 rfl dL_act_66 ?_
  refine k_lenQ (n := v_np) hx hb hK hw 23 rfl dL_act_69 ?_
  refine kr_i (ws' := wX x A T B ++ wC E A (B 0) S ++ wC E T (B 0) U ++ wG E B G ++ wS E q P (mkS v_ni v_wa v_un v_ns v_np v_nw v_ng v_ma v_st v_ou v_ru v_so v_mt v_vo v_gi v_ca v_tr v_sw v_ss v_sg)) (va_runS (As := [.int (z >>> ((5 : Int32) &&& 31)), .int (nI v_np)]) (rest := []) ⟨hx, hb, hml, hown, hts⟩ (c_L_below l E (z >>> ((5 : Int32) &&& 31)) v_np (hbp) ((by omega)) _) (va_cwS 2 hts gL_act_L_below rfl rfl rfl hd_L_below ⟨Nat.le_of_ble_eq_true rfl, Nat.le_of_ble_eq_true rfl⟩) (rpS (AV := [.int (z >>> ((5 : Int32) &&& 31)), .int (nI v_np)]) hw hK hG rp_78) rfl rfl hl.1 rfl (lv_room (Nat.le_of_ble_eq_true rfl)) dL_act_70 ⟨Nat.le_of_ble_eq_true rfl, Nat.le_of_ble_eq_true rfl⟩) hw hA rp_78 (fun H locs hw => ?_)
  refine lv_istore (lv' := [(5, .int (nI (bl (z >>> ((5 : Int32) &&& 31)) v_np))), (4, .int (nI (bl (z >>> ((6 : Int32) &&& 31)) v_nw))), (3, .int (nI (bl (z >>> ((4 : Int32) &&& 31)) v_ns))), (0, .ref x), (1, .ref q), (2, .int z)]) hx hb dL_act_73 hl (by decide) rfl (fun ls hl => ?_)
  refine lv_aload_n hx hb dL_act_75 rfl (lv_at hl 4 rfl) ?_
  refine k_get (ci := 3) (v := .ref (P.1 1)) (C := RX3) (T := TX3) (N := 7) hx hb hown hK hw hts hinX3 21 rfl rfl 3 (by decide) hf9 rfl dL_act_76 ?_
  refine k_lenQ (n := v_ns) hx hb hK hw 22 rfl dL_act_79 ?_
  refine lv_if_le (tgt := 100) hx hb dL_act_80 (by decide) (fun q8 => absurd q8 (nI_nle h0s (by omega))) (fun _ => ?_)
  refine lv_aload_n hx hb dL_act_83 rfl (lv_at hl 4 rfl) ?_
  refine lv_iload_n hx hb dL_act_84 rfl (lv_at hl 5 rfl) ?_
  refine lv_iload_n hx hb dL_act_85 rfl (lv_at hl 2 rfl) ?_
  refine lv_iload hx hb dL_act_86 (lv_at hl 1 rfl) ?_
  refine lv_iload hx hb dL_act_88 (lv_at hl 0 rfl) ?_
  refine kr_i (ws' := wX x A T B ++ wC E A (B 0) S ++ wC E T (B 0) U ++ wG E B G ++ wS E q P (mkS v_ni v_wa v_un v_ns v_np v_nw v_ng v_ma v_st v_ou v_ru v_so v_mt v_vo v_gi v_ca v_tr v_sw v_ss v_sg)) (va_runS (As := [.ref q, .int z, .int (nI (bl (z >>> ((4 : Int32) &&& 31)) v_ns)), .int (nI (bl (z >>> ((6 : Int32) &&& 31)) v_nw)), .int (nI (bl (z >>> ((5 : Int32) &&& 31)) v_np))]) (rest := []) ⟨hx, hb, hml, hown, hts⟩ (c_L_refused l E q P v_ni v_wa v_un v_ns v_np v_nw v_ng v_ma v_st v_ou v_ru v_so v_mt v_vo v_gi v_ca v_tr v_sw v_ss v_sg z (bl (z >>> ((4 : Int32) &&& 31)) v_ns) (bl (z >>> ((6 : Int32) &&& 31)) v_nw) (bl (z >>> ((5 : Int32) &&& 31)) v_np) hns hnp hnw hng hso hsw ((bl_lt h0s)) ((fun q9 => bl_lt q9)) _) (va_cwS 5 hts gL_act_L_refused rfl rfl rfl hd_L_refused ⟨Nat.le_of_ble_eq_true rfl, Nat.le_of_ble_eq_true rfl⟩) (rpS (AV := [.ref q, .int z, .int (nI (bl (z >>> ((4 : Int32) &&& 31)) v_ns)), .int (nI (bl (z >>> ((6 : Int32) &&& 31)) v_nw)), .int (nI (bl (z >>> ((5 : Int32) &&& 31)) v_np))]) hw hK hG rp_77) rfl rfl hl.1 rfl (lv_room (Nat.le_of_ble_eq_true rfl)) dL_act_90 ⟨Nat.le_of_ble_eq_true rfl, Nat.le_of_ble_eq_true rfl⟩) hw hA rp_77 (fun H locs hw => ?_)
  refine lv_if_eq (tgt := 100) hx hb dL_act_93 (by decide) (fun q8 => absurd q8 (fun q7 => absurd (hbr.symm.trans (bI_z q7)) (by decide))) (fun _ => ?_)
  refine lv_iconst (v := 1) hx hb dL_act_96 (by decide) ?_
  refine lv_goto (tgt := 101) hx hb dL_act_97 (by decide) ?_
  refine lv_istore (lv' := [(6, .int 1), (5, .int (nI (bl (z >>> ((5 : Int32) &&& 31)) v_np))), (4, .int (nI (bl (z >>> ((6 : Int32) &&& 31)) v_nw))), (3, .int (nI (bl (z >>> ((4 : Int32) &&& 31)) v_ns))), (0, .ref x), (1, .ref q), (2, .int z)]) hx hb dL_act_101 hl (by decide) rfl (fun ls hl => ?_)
  refine lv_aload_n hx hb dL_act_103 rfl (lv_at hl 5 rfl) ?_
  refine k_get (ci := 3) (v := .ref (P.1 1)) (C := RX3) (T := TX3) (N := 7) hx hb hown hK hw hts hinX3 21 rfl rfl 3 (by decide) hf9 rfl dL_act_104 ?_
  refine k_lenQ (n := v_ns) hx hb hK hw 22 rfl dL_act_107 ?_
  refine lv_if_ne (tgt := 115) hx hb dL_act_108 (by decide) (fun _ => ?_) (fun q8 => absurd q8 (bl_ne h0s (by omega)))
  refine lv_iload_n hx hb dL_act_115 rfl (lv_at hl 6 rfl) ?_
  refine lv_bipush (v := 18) hx hb dL_act_116 (by decide) ?_
  refine kr_i (ws' := wX x A T B ++ wC E A (B 0) S ++ wC E T (B 0) U ++ wG E B G ++ wS E q P (mkS v_ni v_wa v_un v_ns v_np v_nw v_ng v_ma v_st v_ou v_ru v_so v_mt v_vo v_gi v_ca v_tr v_sw v_ss v_sg)) (va_runS (As := [.int z, .int 18]) (rest := []) ⟨hx, hb, hml, hown, hts⟩ (c_L_below l E z 18 ((by omega)) ((by omega)) _) (va_cwS 2 hts gL_act_L_below rfl rfl rfl hd_L_below ⟨Nat.le_of_ble_eq_true rfl, Nat.le_of_ble_eq_true rfl⟩) (rpS (AV := [.int z, .int 18]) hw hK hG rp_78) rfl rfl hl.1 rfl (lv_room (Nat.le_of_ble_eq_true rfl)) dL_act_118 ⟨Nat.le_of_ble_eq_true rfl, Nat.le_of_ble_eq_true rfl⟩) hw hA rp_78 (fun H locs hw => ?_)
  exact kk _ _ _ hw (lv_sub hl [4, 5, 6, 3, 2, 1, 0] rfl)
