abbrev rm_X3_isSame : Room := { frames := 8, cells := 9, slots := 54, locals := 132 }
set_option maxHeartbeats 4000000 in
set_option maxRecDepth 100000 in
theorem c_X3_isSame (l : Launch) (hflags : l.stackTraces = false) (E : Ev) (x : Nat) (A T B : Nat → Nat) (S U : CS) (G : HS) (q : Nat) (P : AP) (v_ni v_wa v_un : Int32) (v_ns v_np v_nw v_ng : Nat) (v_ma v_st v_ou v_ru : Fn) (v_so : FnN) (v_mt v_vo v_gi v_ca v_tr : Fn) (v_sw v_ss : FnN) (v_sg : Fn) (Kf : Nat → Nat) (hns : v_ns ≤ 5) (hnp : v_np ≤ 16) (hnw : v_nw ≤ 4) (hng : v_ng ≤ 20) (hso : ∀ p, p < v_np → v_so p < v_ns) (hsw : ∀ j, j < v_ng → v_sw j < v_nw) (h1 : ∀ i, i < v_ns → t_ship G (nI i) = 0) (h2 : ∀ p, p < v_np → t_sail G (nI p) = 0) (h3 : ∀ w, w < v_nw → t_wat G (nI w) = 0) (e_ma : ∀ i, i < v_ns → f_at 5 (g_ma G) (nI i) = v_ma i) (e_aw : ∀ i, i < v_ns → bI (decide (¬ f_stay S (nI i) = 0)) = if v_st i ≤ 0 then 0 else 1) (e_lo : ∀ i, i < v_ns → bI (decide (f_stay S (nI i) = 2)) = if v_st i = 2 then 1 else 0) (e_ou : ∀ i, i < v_ns → f_at 5 (c_ou S) (nI i) = v_ou i) (e_ru : ∀ i, i < v_ns → bI (f_is 5 (c_ru S) (nI i)) = if v_ru i = 1 then 1 else 0) (e_ti : ∀ i, i < v_ns → f_trust S (nI i) = l_tin (v_ss) (v_sw) (v_tr) i (v_ng)) (e_vo : ∀ i, i < v_ns → f_voters G (nI i) = l_vot (v_so) (v_vo) (v_gi) i false (v_np)) (e_gi : ∀ i, i < v_ns → f_votes G (nI i) = l_vot (v_so) (v_vo) (v_gi) i true (v_np)) (e_mi : ∀ i, i < v_ns → f_vtl G (nI i) = nI (Kf i)) (e_k1 : ∀ i, i < v_ns → ∀ j, j < Kf i → ¬ l_vot (v_so) (v_vo) (v_gi) i false (v_np) < 2 * (l_vot (v_so) (v_vo) (v_gi) i true (v_np) + nI j)) (e_k2 : ∀ i, i < v_ns → l_vot (v_so) (v_vo) (v_gi) i false (v_np) < 2 * (l_vot (v_so) (v_vo) (v_gi) i true (v_np) + nI (Kf i))) (e_k3 : ∀ i, i < v_ns → Kf i < 1000) (e_sh : ∀ p, p < v_np → f_ship G (nI p) = nI (v_so p)) (e_mt : ∀ p, p < v_np → f_at 16 (g_mt G) (nI p) = v_mt p) (e_hv : ∀ p, p < v_np → bI (f_is 16 (g_vo G) (nI p)) = if v_vo p = 1 then 1 else 0) (e_gu : ∀ p, p < v_np → bI (f_is 16 (g_gi G) (nI p)) = if v_gi p = 1 then 1 else 0) (e_ca : ∀ p, p < v_np → f_at 16 (c_ca S) (nI p) = v_ca p) (e_dk : ∀ p, p < v_np → bI (f_dark G S (nI p)) = bI (f_sdark (v_st) (v_so) (v_ca) p)) (e_tw : ∀ w, w < v_nw → f_at 4 (c_tr S) (nI w) = v_tr w) (t1 : nI (g_sc G) = nI (v_ns)) (t2 : nI (g_pc G) = nI (v_np)) (t3 : nI (g_wc G) = nI (v_nw)) (t4 : l_scnt (c_ag S) 20 = nI (v_ng)) (t5 : c_ni S = v_ni) (t6 : c_wa S = v_wa) (t7 : l_dark G S 16 = l_sdk (v_st) (v_so) (v_ca) (v_np)) (t8 : c_un S = v_un) (t9 : l_lost G S 16 = l_nm (v_st) (v_so) (v_np)) (hn1 : 0 < nI (g_wc G) → vf_n64 (FP.ddiv (FP.i2d (l_sumT (c_tr S) (g_wc G))) (FP.i2d (nI (g_wc G))))) (hwc : g_wc G ≤ 4) (hn2 : ¬ nI (v_nw) = 0 → vf_n64 (FP.ddiv (FP.i2d (l_sm (v_tr) (v_nw))) (FP.i2d (nI (v_nw))))) (t10 : nI (v_nw) = 0 → f_mean G S = 0) (t11 : ¬ nI (v_nw) = 0 → f_mean G S = FP.ddiv (FP.i2d (l_sm (v_tr) (v_nw))) (FP.i2d (nI (v_nw)))) (t12 : FP.dcmp (f_mean G S) (f_mean G S) = some .eq) : XI l E yX3_isSame wsX3_isSame rm_X3_isSame [.ref q, .ref x] (wX x A T B ++ wC E A (B 0) S ++ wC E T (B 0) U ++ wG E B G ++ wS E q P (mkS v_ni v_wa v_un v_ns v_np v_nw v_ng v_ma v_st v_ou v_ru v_so v_mt v_vo v_gi v_ca v_tr v_sw v_ss v_sg)) 0 1 (wX x A T B ++ wC E A (B 0) S ++ wC E T (B 0) U ++ wG E B G ++ wS E q P (mkS v_ni v_wa v_un v_ns v_np v_nw v_ng v_ma v_st v_ou v_ru v_so v_mt v_vo v_gi v_ca v_tr v_sw v_ss v_sg)) := by
  refine k_bXI (cc := cX3_isSame) (maxL := 8) (ret := (some .boolean)) (by decide) rfl (Nat.le_of_ble_eq_true rfl) ?_
  intro p9 e s9 m args below meth c A9 ls hC ht9 hZ hl hw
  obtain ⟨hx, hb, hml, hr, hown, hts, hlocks, hK, hG, hA⟩ := hC
  have hf9 := hts (.fieldLink RX3 9 "SailorCandlesLaw$Sim" "ships" "[[I") (List.mem_of_getElem? (i := 1) rfl)
  have hinX3 : ∀ w ∈ wsX30, w ∈ wsX3_isSame := fun w h => List.mem_cons_of_mem _ (List.mem_append_left _ (List.mem_append_left _ (List.mem_append_left _ (List.mem_append_left _ (List.mem_append_right _ h)))))
  have hf15 := hts (.fieldLink RX3 15 "SailorCandlesLaw$Sim" "sailors" "[[I") (List.mem_of_getElem? (i := 2) rfl)
  have hf18 := hts (.fieldLink RX3 18 "SailorCandlesLaw$Sim" "trust" "[I") (List.mem_of_getElem? (i := 3) rfl)
  have hf21 := hts (.fieldLink RX3 21 "SailorCandlesLaw$Sim" "sights" "[[I") (List.mem_of_getElem? (i := 4) rfl)
  have hf29 := hts (.fieldLink RX3 29 "SailorCandlesLaw$Sim" "night" "I") (List.mem_of_getElem? (i := 5) rfl)
  have hf33 := hts (.fieldLink RX3 33 "SailorCandlesLaw$Sim" "wax" "I") (List.mem_of_getElem? (i := 6) rfl)
  have hf36 := hts (.fieldLink RX3 36 "SailorCandlesLaw$Sim" "unrung" "I") (List.mem_of_getElem? (i := 7) rfl)
  have hl : lv_has ls 8 [(0, .ref q), (1, .ref x)] := hl
  refine lv_iconst (v := 0) hx hb dX3_isSame_0 (by decide) ?_
  refine lv_istore_n (lv' := [(2, .int 0), (0, .ref q), (1, .ref x)]) hx hb dX3_isSame_1 rfl hl (by decide) rfl (fun ls hl => ?_)
  refine lv_iconst (v := 0) hx hb dX3_isSame_2 (by decide) ?_
  refine lv_istore_n (lv' := [(3, .int 0), (2, .int 0), (0, .ref q), (1, .ref x)]) hx hb dX3_isSame_3 rfl hl (by decide) rfl (fun ls hl => ?_)
  have L_4 : ∀ (k9 i : Nat) (H : Heap) (locs : List Loc) (ls : Array Slot), i + k9 = v_ns → Wd E A9 s9.heap (wX x A T B ++ wC E A (B 0) S ++ wC E T (B 0) U ++ wG E B G ++ wS E q P (mkS v_ni v_wa v_un v_ns v_np v_nw v_ng v_ma v_st v_ou v_ru v_so v_mt v_vo v_gi v_ca v_tr v_sw v_ss v_sg)) H locs → lv_has ls 8 [(0, .ref q), (1, .ref x), (2, .int 0), (3, .int (nI i))] → W p9 l e rm_X3_isSame s9 m args below meth c H locs 0 0 (XndI E A9 0 1 (wX x A T B ++ wC E A (B 0) S ++ wC E T (B 0) U ++ wG E B G ++ wS E q P (mkS v_ni v_wa v_un v_ns v_np v_nw v_ng v_ma v_st v_ou v_ru v_so v_mt v_vo v_gi v_ca v_tr v_sw v_ss v_sg)) (wX x A T B ++ wC E A (B 0) S ++ wC E T (B 0) U ++ wG E B G ++ wS E q P (mkS v_ni v_wa v_un v_ns v_np v_nw v_ng v_ma v_st v_ou v_ru v_so v_mt v_vo v_gi v_ca v_tr v_sw v_ss v_sg)) below args s9 (rm_X3_isSame).cells (rm_X3_isSame).slots) (F0 m 4 ls []) := by
    intro k9
    induction k9 with
    | zero =>
      intro i H locs ls hi hw hl
      have hz_1 : v_ns = i := by omega
      refine lv_iload_n hx hb dX3_isSame_4 rfl (lv_at hl 3 rfl) ?_
      refine lv_aload_n hx hb dX3_isSame_5 rfl (lv_at hl 0 rfl) ?_
      refine k_get (ci := 3) (v := .ref (P.1 1)) (C := RX3) (T := TX3) (N := 7) hx hb hown hK hw hts hinX3 21 rfl rfl 3 (by decide) hf9 rfl dX3_isSame_6 ?_
      refine k_lenQ (n := v_ns) hx hb hK hw 22 rfl dX3_isSame_9 ?_
      refine lv_icmp_ge (tgt := 195) hx hb dX3_isSame_10 (by decide) (fun _ => ?_) (fun q8 => absurd (by rw [← hz_1]; exact Int32.le_refl _) q8)
      refine lv_iconst (v := 0) hx hb dX3_isSame_195 (by decide) ?_
      refine lv_istore_n (lv' := [(3, .int 0), (0, .ref q), (1, .ref x), (2, .int 0)]) hx hb dX3_isSame_196 rfl hl (by decide) rfl (fun ls hl => ?_)
      have L_197 : ∀ (k9 p : Nat) (H : Heap) (locs : List Loc) (ls : Array Slot), p + k9 = v_np → Wd E A9 s9.heap (wX x A T B ++ wC E A (B 0) S ++ wC E T (B 0) U ++ wG E B G ++ wS E q P (mkS v_ni v_wa v_un v_ns v_np v_nw v_ng v_ma v_st v_ou v_ru v_so v_mt v_vo v_gi v_ca v_tr v_sw v_ss v_sg)) H locs → lv_has ls 8 [(0, .ref q), (1, .ref x), (2, .int (l_nm (v_st) (v_so) p)), (3, .int (nI p))] → W p9 l e rm_X3_isSame s9 m args below meth c H locs 0 0 (XndI E A9 0 1 (wX x A T B ++ wC E A (B 0) S ++ wC E T (B 0) U ++ wG E B G ++ wS E q P (mkS v_ni v_wa v_un v_ns v_np v_nw v_ng v_ma v_st v_ou v_ru v_so v_mt v_vo v_gi v_ca v_tr v_sw v_ss v_sg)) (wX x A T B ++ wC E A (B 0) S ++ wC E T (B 0) U ++ wG E B G ++ wS E q P (mkS v_ni v_wa v_un v_ns v_np v_nw v_ng v_ma v_st v_ou v_ru v_so v_mt v_vo v_gi v_ca v_tr v_sw v_ss v_sg)) below args s9 (rm_X3_isSame).cells (rm_X3_isSame).slots) (F0 m 197 ls []) := by
        intro k9
        induction k9 with
        | zero =>
          intro p H locs ls hi hw hl
          have hz_2 : v_np = p := by omega
          refine lv_iload_n hx hb dX3_isSame_197 rfl (lv_at hl 3 rfl) ?_
          refine lv_aload_n hx hb dX3_isSame_198 rfl (lv_at hl 0 rfl) ?_
          refine k_get (ci := 3) (v := .ref (P.1 2)) (C := RX3) (T := TX3) (N := 7) hx hb hown hK hw hts hinX3 21 rfl rfl 4 (by decide) hf15 rfl dX3_isSame_199 ?_
          refine k_lenQ (n := v_np) hx hb hK hw 23 rfl dX3_isSame_202 ?_
          refine lv_icmp_ge (tgt := 337) hx hb dX3_isSame_203 (by decide) (fun _ => ?_) (fun q8 => absurd (by rw [← hz_2]; exact Int32.le_refl _) q8)
          rw [← hz_2] at hl
          refine lv_iconst (v := 0) hx hb dX3_isSame_337 (by decide) ?_
          refine lv_istore_n (lv' := [(3, .int 0), (0, .ref q), (1, .ref x), (2, .int (l_nm (v_st) (v_so) (v_np)))]) hx hb dX3_isSame_338 rfl hl (by decide) rfl (fun ls hl => ?_)
          refine lv_iconst (v := 0) hx hb dX3_isSame_339 (by decide) ?_
          refine lv_istore (lv' := [(4, .int 0), (3, .int 0), (0, .ref q), (1, .ref x), (2, .int (l_nm (v_st) (v_so) (v_np)))]) hx hb dX3_isSame_340 hl (by decide) rfl (fun ls hl => ?_)
          have L_342 : ∀ (k9 w : Nat) (H : Heap) (locs : List Loc) (ls : Array Slot), w + k9 = v_nw → Wd E A9 s9.heap (wX x A T B ++ wC E A (B 0) S ++ wC E T (B 0) U ++ wG E B G ++ wS E q P (mkS v_ni v_wa v_un v_ns v_np v_nw v_ng v_ma v_st v_ou v_ru v_so v_mt v_vo v_gi v_ca v_tr v_sw v_ss v_sg)) H locs → lv_has ls 8 [(0, .ref q), (1, .ref x), (2, .int (l_nm (v_st) (v_so) (v_np))), (3, .int (l_sm (v_tr) w)), (4, .int (nI w))] → W p9 l e rm_X3_isSame s9 m args below meth c H locs 0 0 (XndI E A9 0 1 (wX x A T B ++ wC E A (B 0) S ++ wC E T (B 0) U ++ wG E B G ++ wS E q P (mkS v_ni v_wa v_un v_ns v_np v_nw v_ng v_ma v_st v_ou v_ru v_so v_mt v_vo v_gi v_ca v_tr v_sw v_ss v_sg)) (wX x A T B ++ wC E A (B 0) S ++ wC E T (B 0) U ++ wG E B G ++ wS E q P (mkS v_ni v_wa v_un v_ns v_np v_nw v_ng v_ma v_st v_ou v_ru v_so v_mt v_vo v_gi v_ca v_tr v_sw v_ss v_sg)) below args s9 (rm_X3_isSame).cells (rm_X3_isSame).slots) (F0 m 342 ls []) := by
            intro k9
            induction k9 with
            | zero =>
              intro w H locs ls hi hw hl
              have hz_3 : v_nw = w := by omega
              refine lv_iload hx hb dX3_isSame_342 (lv_at hl 4 rfl) ?_
              refine lv_aload_n hx hb dX3_isSame_344 rfl (lv_at hl 0 rfl) ?_
              refine k_get (ci := 3) (v := .ref (P.1 3)) (C := RX3) (T := TX3) (N := 7) hx hb hown hK hw hts hinX3 21 rfl rfl 5 (by decide) hf18 rfl dX3_isSame_345 ?_
              refine k_lenI (n := v_nw) hx hb hK hw 24 rfl dX3_isSame_348 ?_
              refine lv_icmp_ge (tgt := 386) hx hb dX3_isSame_349 (by decide) (fun _ => ?_) (fun q8 => absurd (by rw [← hz_3]; exact Int32.le_refl _) q8)
              rw [← hz_3] at hl
              refine lv_aload_n hx hb dX3_isSame_386 rfl (lv_at hl 1 rfl) ?_
              refine kr_i (ws' := wX x A T B ++ wC E A (B 0) S ++ wC E T (B 0) U ++ wG E B G ++ wS E q P (mkS v_ni v_wa v_un v_ns v_np v_nw v_ng v_ma v_st v_ou v_ru v_so v_mt v_vo v_gi v_ca v_tr v_sw v_ss v_sg)) (va_runV (As := []) (rest := []) ⟨hx, hb, hml, hown, hts⟩ (c_X2_ships l E x A T B S U G  _) (cwV 0 hts gX3_isSame_X2_ships rfl rfl rfl ⟨rfl, hd_X2_ships⟩ ⟨Nat.le_of_ble_eq_true rfl, Nat.le_of_ble_eq_true rfl⟩) (pwV (ci := 2) (q0 := 0) (C := RX2) hw hK rfl rfl rfl (rpS (AV := [.ref x]) hw hK hG rp_76)) rfl rfl hl.1 rfl (lv_room (Nat.le_of_ble_eq_true rfl)) dX3_isSame_387 ⟨Nat.le_of_ble_eq_true rfl, Nat.le_of_ble_eq_true rfl⟩) hw hA rp_76 (fun H locs hw => ?_)
              refine lv_aload_n hx hb dX3_isSame_390 rfl (lv_at hl 0 rfl) ?_
              refine k_get (ci := 3) (v := .ref (P.1 1)) (C := RX3) (T := TX3) (N := 7) hx hb hown hK hw hts hinX3 21 rfl rfl 3 (by decide) hf9 rfl dX3_isSame_391 ?_
              refine k_lenQ (n := v_ns) hx hb hK hw 22 rfl dX3_isSame_394 ?_
              refine lv_icmp_ne (tgt := 519) hx hb dX3_isSame_395 (by decide) (fun q8 => absurd t1 q8) (fun _ => ?_)
              refine lv_aload_n hx hb dX3_isSame_398 rfl (lv_at hl 1 rfl) ?_
              refine kr_i (ws' := wX x A T B ++ wC E A (B 0) S ++ wC E T (B 0) U ++ wG E B G ++ wS E q P (mkS v_ni v_wa v_un v_ns v_np v_nw v_ng v_ma v_st v_ou v_ru v_so v_mt v_vo v_gi v_ca v_tr v_sw v_ss v_sg)) (va_runV (As := []) (rest := []) ⟨hx, hb, hml, hown, hts⟩ (c_X2_sailors l E x A T B S U G  _) (cwV 0 hts gX3_isSame_X2_sailors rfl rfl rfl ⟨rfl, hd_X2_sailors⟩ ⟨Nat.le_of_ble_eq_true rfl, Nat.le_of_ble_eq_true rfl⟩) (pwV (ci := 2) (q0 := 0) (C := RX2) hw hK rfl rfl rfl (rpS (AV := [.ref x]) hw hK hG rp_76)) rfl rfl hl.1 rfl (lv_room (Nat.le_of_ble_eq_true rfl)) dX3_isSame_399 ⟨Nat.le_of_ble_eq_true rfl, Nat.le_of_ble_eq_true rfl⟩) hw hA rp_76 (fun H locs hw => ?_)
              refine lv_aload_n hx hb dX3_isSame_402 rfl (lv_at hl 0 rfl) ?_
              refine k_get (ci := 3) (v := .ref (P.1 2)) (C := RX3) (T := TX3) (N := 7) hx hb hown hK hw hts hinX3 21 rfl rfl 4 (by decide) hf15 rfl dX3_isSame_403 ?_
              refine k_lenQ (n := v_np) hx hb hK hw 23 rfl dX3_isSame_406 ?_
              refine lv_icmp_ne (tgt := 519) hx hb dX3_isSame_407 (by decide) (fun q8 => absurd t2 q8) (fun _ => ?_)
              refine lv_aload_n hx hb dX3_isSame_410 rfl (lv_at hl 1 rfl) ?_
              refine kr_i (ws' := wX x A T B ++ wC E A (B 0) S ++ wC E T (B 0) U ++ wG E B G ++ wS E q P (mkS v_ni v_wa v_un v_ns v_np v_nw v_ng v_ma v_st v_ou v_ru v_so v_mt v_vo v_gi v_ca v_tr v_sw v_ss v_sg)) (va_runV (As := []) (rest := []) ⟨hx, hb, hml, hown, hts⟩ (c_X2_watchers l E x A T B S U G  _) (cwV 0 hts gX3_isSame_X2_watchers rfl rfl rfl ⟨rfl, hd_X2_watchers⟩ ⟨Nat.le_of_ble_eq_true rfl, Nat.le_of_ble_eq_true rfl⟩) (pwV (ci := 2) (q0 := 0) (C := RX2) hw hK rfl rfl rfl (rpS (AV := [.ref x]) hw hK hG rp_76)) rfl rfl hl.1 rfl (lv_room (Nat.le_of_ble_eq_true rfl)) dX3_isSame_411 ⟨Nat.le_of_ble_eq_true rfl, Nat.le_of_ble_eq_true rfl⟩) hw hA rp_76 (fun H locs hw => ?_)
              refine lv_aload_n hx hb dX3_isSame_414 rfl (lv_at hl 0 rfl) ?_
              refine k_get (ci := 3) (v := .ref (P.1 3)) (C := RX3) (T := TX3) (N := 7) hx hb hown hK hw hts hinX3 21 rfl rfl 5 (by decide) hf18 rfl dX3_isSame_415 ?_
              refine k_lenI (n := v_nw) hx hb hK hw 24 rfl dX3_isSame_418 ?_
              refine lv_icmp_ne (tgt := 519) hx hb dX3_isSame_419 (by decide) (fun q8 => absurd t3 q8) (fun _ => ?_)
              refine lv_aload_n hx hb dX3_isSame_422 rfl (lv_at hl 1 rfl) ?_
              refine kr_i (ws' := wX x A T B ++ wC E A (B 0) S ++ wC E T (B 0) U ++ wG E B G ++ wS E q P (mkS v_ni v_wa v_un v_ns v_np v_nw v_ng v_ma v_st v_ou v_ru v_so v_mt v_vo v_gi v_ca v_tr v_sw v_ss v_sg)) (va_runV (As := []) (rest := []) ⟨hx, hb, hml, hown, hts⟩ (c_X2_sightings l E x A T B S U G  _) (cwV 0 hts gX3_isSame_X2_sightings rfl rfl rfl ⟨rfl, hd_X2_sightings⟩ ⟨Nat.le_of_ble_eq_true rfl, Nat.le_of_ble_eq_true rfl⟩) (pwV (ci := 2) (q0 := 0) (C := RX2) hw hK rfl rfl rfl (rpS (AV := [.ref x]) hw hK hG rp_76)) rfl rfl hl.1 rfl (lv_room (Nat.le_of_ble_eq_true rfl)) dX3_isSame_423 ⟨Nat.le_of_ble_eq_true rfl, Nat.le_of_ble_eq_true rfl⟩) hw hA rp_76 (fun H locs hw => ?_)
              refine lv_aload_n hx hb dX3_isSame_426 rfl (lv_at hl 0 rfl) ?_
              refine k_get (ci := 3) (v := .ref (P.1 4)) (C := RX3) (T := TX3) (N := 7) hx hb hown hK hw hts hinX3 21 rfl rfl 6 (by decide) hf21 rfl dX3_isSame_427 ?_
              refine k_lenQ (n := v_ng) hx hb hK hw 25 rfl dX3_isSame_430 ?_
              refine lv_icmp_ne (tgt := 519) hx hb dX3_isSame_431 (by decide) (fun q8 => absurd t4 q8) (fun _ => ?_)
              refine lv_aload_n hx hb dX3_isSame_434 rfl (lv_at hl 1 rfl) ?_
              refine kr_i (ws' := wX x A T B ++ wC E A (B 0) S ++ wC E T (B 0) U ++ wG E B G ++ wS E q P (mkS v_ni v_wa v_un v_ns v_np v_nw v_ng v_ma v_st v_ou v_ru v_so v_mt v_vo v_gi v_ca v_tr v_sw v_ss v_sg)) (va_runV (As := []) (rest := []) ⟨hx, hb, hml, hown, hts⟩ (c_X2_night l E x A T B S U G  _) (cwV 0 hts gX3_isSame_X2_night rfl rfl rfl ⟨rfl, hd_X2_night⟩ ⟨Nat.le_of_ble_eq_true rfl, Nat.le_of_ble_eq_true rfl⟩) (pwV (ci := 2) (q0 := 0) (C := RX2) hw hK rfl rfl rfl (rpS (AV := [.ref x]) hw hK hG rp_76)) rfl rfl hl.1 rfl (lv_room (Nat.le_of_ble_eq_true rfl)) dX3_isSame_435 ⟨Nat.le_of_ble_eq_true rfl, Nat.le_of_ble_eq_true rfl⟩) hw hA rp_76 (fun H locs hw => ?_)
              refine lv_aload_n hx hb dX3_isSame_438 rfl (lv_at hl 0 rfl) ?_
              refine k_get (ci := 3) (v := .int v_ni) (C := RX3) (T := TX3) (N := 7) hx hb hown hK hw hts hinX3 21 rfl rfl 0 (by decide) hf29 rfl dX3_isSame_439 ?_
              refine lv_icmp_ne (tgt := 519) hx hb dX3_isSame_442 (by decide) (fun q8 => absurd t5 q8) (fun _ => ?_)
              refine lv_aload_n hx hb dX3_isSame_445 rfl (lv_at hl 1 rfl) ?_
              refine kr_i (ws' := wX x A T B ++ wC E A (B 0) S ++ wC E T (B 0) U ++ wG E B G ++ wS E q P (mkS v_ni v_wa v_un v_ns v_np v_nw v_ng v_ma v_st v_ou v_ru v_so v_mt v_vo v_gi v_ca v_tr v_sw v_ss v_sg)) (va_runV (As := []) (rest := []) ⟨hx, hb, hml, hown, hts⟩ (c_X2_wax l E x A T B S U G  _) (cwV 0 hts gX3_isSame_X2_wax rfl rfl rfl ⟨rfl, hd_X2_wax⟩ ⟨Nat.le_of_ble_eq_true rfl, Nat.le_of_ble_eq_true rfl⟩) (pwV (ci := 2) (q0 := 0) (C := RX2) hw hK rfl rfl rfl (rpS (AV := [.ref x]) hw hK hG rp_76)) rfl rfl hl.1 rfl (lv_room (Nat.le_of_ble_eq_true rfl)) dX3_isSame_446 ⟨Nat.le_of_ble_eq_true rfl, Nat.le_of_ble_eq_true rfl⟩) hw hA rp_76 (fun H locs hw => ?_)
              refine lv_aload_n hx hb dX3_isSame_449 rfl (lv_at hl 0 rfl) ?_
              refine k_get (ci := 3) (v := .int v_wa) (C := RX3) (T := TX3) (N := 7) hx hb hown hK hw hts hinX3 21 rfl rfl 1 (by decide) hf33 rfl dX3_isSame_450 ?_
              refine lv_icmp_ne (tgt := 519) hx hb dX3_isSame_453 (by decide) (fun q8 => absurd t6 q8) (fun _ => ?_)
              refine lv_aload_n hx hb dX3_isSame_456 rfl (lv_at hl 1 rfl) ?_
              refine kr_i (ws' := wX x A T B ++ wC E A (B 0) S ++ wC E T (B 0) U ++ wG E B G ++ wS E q P (mkS v_ni v_wa v_un v_ns v_np v_nw v_ng v_ma v_st v_ou v_ru v_so v_mt v_vo v_gi v_ca v_tr v_sw v_ss v_sg)) (va_runV (As := []) (rest := []) ⟨hx, hb, hml, hown, hts⟩ (c_X2_darkCandles l E x A T B S U G  _) (cwV 0 hts gX3_isSame_X2_darkCandles rfl rfl rfl ⟨rfl, hd_X2_darkCandles⟩ ⟨Nat.le_of_ble_eq_true rfl, Nat.le_of_ble_eq_true rfl⟩) (pwV (ci := 2) (q0 := 0) (C := RX2) hw hK rfl rfl rfl (rpS (AV := [.ref x]) hw hK hG rp_76)) rfl rfl hl.1 rfl (lv_room (Nat.le_of_ble_eq_true rfl)) dX3_isSame_457 ⟨Nat.le_of_ble_eq_true rfl, Nat.le_of_ble_eq_true rfl⟩) hw hA rp_76 (fun H locs hw => ?_)
              refine lv_aload_n hx hb dX3_isSame_460 rfl (lv_at hl 0 rfl) ?_
              refine kr_i (ws' := wX x A T B ++ wC E A (B 0) S ++ wC E T (B 0) U ++ wG E B G ++ wS E q P (mkS v_ni v_wa v_un v_ns v_np v_nw v_ng v_ma v_st v_ou v_ru v_so v_mt v_vo v_gi v_ca v_tr v_sw v_ss v_sg)) (va_runV (As := []) (rest := [.int (l_dark G S 16)]) ⟨hx, hb, hml, hown, hts⟩ (c_X3_dark l E q P v_ni v_wa v_un v_ns v_np v_nw v_ng v_ma v_st v_ou v_ru v_so v_mt v_vo v_gi v_ca v_tr v_sw v_ss v_sg hns hnp hnw hng hso hsw _) (cwV 0 hts gX3_isSame_X3_dark rfl rfl rfl ⟨rfl, hd_X3_dark⟩ ⟨Nat.le_of_ble_eq_true rfl, Nat.le_of_ble_eq_true rfl⟩) (pwV (ci := 3) (q0 := 21) (C := RX3) hw hK rfl rfl rfl (rpS (AV := [.ref q]) hw hK hG rp_77)) rfl rfl hl.1 rfl (lv_room (Nat.le_of_ble_eq_true rfl)) dX3_isSame_461 ⟨Nat.le_of_ble_eq_true rfl, Nat.le_of_ble_eq_true rfl⟩) hw hA rp_77 (fun H locs hw => ?_)
              refine lv_icmp_ne (tgt := 519) hx hb dX3_isSame_464 (by decide) (fun q8 => absurd t7 q8) (fun _ => ?_)
              refine lv_aload_n hx hb dX3_isSame_467 rfl (lv_at hl 1 rfl) ?_
              refine kr_i (ws' := wX x A T B ++ wC E A (B 0) S ++ wC E T (B 0) U ++ wG E B G ++ wS E q P (mkS v_ni v_wa v_un v_ns v_np v_nw v_ng v_ma v_st v_ou v_ru v_so v_mt v_vo v_gi v_ca v_tr v_sw v_ss v_sg)) (va_runV (As := []) (rest := []) ⟨hx, hb, hml, hown, hts⟩ (c_X2_bellsUnrung l E x A T B S U G  _) (cwV 0 hts gX3_isSame_X2_bellsUnrung rfl rfl rfl ⟨rfl, hd_X2_bellsUnrung⟩ ⟨Nat.le_of_ble_eq_true rfl, Nat.le_of_ble_eq_true rfl⟩) (pwV (ci := 2) (q0 := 0) (C := RX2) hw hK rfl rfl rfl (rpS (AV := [.ref x]) hw hK hG rp_76)) rfl rfl hl.1 rfl (lv_room (Nat.le_of_ble_eq_true rfl)) dX3_isSame_468 ⟨Nat.le_of_ble_eq_true rfl, Nat.le_of_ble_eq_true rfl⟩) hw hA rp_76 (fun H locs hw => ?_)
              refine lv_aload_n hx hb dX3_isSame_471 rfl (lv_at hl 0 rfl) ?_
              refine k_get (ci := 3) (v := .int v_un) (C := RX3) (T := TX3) (N := 7) hx hb hown hK hw hts hinX3 21 rfl rfl 2 (by decide) hf36 rfl dX3_isSame_472 ?_
              refine lv_icmp_ne (tgt := 519) hx hb dX3_isSame_475 (by decide) (fun q8 => absurd t8 q8) (fun _ => ?_)
              refine lv_aload_n hx hb dX3_isSame_478 rfl (lv_at hl 1 rfl) ?_
              refine kr_i (ws' := wX x A T B ++ wC E A (B 0) S ++ wC E T (B 0) U ++ wG E B G ++ wS E q P (mkS v_ni v_wa v_un v_ns v_np v_nw v_ng v_ma v_st v_ou v_ru v_so v_mt v_vo v_gi v_ca v_tr v_sw v_ss v_sg)) (va_runV (As := []) (rest := []) ⟨hx, hb, hml, hown, hts⟩ (c_X2_namesOnWall l E x A T B S U G  _) (cwV 0 hts gX3_isSame_X2_namesOnWall rfl rfl rfl ⟨rfl, hd_X2_namesOnWall⟩ ⟨Nat.le_of_ble_eq_true rfl, Nat.le_of_ble_eq_true rfl⟩) (pwV (ci := 2) (q0 := 0) (C := RX2) hw hK rfl rfl rfl (rpS (AV := [.ref x]) hw hK hG rp_76)) rfl rfl hl.1 rfl (lv_room (Nat.le_of_ble_eq_true rfl)) dX3_isSame_479 ⟨Nat.le_of_ble_eq_true rfl, Nat.le_of_ble_eq_true rfl⟩) hw hA rp_76 (fun H locs hw => ?_)
              refine lv_iload_n hx hb dX3_isSame_482 rfl (lv_at hl 2 rfl) ?_
              refine lv_icmp_ne (tgt := 519) hx hb dX3_isSame_483 (by decide) (fun q8 => absurd t9 q8) (fun _ => ?_)
              refine lv_aload_n hx hb dX3_isSame_486 rfl (lv_at hl 1 rfl) ?_
              refine kr_d (ws' := wX x A T B ++ wC E A (B 0) S ++ wC E T (B 0) U ++ wG E B G ++ wS E q P (mkS v_ni v_wa v_un v_ns v_np v_nw v_ng v_ma v_st v_ou v_ru v_so v_mt v_vo v_gi v_ca v_tr v_sw v_ss v_sg)) (va_runV (As := []) (rest := []) ⟨hx, hb, hml, hown, hts⟩ (c_X2_meanTrust l E x A T B S U G (hn1) (hwc) _) (cwV 0 hts gX3_isSame_X2_meanTrust rfl rfl rfl ⟨rfl, hd_X2_meanTrust⟩ ⟨Nat.le_of_ble_eq_true rfl, Nat.le_of_ble_eq_true rfl⟩) (pwV (ci := 2) (q0 := 0) (C := RX2) hw hK rfl rfl rfl (rpS (AV := [.ref x]) hw hK hG rp_76)) rfl rfl hl.1 rfl (lv_room (Nat.le_of_ble_eq_true rfl)) dX3_isSame_487 ⟨Nat.le_of_ble_eq_true rfl, Nat.le_of_ble_eq_true rfl⟩) hw hA rp_76 (fun H locs hw => ?_)
              refine lv_aload_n hx hb dX3_isSame_490 rfl (lv_at hl 0 rfl) ?_
              refine k_get (ci := 3) (v := .ref (P.1 3)) (C := RX3) (T := TX3) (N := 7) hx hb hown hK hw hts hinX3 21 rfl rfl 5 (by decide) hf18 rfl dX3_isSame_491 ?_
              refine k_lenI (n := v_nw) hx hb hK hw 24 rfl dX3_isSame_494 ?_
              refine lv_if_ne (tgt := 502) hx hb dX3_isSame_495 (by decide) (fun c_4 => ?_) (fun c_4 => ?_)
              · have c_4 : ¬ (nI v_nw : Int32) = 0 := c_4
                refine lv_iload_n hx hb dX3_isSame_502 rfl (lv_at hl 3 rfl) ?_
                refine lv_i2d hx hb dX3_isSame_503 ?_
                refine lv_aload_n hx hb dX3_isSame_504 rfl (lv_at hl 0 rfl) ?_
                refine k_get (ci := 3) (v := .ref (P.1 3)) (C := RX3) (T := TX3) (N := 7) hx hb hown hK hw hts hinX3 21 rfl rfl 5 (by decide) hf18 rfl dX3_isSame_505 ?_
                refine k_lenI (n := v_nw) hx hb hK hw 24 rfl dX3_isSame_508 ?_
                refine lv_i2d hx hb dX3_isSame_509 ?_
                refine lv_ddiv hx hb dX3_isSame_510 (hn2 c_4) ?_
                refine k_dcmpE hx hb dX3_isSame_511 ((by first | exact t10 (by rw [c_4]) | exact t10 c_4 | exact t11 c_4)) (t12) ?_
                refine lv_if_ne (tgt := 519) hx hb dX3_isSame_512 (by decide) (fun q8 => absurd (by decide) q8) (fun _ => ?_)
                refine lv_iconst (v := 1) hx hb dX3_isSame_515 (by decide) ?_
                refine lv_goto (tgt := 520) hx hb dX3_isSame_516 (by decide) ?_
                refine W.widen (k := (rm_X3_isSame).cells) (n := (rm_X3_isSame).slots) (Nat.le_of_ble_eq_true rfl) (Nat.le_of_ble_eq_true rfl) ?_
                exact k_xiret hx hb hr hlocks hK hw rfl dX3_isSame_520 (by subst hz_3 hz_2 hz_1; exact rfl) rfl rfl
              · have c_4 : (nI v_nw : Int32) = 0 := c_4
                refine lv_dconst0 hx hb dX3_isSame_498 ?_
                refine lv_goto (tgt := 511) hx hb dX3_isSame_499 (by decide) ?_
                refine k_dcmpE hx hb dX3_isSame_511 ((by first | exact t10 (by rw [c_4]) | exact t10 c_4 | exact t11 c_4)) (t12) ?_
                refine lv_if_ne (tgt := 519) hx hb dX3_isSame_512 (by decide) (fun q8 => absurd (by decide) q8) (fun _ => ?_)
                refine lv_iconst (v := 1) hx hb dX3_isSame_515 (by decide) ?_
                refine lv_goto (tgt := 520) hx hb dX3_isSame_516 (by decide) ?_
                refine W.widen (k := (rm_X3_isSame).cells) (n := (rm_X3_isSame).slots) (Nat.le_of_ble_eq_true rfl) (Nat.le_of_ble_eq_true rfl) ?_
                exact k_xiret hx hb hr hlocks hK hw rfl dX3_isSame_520 (by subst hz_3 hz_2 hz_1; exact rfl) rfl rfl
            | succ k9 ih_342 =>
              intro w H locs ls hi hw hl
              have hi9 : w < v_nw := by omega
              refine lv_iload hx hb dX3_isSame_342 (lv_at hl 4 rfl) ?_
              refine lv_aload_n hx hb dX3_isSame_344 rfl (lv_at hl 0 rfl) ?_
              refine k_get (ci := 3) (v := .ref (P.1 3)) (C := RX3) (T := TX3) (N := 7) hx hb hown hK hw hts hinX3 21 rfl rfl 5 (by decide) hf18 rfl dX3_isSame_345 ?_
              refine k_lenI (n := v_nw) hx hb hK hw 24 rfl dX3_isSame_348 ?_
              refine lv_icmp_ge (tgt := 386) hx hb dX3_isSame_349 (by decide) (fun q8 => absurd q8 (nI_ge (a := w) (b := v_nw) (by omega) (by omega))) (fun _ => ?_)
              refine lv_aload_n hx hb dX3_isSame_352 rfl (lv_at hl 1 rfl) ?_
              refine lv_iload hx hb dX3_isSame_353 (lv_at hl 4 rfl) ?_
              refine krx_i (ws' := wX x A T B ++ wC E A (B 0) S ++ wC E T (B 0) U ++ wG E B G ++ wS E q P (mkS v_ni v_wa v_un v_ns v_np v_nw v_ng v_ma v_st v_ou v_ru v_so v_mt v_vo v_gi v_ca v_tr v_sw v_ss v_sg)) (vx_runV (As := [.int (nI w)]) (rest := []) ⟨hx, hb, hml, hown, hts⟩ (c_X2_trustOf l hflags E x A T B S U G (nI w)  _) (cwV 1 hts gX3_isSame_X2_trustOf rfl rfl rfl ⟨rfl, hd_X2_trustOf⟩ ⟨Nat.le_of_ble_eq_true rfl, Nat.le_of_ble_eq_true rfl⟩) (pwV (ci := 2) (q0 := 0) (C := RX2) hw hK rfl rfl rfl (rpX (AV := [.ref x, .int (nI w)]) hw hK hG hZ hA rp_76)) rfl rfl hl.1 rfl (lv_room (Nat.le_of_ble_eq_true rfl)) dX3_isSame_355 ⟨Nat.le_of_ble_eq_true rfl, Nat.le_of_ble_eq_true rfl⟩) hw hA rp_76 rp_76 (fun H locs ce9 q9 t_5 hw hy1 hy2 hy3 => absurd (h3 w hi9) t_5) (fun H locs t_5 hw => ?_)
              refine lv_aload_n hx hb dX3_isSame_358 rfl (lv_at hl 0 rfl) ?_
              refine k_get (ci := 3) (v := .ref (P.1 3)) (C := RX3) (T := TX3) (N := 7) hx hb hown hK hw hts hinX3 21 rfl rfl 5 (by decide) hf18 rfl dX3_isSame_359 ?_
              refine lv_iload hx hb dX3_isSame_362 (lv_at hl 4 rfl) ?_
              refine k_ildN (i := w) (n := v_nw) (f := v_tr) hx hb hK hw 24 rfl (show w < v_nw from by omega) (show v_nw < 2 ^ 31 by omega) dX3_isSame_364 ?_
              refine lv_icmp_eq (tgt := 370) hx hb dX3_isSame_365 (by decide) (fun _ => ?_) (fun q8 => absurd (e_tw w hi9) q8)
              refine lv_iload_n hx hb dX3_isSame_370 rfl (lv_at hl 3 rfl) ?_
              refine lv_aload_n hx hb dX3_isSame_371 rfl (lv_at hl 0 rfl) ?_
              refine k_get (ci := 3) (v := .ref (P.1 3)) (C := RX3) (T := TX3) (N := 7) hx hb hown hK hw hts hinX3 21 rfl rfl 5 (by decide) hf18 rfl dX3_isSame_372 ?_
              refine lv_iload hx hb dX3_isSame_375 (lv_at hl 4 rfl) ?_
              refine k_ildN (i := w) (n := v_nw) (f := v_tr) hx hb hK hw 24 rfl (show w < v_nw from by omega) (show v_nw < 2 ^ 31 by omega) dX3_isSame_377 ?_
              refine lv_iadd hx hb dX3_isSame_378 ?_
              refine lv_istore_n (lv' := [(3, .int ((l_sm (v_tr) w) + (v_tr w))), (0, .ref q), (1, .ref x), (2, .int (l_nm (v_st) (v_so) (v_np))), (4, .int (nI w))]) hx hb dX3_isSame_379 rfl hl (by decide) rfl (fun ls hl => ?_)
              refine lv_iinc (v := nI (w + 1)) (lv' := [(4, .int (nI (w + 1))), (3, .int ((l_sm (v_tr) w) + (v_tr w))), (0, .ref q), (1, .ref x), (2, .int (l_nm (v_st) (v_so) (v_np)))]) hx hb dX3_isSame_380 hl (k := 4) rfl (nI_add w 1) (by decide) rfl (fun ls hl => ?_)
              refine lv_goto (tgt := 342) hx hb dX3_isSame_383 (by decide) ?_
              exact ih_342 (w + 1) _ _ _ (by omega) hw (by rw [show (.int (l_sm (v_tr) (w + 1)) : Value) = .int ((l_sm (v_tr) w) + (v_tr w)) from (by subst hz_2 hz_1; first | rfl | (simp only [l_nm, l_sm, l_nm, l_sm, if_true, if_false, Bool.false_eq_true, Bool.true_eq_false, reduceIte, reduceCtorEq]; done) | (simp only [l_nm, l_sm, if_pos CL]; done) | (simp only [l_nm, l_sm, if_neg CL]; done))]; exact lv_sub hl [2, 3, 4, 1, 0] rfl)
          exact L_342 (v_nw - 0) 0 _ _ _ (by omega) hw (lv_sub hl [2, 3, 4, 1, 0] rfl)
        | succ k9 ih_197 =>
          intro p H locs ls hi hw hl
          have hi9 : p < v_np := by omega
          refine lv_iload_n hx hb dX3_isSame_197 rfl (lv_at hl 3 rfl) ?_
          refine lv_aload_n hx hb dX3_isSame_198 rfl (lv_at hl 0 rfl) ?_
          refine k_get (ci := 3) (v := .ref (P.1 2)) (C := RX3) (T := TX3) (N := 7) hx hb hown hK hw hts hinX3 21 rfl rfl 4 (by decide) hf15 rfl dX3_isSame_199 ?_
          refine k_lenQ (n := v_np) hx hb hK hw 23 rfl dX3_isSame_202 ?_
          refine lv_icmp_ge (tgt := 337) hx hb dX3_isSame_203 (by decide) (fun q8 => absurd q8 (nI_ge (a := p) (b := v_np) (by omega) (by omega))) (fun _ => ?_)
          refine lv_aload_n hx hb dX3_isSame_206 rfl (lv_at hl 0 rfl) ?_
          refine k_get (ci := 3) (v := .ref (P.1 2)) (C := RX3) (T := TX3) (N := 7) hx hb hown hK hw hts hinX3 21 rfl rfl 4 (by decide) hf15 rfl dX3_isSame_207 ?_
          refine lv_iload_n hx hb dX3_isSame_210 rfl (lv_at hl 3 rfl) ?_
          refine k_qld (i := p) (y := P.2.2.1 p) (n := v_np) hx hb hK hw 23 rfl (show p < v_np from by omega) (show v_np < 2 ^ 31 by omega) rfl dX3_isSame_211 ?_
          refine lv_astore (lv' := [(4, .ref (P.2.2.1 p)), (0, .ref q), (1, .ref x), (2, .int (l_nm (v_st) (v_so) p)), (3, .int (nI p))]) hx hb dX3_isSame_212 hl (by decide) rfl (fun ls hl => ?_)
          refine lv_iload_n hx hb dX3_isSame_214 rfl (lv_at hl 3 rfl) ?_
          refine lv_aload_n hx hb dX3_isSame_215 rfl (lv_at hl 1 rfl) ?_
          refine k_get (ci := 3) (v := .ref (P.1 1)) (C := RX3) (T := TX3) (N := 7) hx hb hown hK hw hts hinX3 21 rfl rfl 3 (by decide) hf9 rfl dX3_isSame_216 ?_
          refine lv_aload hx hb dX3_isSame_219 (lv_at hl 0 rfl) ?_
          refine lv_iconst (v := 0) hx hb dX3_isSame_221 (by decide) ?_
          refine k_ildP (i := 0) (v := nI (v_so p)) hx hb hK hw (Pk.l (Pk_5 (i := p) (show p < v_np from by omega))) (by decide) (by decide) rfl dX3_isSame_222 ?_
          refine k_qld (i := v_so p) (y := P.2.1 (v_so p)) (n := v_ns) hx hb hK hw 22 rfl (show v_so p < v_ns from by have := hso p (by omega); omega) (show v_ns < 2 ^ 31 by omega) rfl dX3_isSame_223 ?_
          refine lv_iconst (v := 1) hx hb dX3_isSame_224 (by decide) ?_
          refine k_ildP (i := 1) (v := v_st (v_so p)) hx hb hK hw (Pk.l (Pk_4 (i := v_so p) (show v_so p < v_ns from by have := hso p (by omega); omega))) (by decide) (by decide) rfl dX3_isSame_225 ?_
          refine lv_iconst (v := 2) hx hb dX3_isSame_226 (by decide) ?_
          refine lv_icmp_ne (tgt := 234) hx hb dX3_isSame_227 (by decide) (fun c_6 => ?_) (fun c_6 => ?_)
          · have c_6 : ¬ (v_st (v_so p) : Int32) = 2 := c_6
            refine lv_iconst (v := 0) hx hb dX3_isSame_234 (by decide) ?_
            refine lv_iadd hx hb dX3_isSame_235 ?_
            refine lv_istore_n (lv' := [(2, .int ((l_nm (v_st) (v_so) p) + 0)), (4, .ref (P.2.2.1 p)), (0, .ref q), (1, .ref x), (3, .int (nI p))]) hx hb dX3_isSame_236 rfl hl (by decide) rfl (fun ls hl => ?_)
            refine lv_aload_n hx hb dX3_isSame_237 rfl (lv_at hl 3 rfl) ?_
            refine lv_iload_n hx hb dX3_isSame_238 rfl (lv_at hl 4 rfl) ?_
            refine krx_i (ws' := wX x A T B ++ wC E A (B 0) S ++ wC E T (B 0) U ++ wG E B G ++ wS E q P (mkS v_ni v_wa v_un v_ns v_np v_nw v_ng v_ma v_st v_ou v_ru v_so v_mt v_vo v_gi v_ca v_tr v_sw v_ss v_sg)) (vx_runV (As := [.int (nI p)]) (rest := []) ⟨hx, hb, hml, hown, hts⟩ (c_X2_shipOf l hflags E x A T B S U G (nI p)  _) (cwV 1 hts gX3_isSame_X2_shipOf rfl rfl rfl ⟨rfl, hd_X2_shipOf⟩ ⟨Nat.le_of_ble_eq_true rfl, Nat.le_of_ble_eq_true rfl⟩) (pwV (ci := 2) (q0 := 0) (C := RX2) hw hK rfl rfl rfl (rpX (AV := [.ref x, .int (nI p)]) hw hK hG hZ hA rp_76)) rfl rfl hl.1 rfl (lv_room (Nat.le_of_ble_eq_true rfl)) dX3_isSame_239 ⟨Nat.le_of_ble_eq_true rfl, Nat.le_of_ble_eq_true rfl⟩) hw hA rp_76 rp_76 (fun H locs ce9 q9 t_7 hw hy1 hy2 hy3 => absurd (h2 p hi9) t_7) (fun H locs t_7 hw => ?_)
            refine lv_aload hx hb dX3_isSame_242 (lv_at hl 1 rfl) ?_
            refine lv_iconst (v := 0) hx hb dX3_isSame_244 (by decide) ?_
            refine k_ildP (i := 0) (v := nI (v_so p)) hx hb hK hw (Pk.l (Pk_5 (i := p) (show p < v_np from by omega))) (by decide) (by decide) rfl dX3_isSame_245 ?_
            refine lv_icmp_ne (tgt := 329) hx hb dX3_isSame_246 (by decide) (fun q8 => absurd (e_sh p hi9) q8) (fun _ => ?_)
            refine lv_aload_n hx hb dX3_isSame_249 rfl (lv_at hl 3 rfl) ?_
            refine lv_iload_n hx hb dX3_isSame_250 rfl (lv_at hl 4 rfl) ?_
            refine krx_i (ws' := wX x A T B ++ wC E A (B 0) S ++ wC E T (B 0) U ++ wG E B G ++ wS E q P (mkS v_ni v_wa v_un v_ns v_np v_nw v_ng v_ma v_st v_ou v_ru v_so v_mt v_vo v_gi v_ca v_tr v_sw v_ss v_sg)) (vx_runV (As := [.int (nI p)]) (rest := []) ⟨hx, hb, hml, hown, hts⟩ (c_X2_mastOf l hflags E x A T B S U G (nI p)  _) (cwV 1 hts gX3_isSame_X2_mastOf rfl rfl rfl ⟨rfl, hd_X2_mastOf⟩ ⟨Nat.le_of_ble_eq_true rfl, Nat.le_of_ble_eq_true rfl⟩) (pwV (ci := 2) (q0 := 0) (C := RX2) hw hK rfl rfl rfl (rpX (AV := [.ref x, .int (nI p)]) hw hK hG hZ hA rp_76)) rfl rfl hl.1 rfl (lv_room (Nat.le_of_ble_eq_true rfl)) dX3_isSame_251 ⟨Nat.le_of_ble_eq_true rfl, Nat.le_of_ble_eq_true rfl⟩) hw hA rp_76 rp_76 (fun H locs ce9 q9 t_8 hw hy1 hy2 hy3 => absurd (h2 p hi9) t_8) (fun H locs t_8 hw => ?_)
            refine lv_aload hx hb dX3_isSame_254 (lv_at hl 1 rfl) ?_
            refine lv_iconst (v := 1) hx hb dX3_isSame_256 (by decide) ?_
            refine k_ildP (i := 1) (v := v_mt p) hx hb hK hw (Pk.l (Pk_5 (i := p) (show p < v_np from by omega))) (by decide) (by decide) rfl dX3_isSame_257 ?_
            refine lv_icmp_ne (tgt := 329) hx hb dX3_isSame_258 (by decide) (fun q8 => absurd (e_mt p hi9) q8) (fun _ => ?_)
            refine lv_aload_n hx hb dX3_isSame_261 rfl (lv_at hl 3 rfl) ?_
            refine lv_iload_n hx hb dX3_isSame_262 rfl (lv_at hl 4 rfl) ?_
            refine krx_i (ws' := wX x A T B ++ wC E A (B 0) S ++ wC E T (B 0) U ++ wG E B G ++ wS E q P (mkS v_ni v_wa v_un v_ns v_np v_nw v_ng v_ma v_st v_ou v_ru v_so v_mt v_vo v_gi v_ca v_tr v_sw v_ss v_sg)) (vx_runV (As := [.int (nI p)]) (rest := []) ⟨hx, hb, hml, hown, hts⟩ (c_X2_hasVoter l hflags E x A T B S U G (nI p)  _) (cwV 1 hts gX3_isSame_X2_hasVoter rfl rfl rfl ⟨rfl, hd_X2_hasVoter⟩ ⟨Nat.le_of_ble_eq_true rfl, Nat.le_of_ble_eq_true rfl⟩) (pwV (ci := 2) (q0 := 0) (C := RX2) hw hK rfl rfl rfl (rpX (AV := [.ref x, .int (nI p)]) hw hK hG hZ hA rp_76)) rfl rfl hl.1 rfl (lv_room (Nat.le_of_ble_eq_true rfl)) dX3_isSame_263 ⟨Nat.le_of_ble_eq_true rfl, Nat.le_of_ble_eq_true rfl⟩) hw hA rp_76 rp_76 (fun H locs ce9 q9 t_9 hw hy1 hy2 hy3 => absurd (h2 p hi9) t_9) (fun H locs t_9 hw => ?_)
            refine lv_aload hx hb dX3_isSame_266 (lv_at hl 1 rfl) ?_
            refine lv_iconst (v := 2) hx hb dX3_isSame_268 (by decide) ?_
            refine k_ildP (i := 2) (v := v_vo p) hx hb hK hw (Pk.l (Pk_5 (i := p) (show p < v_np from by omega))) (by decide) (by decide) rfl dX3_isSame_269 ?_
            refine lv_iconst (v := 1) hx hb dX3_isSame_270 (by decide) ?_
            refine lv_icmp_ne (tgt := 278) hx hb dX3_isSame_271 (by decide) (fun c_10 => ?_) (fun c_10 => ?_)
            · have c_10 : ¬ (v_vo p : Int32) = 1 := c_10
              refine lv_iconst (v := 0) hx hb dX3_isSame_278 (by decide) ?_
              refine lv_icmp_ne (tgt := 329) hx hb dX3_isSame_279 (by decide) (fun q8 => absurd (by rw [e_hv p hi9]; first | exact if_pos c_10 | exact if_neg c_10) q8) (fun _ => ?_)
              refine lv_aload_n hx hb dX3_isSame_282 rfl (lv_at hl 3 rfl) ?_
              refine lv_iload_n hx hb dX3_isSame_283 rfl (lv_at hl 4 rfl) ?_
              refine krx_i (ws' := wX x A T B ++ wC E A (B 0) S ++ wC E T (B 0) U ++ wG E B G ++ wS E q P (mkS v_ni v_wa v_un v_ns v_np v_nw v_ng v_ma v_st v_ou v_ru v_so v_mt v_vo v_gi v_ca v_tr v_sw v_ss v_sg)) (vx_runV (As := [.int (nI p)]) (rest := []) ⟨hx, hb, hml, hown, hts⟩ (c_X2_isGivenUp l hflags E x A T B S U G (nI p)  _) (cwV 1 hts gX3_isSame_X2_isGivenUp rfl rfl rfl ⟨rfl, hd_X2_isGivenUp⟩ ⟨Nat.le_of_ble_eq_true rfl, Nat.le_of_ble_eq_true rfl⟩) (pwV (ci := 2) (q0 := 0) (C := RX2) hw hK rfl rfl rfl (rpX (AV := [.ref x, .int (nI p)]) hw hK hG hZ hA rp_76)) rfl rfl hl.1 rfl (lv_room (Nat.le_of_ble_eq_true rfl)) dX3_isSame_284 ⟨Nat.le_of_ble_eq_true rfl, Nat.le_of_ble_eq_true rfl⟩) hw hA rp_76 rp_76 (fun H locs ce9 q9 t_11 hw hy1 hy2 hy3 => absurd (h2 p hi9) t_11) (fun H locs t_11 hw => ?_)
              refine lv_aload hx hb dX3_isSame_287 (lv_at hl 1 rfl) ?_
              refine lv_iconst (v := 3) hx hb dX3_isSame_289 (by decide) ?_
              refine k_ildP (i := 3) (v := v_gi p) hx hb hK hw (Pk.l (Pk_5 (i := p) (show p < v_np from by omega))) (by decide) (by decide) rfl dX3_isSame_290 ?_
              refine lv_iconst (v := 1) hx hb dX3_isSame_291 (by decide) ?_
              refine lv_icmp_ne (tgt := 299) hx hb dX3_isSame_292 (by decide) (fun c_12 => ?_) (fun c_12 => ?_)
              · have c_12 : ¬ (v_gi p : Int32) = 1 := c_12
                refine lv_iconst (v := 0) hx hb dX3_isSame_299 (by decide) ?_
                refine lv_icmp_ne (tgt := 329) hx hb dX3_isSame_300 (by decide) (fun q8 => absurd (by rw [e_gu p hi9]; first | exact if_pos c_12 | exact if_neg c_12) q8) (fun _ => ?_)
                refine lv_aload_n hx hb dX3_isSame_303 rfl (lv_at hl 3 rfl) ?_
                refine lv_iload_n hx hb dX3_isSame_304 rfl (lv_at hl 4 rfl) ?_
                refine krx_i (ws' := wX x A T B ++ wC E A (B 0) S ++ wC E T (B 0) U ++ wG E B G ++ wS E q P (mkS v_ni v_wa v_un v_ns v_np v_nw v_ng v_ma v_st v_ou v_ru v_so v_mt v_vo v_gi v_ca v_tr v_sw v_ss v_sg)) (vx_runV (As := [.int (nI p)]) (rest := []) ⟨hx, hb, hml, hown, hts⟩ (c_X2_candleOf l hflags E x A T B S U G (nI p)  _) (cwV 1 hts gX3_isSame_X2_candleOf rfl rfl rfl ⟨rfl, hd_X2_candleOf⟩ ⟨Nat.le_of_ble_eq_true rfl, Nat.le_of_ble_eq_true rfl⟩) (pwV (ci := 2) (q0 := 0) (C := RX2) hw hK rfl rfl rfl (rpX (AV := [.ref x, .int (nI p)]) hw hK hG hZ hA rp_76)) rfl rfl hl.1 rfl (lv_room (Nat.le_of_ble_eq_true rfl)) dX3_isSame_305 ⟨Nat.le_of_ble_eq_true rfl, Nat.le_of_ble_eq_true rfl⟩) hw hA rp_76 rp_76 (fun H locs ce9 q9 t_13 hw hy1 hy2 hy3 => absurd (h2 p hi9) t_13) (fun H locs t_13 hw => ?_)
                refine lv_aload hx hb dX3_isSame_308 (lv_at hl 1 rfl) ?_
                refine lv_iconst (v := 4) hx hb dX3_isSame_310 (by decide) ?_
                refine k_ildP (i := 4) (v := v_ca p) hx hb hK hw (Pk.l (Pk_5 (i := p) (show p < v_np from by omega))) (by decide) (by decide) rfl dX3_isSame_311 ?_
                refine lv_icmp_ne (tgt := 329) hx hb dX3_isSame_312 (by decide) (fun q8 => absurd (e_ca p hi9) q8) (fun _ => ?_)
                refine lv_aload_n hx hb dX3_isSame_315 rfl (lv_at hl 3 rfl) ?_
                refine lv_iload_n hx hb dX3_isSame_316 rfl (lv_at hl 4 rfl) ?_
                refine krx_i (ws' := wX x A T B ++ wC E A (B 0) S ++ wC E T (B 0) U ++ wG E B G ++ wS E q P (mkS v_ni v_wa v_un v_ns v_np v_nw v_ng v_ma v_st v_ou v_ru v_so v_mt v_vo v_gi v_ca v_tr v_sw v_ss v_sg)) (vx_runV (As := [.int (nI p)]) (rest := []) ⟨hx, hb, hml, hown, hts⟩ (c_X2_isDark l hflags E x A T B S U G (nI p)  _) (cwV 1 hts gX3_isSame_X2_isDark rfl rfl rfl ⟨rfl, hd_X2_isDark⟩ ⟨Nat.le_of_ble_eq_true rfl, Nat.le_of_ble_eq_true rfl⟩) (pwV (ci := 2) (q0 := 0) (C := RX2) hw hK rfl rfl rfl (rpX (AV := [.ref x, .int (nI p)]) hw hK hG hZ hA rp_76)) rfl rfl hl.1 rfl (lv_room (Nat.le_of_ble_eq_true rfl)) dX3_isSame_317 ⟨Nat.le_of_ble_eq_true rfl, Nat.le_of_ble_eq_true rfl⟩) hw hA rp_76 rp_76 (fun H locs ce9 q9 t_14 hw hy1 hy2 hy3 => absurd (h2 p hi9) t_14) (fun H locs t_14 hw => ?_)
                refine lv_aload_n hx hb dX3_isSame_320 rfl (lv_at hl 2 rfl) ?_
                refine lv_aload hx hb dX3_isSame_321 (lv_at hl 1 rfl) ?_
                refine kr_i (ws' := wX x A T B ++ wC E A (B 0) S ++ wC E T (B 0) U ++ wG E B G ++ wS E q P (mkS v_ni v_wa v_un v_ns v_np v_nw v_ng v_ma v_st v_ou v_ru v_so v_mt v_vo v_gi v_ca v_tr v_sw v_ss v_sg)) (va_runV (As := [.ref (P.2.2.1 p)]) (rest := [.int (bI (f_dark G S (nI p)))]) ⟨hx, hb, hml, hown, hts⟩ (c_X3_isDark l E q P v_ni v_wa v_un v_ns v_np v_nw v_ng v_ma v_st v_ou v_ru v_so v_mt v_vo v_gi v_ca v_tr v_sw v_ss v_sg p hns hnp hnw hng hso hsw (by omega) _) (cwV 1 hts gX3_isSame_X3_isDark rfl rfl rfl ⟨rfl, hd_X3_isDark⟩ ⟨Nat.le_of_ble_eq_true rfl, Nat.le_of_ble_eq_true rfl⟩) (pwV (ci := 3) (q0 := 21) (C := RX3) hw hK rfl rfl rfl (rpS (AV := [.ref q, .ref (P.2.2.1 p)]) hw hK hG rp_77)) rfl rfl hl.1 rfl (lv_room (Nat.le_of_ble_eq_true rfl)) dX3_isSame_323 ⟨Nat.le_of_ble_eq_true rfl, Nat.le_of_ble_eq_true rfl⟩) hw hA rp_77 (fun H locs hw => ?_)
                refine lv_icmp_eq (tgt := 331) hx hb dX3_isSame_326 (by decide) (fun _ => ?_) (fun q8 => absurd (e_dk p hi9) q8)
                refine lv_iinc (v := nI (p + 1)) (lv' := [(3, .int (nI (p + 1))), (2, .int ((l_nm (v_st) (v_so) p) + 0)), (4, .ref (P.2.2.1 p)), (0, .ref q), (1, .ref x)]) hx hb dX3_isSame_331 hl (k := 4) rfl (nI_add p 1) (by decide) rfl (fun ls hl => ?_)
                refine lv_goto (tgt := 197) hx hb dX3_isSame_334 (by decide) ?_
                exact ih_197 (p + 1) _ _ _ (by omega) hw (by rw [show (.int (l_nm (v_st) (v_so) (p + 1)) : Value) = .int ((l_nm (v_st) (v_so) p) + 0) from (by subst hz_1; first | rfl | (simp only [l_nm, l_sm, l_nm, l_sm, if_neg c_6, if_neg c_10, if_neg c_12, if_true, if_false, Bool.false_eq_true, Bool.true_eq_false, reduceIte, reduceCtorEq]; done) | (simp only [l_nm, l_sm, if_pos c_12]; done) | (simp only [l_nm, l_sm, if_neg c_12]; done))]; exact lv_sub hl [3, 4, 1, 0] rfl)
              · have c_12 : (v_gi p : Int32) = 1 := c_12
                refine lv_iconst (v := 1) hx hb dX3_isSame_295 (by decide) ?_
                refine lv_goto (tgt := 300) hx hb dX3_isSame_296 (by decide) ?_
                refine lv_icmp_ne (tgt := 329) hx hb dX3_isSame_300 (by decide) (fun q8 => absurd (by rw [e_gu p hi9]; first | exact if_pos c_12 | exact if_neg c_12) q8) (fun _ => ?_)
                refine lv_aload_n hx hb dX3_isSame_303 rfl (lv_at hl 3 rfl) ?_
                refine lv_iload_n hx hb dX3_isSame_304 rfl (lv_at hl 4 rfl) ?_
                refine krx_i (ws' := wX x A T B ++ wC E A (B 0) S ++ wC E T (B 0) U ++ wG E B G ++ wS E q P (mkS v_ni v_wa v_un v_ns v_np v_nw v_ng v_ma v_st v_ou v_ru v_so v_mt v_vo v_gi v_ca v_tr v_sw v_ss v_sg)) (vx_runV (As := [.int (nI p)]) (rest := []) ⟨hx, hb, hml, hown, hts⟩ (c_X2_candleOf l hflags E x A T B S U G (nI p)  _) (cwV 1 hts gX3_isSame_X2_candleOf rfl rfl rfl ⟨rfl, hd_X2_candleOf⟩ ⟨Nat.le_of_ble_eq_true rfl, Nat.le_of_ble_eq_true rfl⟩) (pwV (ci := 2) (q0 := 0) (C := RX2) hw hK rfl rfl rfl (rpX (AV := [.ref x, .int (nI p)]) hw hK hG hZ hA rp_76)) rfl rfl hl.1 rfl (lv_room (Nat.le_of_ble_eq_true rfl)) dX3_isSame_305 ⟨Nat.le_of_ble_eq_true rfl, Nat.le_of_ble_eq_true rfl⟩) hw hA rp_76 rp_76 (fun H locs ce9 q9 t_15 hw hy1 hy2 hy3 => absurd (h2 p hi9) t_15) (fun H locs t_15 hw => ?_)
                refine lv_aload hx hb dX3_isSame_308 (lv_at hl 1 rfl) ?_
                refine lv_iconst (v := 4) hx hb dX3_isSame_310 (by decide) ?_
                refine k_ildP (i := 4) (v := v_ca p) hx hb hK hw (Pk.l (Pk_5 (i := p) (show p < v_np from by omega))) (by decide) (by decide) rfl dX3_isSame_311 ?_
                refine lv_icmp_ne (tgt := 329) hx hb dX3_isSame_312 (by decide) (fun q8 => absurd (e_ca p hi9) q8) (fun _ => ?_)
                refine lv_aload_n hx hb dX3_isSame_315 rfl (lv_at hl 3 rfl) ?_
                refine lv_iload_n hx hb dX3_isSame_316 rfl (lv_at hl 4 rfl) ?_
                refine krx_i (ws' := wX x A T B ++ wC E A (B 0) S ++ wC E T (B 0) U ++ wG E B G ++ wS E q P (mkS v_ni v_wa v_un v_ns v_np v_nw v_ng v_ma v_st v_ou v_ru v_so v_mt v_vo v_gi v_ca v_tr v_sw v_ss v_sg)) (vx_runV (As := [.int (nI p)]) (rest := []) ⟨hx, hb, hml, hown, hts⟩ (c_X2_isDark l hflags E x A T B S U G (nI p)  _) (cwV 1 hts gX3_isSame_X2_isDark rfl rfl rfl ⟨rfl, hd_X2_isDark⟩ ⟨Nat.le_of_ble_eq_true rfl, Nat.le_of_ble_eq_true rfl⟩) (pwV (ci := 2) (q0 := 0) (C := RX2) hw hK rfl rfl rfl (rpX (AV := [.ref x, .int (nI p)]) hw hK hG hZ hA rp_76)) rfl rfl hl.1 rfl (lv_room (Nat.le_of_ble_eq_true rfl)) dX3_isSame_317 ⟨Nat.le_of_ble_eq_true rfl, Nat.le_of_ble_eq_true rfl⟩) hw hA rp_76 rp_76 (fun H locs ce9 q9 t_16 hw hy1 hy2 hy3 => absurd (h2 p hi9) t_16) (fun H locs t_16 hw => ?_)
                refine lv_aload_n hx hb dX3_isSame_320 rfl (lv_at hl 2 rfl) ?_
                refine lv_aload hx hb dX3_isSame_321 (lv_at hl 1 rfl) ?_
                refine kr_i (ws' := wX x A T B ++ wC E A (B 0) S ++ wC E T (B 0) U ++ wG E B G ++ wS E q P (mkS v_ni v_wa v_un v_ns v_np v_nw v_ng v_ma v_st v_ou v_ru v_so v_mt v_vo v_gi v_ca v_tr v_sw v_ss v_sg)) (va_runV (As := [.ref (P.2.2.1 p)]) (rest := [.int (bI (f_dark G S (nI p)))]) ⟨hx, hb, hml, hown, hts⟩ (c_X3_isDark l E q P v_ni v_wa v_un v_ns v_np v_nw v_ng v_ma v_st v_ou v_ru v_so v_mt v_vo v_gi v_ca v_tr v_sw v_ss v_sg p hns hnp hnw hng hso hsw (by omega) _) (cwV 1 hts gX3_isSame_X3_isDark rfl rfl rfl ⟨rfl, hd_X3_isDark⟩ ⟨Nat.le_of_ble_eq_true rfl, Nat.le_of_ble_eq_true rfl⟩) (pwV (ci := 3) (q0 := 21) (C := RX3) hw hK rfl rfl rfl (rpS (AV := [.ref q, .ref (P.2.2.1 p)]) hw hK hG rp_77)) rfl rfl hl.1 rfl (lv_room (Nat.le_of_ble_eq_true rfl)) dX3_isSame_323 ⟨Nat.le_of_ble_eq_true rfl, Nat.le_of_ble_eq_true rfl⟩) hw hA rp_77 (fun H locs hw => ?_)
                refine lv_icmp_eq (tgt := 331) hx hb dX3_isSame_326 (by decide) (fun _ => ?_) (fun q8 => absurd (e_dk p hi9) q8)
                refine lv_iinc (v := nI (p + 1)) (lv' := [(3, .int (nI (p + 1))), (2, .int ((l_nm (v_st) (v_so) p) + 0)), (4, .ref (P.2.2.1 p)), (0, .ref q), (1, .ref x)]) hx hb dX3_isSame_331 hl (k := 4) rfl (nI_add p 1) (by decide) rfl (fun ls hl => ?_)
                refine lv_goto (tgt := 197) hx hb dX3_isSame_334 (by decide) ?_
                exact ih_197 (p + 1) _ _ _ (by omega) hw (by rw [show (.int (l_nm (v_st) (v_so) (p + 1)) : Value) = .int ((l_nm (v_st) (v_so) p) + 0) from (by subst hz_1; first | rfl | (simp only [l_nm, l_sm, l_nm, l_sm, if_neg c_6, if_neg c_10, if_pos c_12, if_true, if_false, Bool.false_eq_true, Bool.true_eq_false, reduceIte, reduceCtorEq]; done) | (simp only [l_nm, l_sm, if_pos c_12]; done) | (simp only [l_nm, l_sm, if_neg c_12]; done))]; exact lv_sub hl [3, 4, 1, 0] rfl)
            · have c_10 : (v_vo p : Int32) = 1 := c_10
              refine lv_iconst (v := 1) hx hb dX3_isSame_274 (by decide) ?_
              refine lv_goto (tgt := 279) hx hb dX3_isSame_275 (by decide) ?_
              refine lv_icmp_ne (tgt := 329) hx hb dX3_isSame_279 (by decide) (fun q8 => absurd (by rw [e_hv p hi9]; first | exact if_pos c_10 | exact if_neg c_10) q8) (fun _ => ?_)
              refine lv_aload_n hx hb dX3_isSame_282 rfl (lv_at hl 3 rfl) ?_
              refine lv_iload_n hx hb dX3_isSame_283 rfl (lv_at hl 4 rfl) ?_
              refine krx_i (ws' := wX x A T B ++ wC E A (B 0) S ++ wC E T (B 0) U ++ wG E B G ++ wS E q P (mkS v_ni v_wa v_un v_ns v_np v_nw v_ng v_ma v_st v_ou v_ru v_so v_mt v_vo v_gi v_ca v_tr v_sw v_ss v_sg)) (vx_runV (As := [.int (nI p)]) (rest := []) ⟨hx, hb, hml, hown, hts⟩ (c_X2_isGivenUp l hflags E x A T B S U G (nI p)  _) (cwV 1 hts gX3_isSame_X2_isGivenUp rfl rfl rfl ⟨rfl, hd_X2_isGivenUp⟩ ⟨Nat.le_of_ble_eq_true rfl, Nat.le_of_ble_eq_true rfl⟩) (pwV (ci := 2) (q0 := 0) (C := RX2) hw hK rfl rfl rfl (rpX (AV := [.ref x, .int (nI p)]) hw hK hG hZ hA rp_76)) rfl rfl hl.1 rfl (lv_room (Nat.le_of_ble_eq_true rfl)) dX3_isSame_284 ⟨Nat.le_of_ble_eq_true rfl, Nat.le_of_ble_eq_true rfl⟩) hw hA rp_76 rp_76 (fun H locs ce9 q9 t_17 hw hy1 hy2 hy3 => absurd (h2 p hi9) t_17) (fun H locs t_17 hw => ?_)
              refine lv_aload hx hb dX3_isSame_287 (lv_at hl 1 rfl) ?_
              refine lv_iconst (v := 3) hx hb dX3_isSame_289 (by decide) ?_
              refine k_ildP (i := 3) (v := v_gi p) hx hb hK hw (Pk.l (Pk_5 (i := p) (show p < v_np from by omega))) (by decide) (by decide) rfl dX3_isSame_290 ?_
              refine lv_iconst (v := 1) hx hb dX3_isSame_291 (by decide) ?_
              refine lv_icmp_ne (tgt := 299) hx hb dX3_isSame_292 (by decide) (fun c_18 => ?_) (fun c_18 => ?_)
              · have c_18 : ¬ (v_gi p : Int32) = 1 := c_18
                refine lv_iconst (v := 0) hx hb dX3_isSame_299 (by decide) ?_
                refine lv_icmp_ne (tgt := 329) hx hb dX3_isSame_300 (by decide) (fun q8 => absurd (by rw [e_gu p hi9]; first | exact if_pos c_18 | exact if_neg c_18) q8) (fun _ => ?_)
                refine lv_aload_n hx hb dX3_isSame_303 rfl (lv_at hl 3 rfl) ?_
                refine lv_iload_n hx hb dX3_isSame_304 rfl (lv_at hl 4 rfl) ?_
                refine krx_i (ws' := wX x A T B ++ wC E A (B 0) S ++ wC E T (B 0) U ++ wG E B G ++ wS E q P (mkS v_ni v_wa v_un v_ns v_np v_nw v_ng v_ma v_st v_ou v_ru v_so v_mt v_vo v_gi v_ca v_tr v_sw v_ss v_sg)) (vx_runV (As := [.int (nI p)]) (rest := []) ⟨hx, hb, hml, hown, hts⟩ (c_X2_candleOf l hflags E x A T B S U G (nI p)  _) (cwV 1 hts gX3_isSame_X2_candleOf rfl rfl rfl ⟨rfl, hd_X2_candleOf⟩ ⟨Nat.le_of_ble_eq_true rfl, Nat.le_of_ble_eq_true rfl⟩) (pwV (ci := 2) (q0 := 0) (C := RX2) hw hK rfl rfl rfl (rpX (AV := [.ref x, .int (nI p)]) hw hK hG hZ hA rp_76)) rfl rfl hl.1 rfl (lv_room (Nat.le_of_ble_eq_true rfl)) dX3_isSame_305 ⟨Nat.le_of_ble_eq_true rfl, Nat.le_of_ble_eq_true rfl⟩) hw hA rp_76 rp_76 (fun H locs ce9 q9 t_19 hw hy1 hy2 hy3 => absurd (h2 p hi9) t_19) (fun H locs t_19 hw => ?_)
                refine lv_aload hx hb dX3_isSame_308 (lv_at hl 1 rfl) ?_
                refine lv_iconst (v := 4) hx hb dX3_isSame_310 (by decide) ?_
                refine k_ildP (i := 4) (v := v_ca p) hx hb hK hw (Pk.l (Pk_5 (i := p) (show p < v_np from by omega))) (by decide) (by decide) rfl dX3_isSame_311 ?_
                refine lv_icmp_ne (tgt := 329) hx hb dX3_isSame_312 (by decide) (fun q8 => absurd (e_ca p hi9) q8) (fun _ => ?_)
                refine lv_aload_n hx hb dX3_isSame_315 rfl (lv_at hl 3 rfl) ?_
                refine lv_iload_n hx hb dX3_isSame_316 rfl (lv_at hl 4 rfl) ?_
                refine krx_i (ws' := wX x A T B ++ wC E A (B 0) S ++ wC E T (B 0) U ++ wG E B G ++ wS E q P (mkS v_ni v_wa v_un v_ns v_np v_nw v_ng v_ma v_st v_ou v_ru v_so v_mt v_vo v_gi v_ca v_tr v_sw v_ss v_sg)) (vx_runV (As := [.int (nI p)]) (rest := []) ⟨hx, hb, hml, hown, hts⟩ (c_X2_isDark l hflags E x A T B S U G (nI p)  _) (cwV 1 hts gX3_isSame_X2_isDark rfl rfl rfl ⟨rfl, hd_X2_isDark⟩ ⟨Nat.le_of_ble_eq_true rfl, Nat.le_of_ble_eq_true rfl⟩) (pwV (ci := 2) (q0 := 0) (C := RX2) hw hK rfl rfl rfl (rpX (AV := [.ref x, .int (nI p)]) hw hK hG hZ hA rp_76)) rfl rfl hl.1 rfl (lv_room (Nat.le_of_ble_eq_true rfl)) dX3_isSame_317 ⟨Nat.le_of_ble_eq_true rfl, Nat.le_of_ble_eq_true rfl⟩) hw hA rp_76 rp_76 (fun H locs ce9 q9 t_20 hw hy1 hy2 hy3 => absurd (h2 p hi9) t_20) (fun H locs t_20 hw => ?_)
                refine lv_aload_n hx hb dX3_isSame_320 rfl (lv_at hl 2 rfl) ?_
                refine lv_aload hx hb dX3_isSame_321 (lv_at hl 1 rfl) ?_
                refine kr_i (ws' := wX x A T B ++ wC E A (B 0) S ++ wC E T (B 0) U ++ wG E B G ++ wS E q P (mkS v_ni v_wa v_un v_ns v_np v_nw v_ng v_ma v_st v_ou v_ru v_so v_mt v_vo v_gi v_ca v_tr v_sw v_ss v_sg)) (va_runV (As := [.ref (P.2.2.1 p)]) (rest := [.int (bI (f_dark G S (nI p)))]) ⟨hx, hb, hml, hown, hts⟩ (c_X3_isDark l E q P v_ni v_wa v_un v_ns v_np v_nw v_ng v_ma v_st v_ou v_ru v_so v_mt v_vo v_gi v_ca v_tr v_sw v_ss v_sg p hns hnp hnw hng hso hsw (by omega) _) (cwV 1 hts gX3_isSame_X3_isDark rfl rfl rfl ⟨rfl, hd_X3_isDark⟩ ⟨Nat.le_of_ble_eq_true rfl, Nat.le_of_ble_eq_true rfl⟩) (pwV (ci := 3) (q0 := 21) (C := RX3) hw hK rfl rfl rfl (rpS (AV := [.ref q, .ref (P.2.2.1 p)]) hw hK hG rp_77)) rfl rfl hl.1 rfl (lv_room (Nat.le_of_ble_eq_true rfl)) dX3_isSame_323 ⟨Nat.le_of_ble_eq_true rfl, Nat.le_of_ble_eq_true rfl⟩) hw hA rp_77 (fun H locs hw => ?_)
                refine lv_icmp_eq (tgt := 331) hx hb dX3_isSame_326 (by decide) (fun _ => ?_) (fun q8 => absurd (e_dk p hi9) q8)
                refine lv_iinc (v := nI (p + 1)) (lv' := [(3, .int (nI (p + 1))), (2, .int ((l_nm (v_st) (v_so) p) + 0)), (4, .ref (P.2.2.1 p)), (0, .ref q), (1, .ref x)]) hx hb dX3_isSame_331 hl (k := 4) rfl (nI_add p 1) (by decide) rfl (fun ls hl => ?_)
                refine lv_goto (tgt := 197) hx hb dX3_isSame_334 (by decide) ?_
                exact ih_197 (p + 1) _ _ _ (by omega) hw (by rw [show (.int (l_nm (v_st) (v_so) (p + 1)) : Value) = .int ((l_nm (v_st) (v_so) p) + 0) from (by subst hz_1; first | rfl | (simp only [l_nm, l_sm, l_nm, l_sm, if_neg c_6, if_pos c_10, if_neg c_18, if_true, if_false, Bool.false_eq_true, Bool.true_eq_false, reduceIte, reduceCtorEq]; done) | (simp only [l_nm, l_sm, if_pos c_18]; done) | (simp only [l_nm, l_sm, if_neg c_18]; done))]; exact lv_sub hl [3, 4, 1, 0] rfl)
              · have c_18 : (v_gi p : Int32) = 1 := c_18
                refine lv_iconst (v := 1) hx hb dX3_isSame_295 (by decide) ?_
                refine lv_goto (tgt := 300) hx hb dX3_isSame_296 (by decide) ?_
                refine lv_icmp_ne (tgt := 329) hx hb dX3_isSame_300 (by decide) (fun q8 => absurd (by rw [e_gu p hi9]; first | exact if_pos c_18 | exact if_neg c_18) q8) (fun _ => ?_)
                refine lv_aload_n hx hb dX3_isSame_303 rfl (lv_at hl 3 rfl) ?_
                refine lv_iload_n hx hb dX3_isSame_304 rfl (lv_at hl 4 rfl) ?_
                refine krx_i (ws' := wX x A T B ++ wC E A (B 0) S ++ wC E T (B 0) U ++ wG E B G ++ wS E q P (mkS v_ni v_wa v_un v_ns v_np v_nw v_ng v_ma v_st v_ou v_ru v_so v_mt v_vo v_gi v_ca v_tr v_sw v_ss v_sg)) (vx_runV (As := [.int (nI p)]) (rest := []) ⟨hx, hb, hml, hown, hts⟩ (c_X2_candleOf l hflags E x A T B S U G (nI p)  _) (cwV 1 hts gX3_isSame_X2_candleOf rfl rfl rfl ⟨rfl, hd_X2_candleOf⟩ ⟨Nat.le_of_ble_eq_true rfl, Nat.le_of_ble_eq_true rfl⟩) (pwV (ci := 2) (q0 := 0) (C := RX2) hw hK rfl rfl rfl (rpX (AV := [.ref x, .int (nI p)]) hw hK hG hZ hA rp_76)) rfl rfl hl.1 rfl (lv_room (Nat.le_of_ble_eq_true rfl)) dX3_isSame_305 ⟨Nat.le_of_ble_eq_true rfl, Nat.le_of_ble_eq_true rfl⟩) hw hA rp_76 rp_76 (fun H locs ce9 q9 t_21 hw hy1 hy2 hy3 => absurd (h2 p hi9) t_21) (fun H locs t_21 hw => ?_)
                refine lv_aload hx hb dX3_isSame_308 (lv_at hl 1 rfl) ?_
                refine lv_iconst (v := 4) hx hb dX3_isSame_310 (by decide) ?_
                refine k_ildP (i := 4) (v := v_ca p) hx hb hK hw (Pk.l (Pk_5 (i := p) (show p < v_np from by omega))) (by decide) (by decide) rfl dX3_isSame_311 ?_
                refine lv_icmp_ne (tgt := 329) hx hb dX3_isSame_312 (by decide) (fun q8 => absurd (e_ca p hi9) q8) (fun _ => ?_)
                refine lv_aload_n hx hb dX3_isSame_315 rfl (lv_at hl 3 rfl) ?_
                refine lv_iload_n hx hb dX3_isSame_316 rfl (lv_at hl 4 rfl) ?_
                refine krx_i (ws' := wX x A T B ++ wC E A (B 0) S ++ wC E T (B 0) U ++ wG E B G ++ wS E q P (mkS v_ni v_wa v_un v_ns v_np v_nw v_ng v_ma v_st v_ou v_ru v_so v_mt v_vo v_gi v_ca v_tr v_sw v_ss v_sg)) (vx_runV (As := [.int (nI p)]) (rest := []) ⟨hx, hb, hml, hown, hts⟩ (c_X2_isDark l hflags E x A T B S U G (nI p)  _) (cwV 1 hts gX3_isSame_X2_isDark rfl rfl rfl ⟨rfl, hd_X2_isDark⟩ ⟨Nat.le_of_ble_eq_true rfl, Nat.le_of_ble_eq_true rfl⟩) (pwV (ci := 2) (q0 := 0) (C := RX2) hw hK rfl rfl rfl (rpX (AV := [.ref x, .int (nI p)]) hw hK hG hZ hA rp_76)) rfl rfl hl.1 rfl (lv_room (Nat.le_of_ble_eq_true rfl)) dX3_isSame_317 ⟨Nat.le_of_ble_eq_true rfl, Nat.le_of_ble_eq_true rfl⟩) hw hA rp_76 rp_76 (fun H locs ce9 q9 t_22 hw hy1 hy2 hy3 => absurd (h2 p hi9) t_22) (fun H locs t_22 hw => ?_)
                refine lv_aload_n hx hb dX3_isSame_320 rfl (lv_at hl 2 rfl) ?_
                refine lv_aload hx hb dX3_isSame_321 (lv_at hl 1 rfl) ?_
                refine kr_i (ws' := wX x A T B ++ wC E A (B 0) S ++ wC E T (B 0) U ++ wG E B G ++ wS E q P (mkS v_ni v_wa v_un v_ns v_np v_nw v_ng v_ma v_st v_ou v_ru v_so v_mt v_vo v_gi v_ca v_tr v_sw v_ss v_sg)) (va_runV (As := [.ref (P.2.2.1 p)]) (rest := [.int (bI (f_dark G S (nI p)))]) ⟨hx, hb, hml, hown, hts⟩ (c_X3_isDark l E q P v_ni v_wa v_un v_ns v_np v_nw v_ng v_ma v_st v_ou v_ru v_so v_mt v_vo v_gi v_ca v_tr v_sw v_ss v_sg p hns hnp hnw hng hso hsw (by omega) _) (cwV 1 hts gX3_isSame_X3_isDark rfl rfl rfl ⟨rfl, hd_X3_isDark⟩ ⟨Nat.le_of_ble_eq_true rfl, Nat.le_of_ble_eq_true rfl⟩) (pwV (ci := 3) (q0 := 21) (C := RX3) hw hK rfl rfl rfl (rpS (AV := [.ref q, .ref (P.2.2.1 p)]) hw hK hG rp_77)) rfl rfl hl.1 rfl (lv_room (Nat.le_of_ble_eq_true rfl)) dX3_isSame_323 ⟨Nat.le_of_ble_eq_true rfl, Nat.le_of_ble_eq_true rfl⟩) hw hA rp_77 (fun H locs hw => ?_)
                refine lv_icmp_eq (tgt := 331) hx hb dX3_isSame_326 (by decide) (fun _ => ?_) (fun q8 => absurd (e_dk p hi9) q8)
                refine lv_iinc (v := nI (p + 1)) (lv' := [(3, .int (nI (p + 1))), (2, .int ((l_nm (v_st) (v_so) p) + 0)), (4, .ref (P.2.2.1 p)), (0, .ref q), (1, .ref x)]) hx hb dX3_isSame_331 hl (k := 4) rfl (nI_add p 1) (by decide) rfl (fun ls hl => ?_)
                refine lv_goto (tgt := 197) hx hb dX3_isSame_334 (by decide) ?_
                exact ih_197 (p + 1) _ _ _ (by omega) hw (by rw [show (.int (l_nm (v_st) (v_so) (p + 1)) : Value) = .int ((l_nm (v_st) (v_so) p) + 0) from (by subst hz_1; first | rfl | (simp only [l_nm, l_sm, l_nm, l_sm, if_neg c_6, if_pos c_10, if_pos c_18, if_true, if_false, Bool.false_eq_true, Bool.true_eq_false, reduceIte, reduceCtorEq]; done) | (simp only [l_nm, l_sm, if_pos c_18]; done) | (simp only [l_nm, l_sm, if_neg c_18]; done))]; exact lv_sub hl [3, 4, 1, 0] rfl)
          · have c_6 : (v_st (v_so p) : Int32) = 2 := c_6
            refine lv_iconst (v := 1) hx hb dX3_isSame_230 (by decide) ?_
            refine lv_goto (tgt := 235) hx hb dX3_isSame_231 (by decide) ?_
            refine lv_iadd hx hb dX3_isSame_235 ?_
            refine lv_istore_n (lv' := [(2, .int ((l_nm (v_st) (v_so) p) + 1)), (4, .ref (P.2.2.1 p)), (0, .ref q), (1, .ref x), (3, .int (nI p))]) hx hb dX3_isSame_236 rfl hl (by decide) rfl (fun ls hl => ?_)
            refine lv_aload_n hx hb dX3_isSame_237 rfl (lv_at hl 3 rfl) ?_
            refine lv_iload_n hx hb dX3_isSame_238 rfl (lv_at hl 4 rfl) ?_
            refine krx_i (ws' := wX x A T B ++ wC E A (B 0) S ++ wC E T (B 0) U ++ wG E B G ++ wS E q P (mkS v_ni v_wa v_un v_ns v_np v_nw v_ng v_ma v_st v_ou v_ru v_so v_mt v_vo v_gi v_ca v_tr v_sw v_ss v_sg)) (vx_runV (As := [.int (nI p)]) (rest := []) ⟨hx, hb, hml, hown, hts⟩ (c_X2_shipOf l hflags E x A T B S U G (nI p)  _) (cwV 1 hts gX3_isSame_X2_shipOf rfl rfl rfl ⟨rfl, hd_X2_shipOf⟩ ⟨Nat.le_of_ble_eq_true rfl, Nat.le_of_ble_eq_true rfl⟩) (pwV (ci := 2) (q0 := 0) (C := RX2) hw hK rfl rfl rfl (rpX (AV := [.ref x, .int (nI p)]) hw hK hG hZ hA rp_76)) rfl rfl hl.1 rfl (lv_room (Nat.le_of_ble_eq_true rfl)) dX3_isSame_239 ⟨Nat.le_of_ble_eq_true rfl, Nat.le_of_ble_eq_true rfl⟩) hw hA rp_76 rp_76 (fun H locs ce9 q9 t_23 hw hy1 hy2 hy3 => absurd (h2 p hi9) t_23) (fun H locs t_23 hw => ?_)
            refine lv_aload hx hb dX3_isSame_242 (lv_at hl 1 rfl) ?_
            refine lv_iconst (v := 0) hx hb dX3_isSame_244 (by decide) ?_
            refine k_ildP (i := 0) (v := nI (v_so p)) hx hb hK hw (Pk.l (Pk_5 (i := p) (show p < v_np from by omega))) (by decide) (by decide) rfl dX3_isSame_245 ?_
            refine lv_icmp_ne (tgt := 329) hx hb dX3_isSame_246 (by decide) (fun q8 => absurd (e_sh p hi9) q8) (fun _ => ?_)
            refine lv_aload_n hx hb dX3_isSame_249 rfl (lv_at hl 3 rfl) ?_
            refine lv_iload_n hx hb dX3_isSame_250 rfl (lv_at hl 4 rfl) ?_
            refine krx_i (ws' := wX x A T B ++ wC E A (B 0) S ++ wC E T (B 0) U ++ wG E B G ++ wS E q P (mkS v_ni v_wa v_un v_ns v_np v_nw v_ng v_ma v_st v_ou v_ru v_so v_mt v_vo v_gi v_ca v_tr v_sw v_ss v_sg)) (vx_runV (As := [.int (nI p)]) (rest := []) ⟨hx, hb, hml, hown, hts⟩ (c_X2_mastOf l hflags E x A T B S U G (nI p)  _) (cwV 1 hts gX3_isSame_X2_mastOf rfl rfl rfl ⟨rfl, hd_X2_mastOf⟩ ⟨Nat.le_of_ble_eq_true rfl, Nat.le_of_ble_eq_true rfl⟩) (pwV (ci := 2) (q0 := 0) (C := RX2) hw hK rfl rfl rfl (rpX (AV := [.ref x, .int (nI p)]) hw hK hG hZ hA rp_76)) rfl rfl hl.1 rfl (lv_room (Nat.le_of_ble_eq_true rfl)) dX3_isSame_251 ⟨Nat.le_of_ble_eq_true rfl, Nat.le_of_ble_eq_true rfl⟩) hw hA rp_76 rp_76 (fun H locs ce9 q9 t_24 hw hy1 hy2 hy3 => absurd (h2 p hi9) t_24) (fun H locs t_24 hw => ?_)
            refine lv_aload hx hb dX3_isSame_254 (lv_at hl 1 rfl) ?_
            refine lv_iconst (v := 1) hx hb dX3_isSame_256 (by decide) ?_
            refine k_ildP (i := 1) (v := v_mt p) hx hb hK hw (Pk.l (Pk_5 (i := p) (show p < v_np from by omega))) (by decide) (by decide) rfl dX3_isSame_257 ?_
            refine lv_icmp_ne (tgt := 329) hx hb dX3_isSame_258 (by decide) (fun q8 => absurd (e_mt p hi9) q8) (fun _ => ?_)
            refine lv_aload_n hx hb dX3_isSame_261 rfl (lv_at hl 3 rfl) ?_
            refine lv_iload_n hx hb dX3_isSame_262 rfl (lv_at hl 4 rfl) ?_
            refine krx_i (ws' := wX x A T B ++ wC E A (B 0) S ++ wC E T (B 0) U ++ wG E B G ++ wS E q P (mkS v_ni v_wa v_un v_ns v_np v_nw v_ng v_ma v_st v_ou v_ru v_so v_mt v_vo v_gi v_ca v_tr v_sw v_ss v_sg)) (vx_runV (As := [.int (nI p)]) (rest := []) ⟨hx, hb, hml, hown, hts⟩ (c_X2_hasVoter l hflags E x A T B S U G (nI p)  _) (cwV 1 hts gX3_isSame_X2_hasVoter rfl rfl rfl ⟨rfl, hd_X2_hasVoter⟩ ⟨Nat.le_of_ble_eq_true rfl, Nat.le_of_ble_eq_true rfl⟩) (pwV (ci := 2) (q0 := 0) (C := RX2) hw hK rfl rfl rfl (rpX (AV := [.ref x, .int (nI p)]) hw hK hG hZ hA rp_76)) rfl rfl hl.1 rfl (lv_room (Nat.le_of_ble_eq_true rfl)) dX3_isSame_263 ⟨Nat.le_of_ble_eq_true rfl, Nat.le_of_ble_eq_true rfl⟩) hw hA rp_76 rp_76 (fun H locs ce9 q9 t_25 hw hy1 hy2 hy3 => absurd (h2 p hi9) t_25) (fun H locs t_25 hw => ?_)
            refine lv_aload hx hb dX3_isSame_266 (lv_at hl 1 rfl) ?_
            refine lv_iconst (v := 2) hx hb dX3_isSame_268 (by decide) ?_
            refine k_ildP (i := 2) (v := v_vo p) hx hb hK hw (Pk.l (Pk_5 (i := p) (show p < v_np from by omega))) (by decide) (by decide) rfl dX3_isSame_269 ?_
            refine lv_iconst (v := 1) hx hb dX3_isSame_270 (by decide) ?_
            refine lv_icmp_ne (tgt := 278) hx hb dX3_isSame_271 (by decide) (fun c_26 => ?_) (fun c_26 => ?_)
            · have c_26 : ¬ (v_vo p : Int32) = 1 := c_26
              refine lv_iconst (v := 0) hx hb dX3_isSame_278 (by decide) ?_
              refine lv_icmp_ne (tgt := 329) hx hb dX3_isSame_279 (by decide) (fun q8 => absurd (by rw [e_hv p hi9]; first | exact if_pos c_26 | exact if_neg c_26) q8) (fun _ => ?_)
              refine lv_aload_n hx hb dX3_isSame_282 rfl (lv_at hl 3 rfl) ?_
              refine lv_iload_n hx hb dX3_isSame_283 rfl (lv_at hl 4 rfl) ?_
              refine krx_i (ws' := wX x A T B ++ wC E A (B 0) S ++ wC E T (B 0) U ++ wG E B G ++ wS E q P (mkS v_ni v_wa v_un v_ns v_np v_nw v_ng v_ma v_st v_ou v_ru v_so v_mt v_vo v_gi v_ca v_tr v_sw v_ss v_sg)) (vx_runV (As := [.int (nI p)]) (rest := []) ⟨hx, hb, hml, hown, hts⟩ (c_X2_isGivenUp l hflags E x A T B S U G (nI p)  _) (cwV 1 hts gX3_isSame_X2_isGivenUp rfl rfl rfl ⟨rfl, hd_X2_isGivenUp⟩ ⟨Nat.le_of_ble_eq_true rfl, Nat.le_of_ble_eq_true rfl⟩) (pwV (ci := 2) (q0 := 0) (C := RX2) hw hK rfl rfl rfl (rpX (AV := [.ref x, .int (nI p)]) hw hK hG hZ hA rp_76)) rfl rfl hl.1 rfl (lv_room (Nat.le_of_ble_eq_true rfl)) dX3_isSame_284 ⟨Nat.le_of_ble_eq_true rfl, Nat.le_of_ble_eq_true rfl⟩) hw hA rp_76 rp_76 (fun H locs ce9 q9 t_27 hw hy1 hy2 hy3 => absurd (h2 p hi9) t_27) (fun H locs t_27 hw => ?_)
              refine lv_aload hx hb dX3_isSame_287 (lv_at hl 1 rfl) ?_
              refine lv_iconst (v := 3) hx hb dX3_isSame_289 (by decide) ?_
              refine k_ildP (i := 3) (v := v_gi p) hx hb hK hw (Pk.l (Pk_5 (i := p) (show p < v_np from by omega))) (by decide) (by decide) rfl dX3_isSame_290 ?_
              refine lv_iconst (v := 1) hx hb dX3_isSame_291 (by decide) ?_
              refine lv_icmp_ne (tgt := 299) hx hb dX3_isSame_292 (by decide) (fun c_28 => ?_) (fun c_28 => ?_)
              · have c_28 : ¬ (v_gi p : Int32) = 1 := c_28
                refine lv_iconst (v := 0) hx hb dX3_isSame_299 (by decide) ?_
                refine lv_icmp_ne (tgt := 329) hx hb dX3_isSame_300 (by decide) (fun q8 => absurd (by rw [e_gu p hi9]; first | exact if_pos c_28 | exact if_neg c_28) q8) (fun _ => ?_)
                refine lv_aload_n hx hb dX3_isSame_303 rfl (lv_at hl 3 rfl) ?_
                refine lv_iload_n hx hb dX3_isSame_304 rfl (lv_at hl 4 rfl) ?_
                refine krx_i (ws' := wX x A T B ++ wC E A (B 0) S ++ wC E T (B 0) U ++ wG E B G ++ wS E q P (mkS v_ni v_wa v_un v_ns v_np v_nw v_ng v_ma v_st v_ou v_ru v_so v_mt v_vo v_gi v_ca v_tr v_sw v_ss v_sg)) (vx_runV (As := [.int (nI p)]) (rest := []) ⟨hx, hb, hml, hown, hts⟩ (c_X2_candleOf l hflags E x A T B S U G (nI p)  _) (cwV 1 hts gX3_isSame_X2_candleOf rfl rfl rfl ⟨rfl, hd_X2_candleOf⟩ ⟨Nat.le_of_ble_eq_true rfl, Nat.le_of_ble_eq_true rfl⟩) (pwV (ci := 2) (q0 := 0) (C := RX2) hw hK rfl rfl rfl (rpX (AV := [.ref x, .int (nI p)]) hw hK hG hZ hA rp_76)) rfl rfl hl.1 rfl (lv_room (Nat.le_of_ble_eq_true rfl)) dX3_isSame_305 ⟨Nat.le_of_ble_eq_true rfl, Nat.le_of_ble_eq_true rfl⟩) hw hA rp_76 rp_76 (fun H locs ce9 q9 t_29 hw hy1 hy2 hy3 => absurd (h2 p hi9) t_29) (fun H locs t_29 hw => ?_)
                refine lv_aload hx hb dX3_isSame_308 (lv_at hl 1 rfl) ?_
                refine lv_iconst (v := 4) hx hb dX3_isSame_310 (by decide) ?_
                refine k_ildP (i := 4) (v := v_ca p) hx hb hK hw (Pk.l (Pk_5 (i := p) (show p < v_np from by omega))) (by decide) (by decide) rfl dX3_isSame_311 ?_
                refine lv_icmp_ne (tgt := 329) hx hb dX3_isSame_312 (by decide) (fun q8 => absurd (e_ca p hi9) q8) (fun _ => ?_)
                refine lv_aload_n hx hb dX3_isSame_315 rfl (lv_at hl 3 rfl) ?_
                refine lv_iload_n hx hb dX3_isSame_316 rfl (lv_at hl 4 rfl) ?_
                refine krx_i (ws' := wX x A T B ++ wC E A (B 0) S ++ wC E T (B 0) U ++ wG E B G ++ wS E q P (mkS v_ni v_wa v_un v_ns v_np v_nw v_ng v_ma v_st v_ou v_ru v_so v_mt v_vo v_gi v_ca v_tr v_sw v_ss v_sg)) (vx_runV (As := [.int (nI p)]) (rest := []) ⟨hx, hb, hml, hown, hts⟩ (c_X2_isDark l hflags E x A T B S U G (nI p)  _) (cwV 1 hts gX3_isSame_X2_isDark rfl rfl rfl ⟨rfl, hd_X2_isDark⟩ ⟨Nat.le_of_ble_eq_true rfl, Nat.le_of_ble_eq_true rfl⟩) (pwV (ci := 2) (q0 := 0) (C := RX2) hw hK rfl rfl rfl (rpX (AV := [.ref x, .int (nI p)]) hw hK hG hZ hA rp_76)) rfl rfl hl.1 rfl (lv_room (Nat.le_of_ble_eq_true rfl)) dX3_isSame_317 ⟨Nat.le_of_ble_eq_true rfl, Nat.le_of_ble_eq_true rfl⟩) hw hA rp_76 rp_76 (fun H locs ce9 q9 t_30 hw hy1 hy2 hy3 => absurd (h2 p hi9) t_30) (fun H locs t_30 hw => ?_)
                refine lv_aload_n hx hb dX3_isSame_320 rfl (lv_at hl 2 rfl) ?_
                refine lv_aload hx hb dX3_isSame_321 (lv_at hl 1 rfl) ?_
                refine kr_i (ws' := wX x A T B ++ wC E A (B 0) S ++ wC E T (B 0) U ++ wG E B G ++ wS E q P (mkS v_ni v_wa v_un v_ns v_np v_nw v_ng v_ma v_st v_ou v_ru v_so v_mt v_vo v_gi v_ca v_tr v_sw v_ss v_sg)) (va_runV (As := [.ref (P.2.2.1 p)]) (rest := [.int (bI (f_dark G S (nI p)))]) ⟨hx, hb, hml, hown, hts⟩ (c_X3_isDark l E q P v_ni v_wa v_un v_ns v_np v_nw v_ng v_ma v_st v_ou v_ru v_so v_mt v_vo v_gi v_ca v_tr v_sw v_ss v_sg p hns hnp hnw hng hso hsw (by omega) _) (cwV 1 hts gX3_isSame_X3_isDark rfl rfl rfl ⟨rfl, hd_X3_isDark⟩ ⟨Nat.le_of_ble_eq_true rfl, Nat.le_of_ble_eq_true rfl⟩) (pwV (ci := 3) (q0 := 21) (C := RX3) hw hK rfl rfl rfl (rpS (AV := [.ref q, .ref (P.2.2.1 p)]) hw hK hG rp_77)) rfl rfl hl.1 rfl (lv_room (Nat.le_of_ble_eq_true rfl)) dX3_isSame_323 ⟨Nat.le_of_ble_eq_true rfl, Nat.le_of_ble_eq_true rfl⟩) hw hA rp_77 (fun H locs hw => ?_)
                refine lv_icmp_eq (tgt := 331) hx hb dX3_isSame_326 (by decide) (fun _ => ?_) (fun q8 => absurd (e_dk p hi9) q8)
                refine lv_iinc (v := nI (p + 1)) (lv' := [(3, .int (nI (p + 1))), (2, .int ((l_nm (v_st) (v_so) p) + 1)), (4, .ref (P.2.2.1 p)), (0, .ref q), (1, .ref x)]) hx hb dX3_isSame_331 hl (k := 4) rfl (nI_add p 1) (by decide) rfl (fun ls hl => ?_)
                refine lv_goto (tgt := 197) hx hb dX3_isSame_334 (by decide) ?_
                exact ih_197 (p + 1) _ _ _ (by omega) hw (by rw [show (.int (l_nm (v_st) (v_so) (p + 1)) : Value) = .int ((l_nm (v_st) (v_so) p) + 1) from (by subst hz_1; first | rfl | (simp only [l_nm, l_sm, l_nm, l_sm, if_pos c_6, if_neg c_26, if_neg c_28, if_true, if_false, Bool.false_eq_true, Bool.true_eq_false, reduceIte, reduceCtorEq]; done) | (simp only [l_nm, l_sm, if_pos c_28]; done) | (simp only [l_nm, l_sm, if_neg c_28]; done))]; exact lv_sub hl [3, 4, 1, 0] rfl)
              · have c_28 : (v_gi p : Int32) = 1 := c_28
                refine lv_iconst (v := 1) hx hb dX3_isSame_295 (by decide) ?_
                refine lv_goto (tgt := 300) hx hb dX3_isSame_296 (by decide) ?_
                refine lv_icmp_ne (tgt := 329) hx hb dX3_isSame_300 (by decide) (fun q8 => absurd (by rw [e_gu p hi9]; first | exact if_pos c_28 | exact if_neg c_28) q8) (fun _ => ?_)
                refine lv_aload_n hx hb dX3_isSame_303 rfl (lv_at hl 3 rfl) ?_
                refine lv_iload_n hx hb dX3_isSame_304 rfl (lv_at hl 4 rfl) ?_
                refine krx_i (ws' := wX x A T B ++ wC E A (B 0) S ++ wC E T (B 0) U ++ wG E B G ++ wS E q P (mkS v_ni v_wa v_un v_ns v_np v_nw v_ng v_ma v_st v_ou v_ru v_so v_mt v_vo v_gi v_ca v_tr v_sw v_ss v_sg)) (vx_runV (As := [.int (nI p)]) (rest := []) ⟨hx, hb, hml, hown, hts⟩ (c_X2_candleOf l hflags E x A T B S U G (nI p)  _) (cwV 1 hts gX3_isSame_X2_candleOf rfl rfl rfl ⟨rfl, hd_X2_candleOf⟩ ⟨Nat.le_of_ble_eq_true rfl, Nat.le_of_ble_eq_true rfl⟩) (pwV (ci := 2) (q0 := 0) (C := RX2) hw hK rfl rfl rfl (rpX (AV := [.ref x, .int (nI p)]) hw hK hG hZ hA rp_76)) rfl rfl hl.1 rfl (lv_room (Nat.le_of_ble_eq_true rfl)) dX3_isSame_305 ⟨Nat.le_of_ble_eq_true rfl, Nat.le_of_ble_eq_true rfl⟩) hw hA rp_76 rp_76 (fun H locs ce9 q9 t_31 hw hy1 hy2 hy3 => absurd (h2 p hi9) t_31) (fun H locs t_31 hw => ?_)
                refine lv_aload hx hb dX3_isSame_308 (lv_at hl 1 rfl) ?_
                refine lv_iconst (v := 4) hx hb dX3_isSame_310 (by decide) ?_
                refine k_ildP (i := 4) (v := v_ca p) hx hb hK hw (Pk.l (Pk_5 (i := p) (show p < v_np from by omega))) (by decide) (by decide) rfl dX3_isSame_311 ?_
                refine lv_icmp_ne (tgt := 329) hx hb dX3_isSame_312 (by decide) (fun q8 => absurd (e_ca p hi9) q8) (fun _ => ?_)
                refine lv_aload_n hx hb dX3_isSame_315 rfl (lv_at hl 3 rfl) ?_
                refine lv_iload_n hx hb dX3_isSame_316 rfl (lv_at hl 4 rfl) ?_
                refine krx_i (ws' := wX x A T B ++ wC E A (B 0) S ++ wC E T (B 0) U ++ wG E B G ++ wS E q P (mkS v_ni v_wa v_un v_ns v_np v_nw v_ng v_ma v_st v_ou v_ru v_so v_mt v_vo v_gi v_ca v_tr v_sw v_ss v_sg)) (vx_runV (As := [.int (nI p)]) (rest := []) ⟨hx, hb, hml, hown, hts⟩ (c_X2_isDark l hflags E x A T B S U G (nI p)  _) (cwV 1 hts gX3_isSame_X2_isDark rfl rfl rfl ⟨rfl, hd_X2_isDark⟩ ⟨Nat.le_of_ble_eq_true rfl, Nat.le_of_ble_eq_true rfl⟩) (pwV (ci := 2) (q0 := 0) (C := RX2) hw hK rfl rfl rfl (rpX (AV := [.ref x, .int (nI p)]) hw hK hG hZ hA rp_76)) rfl rfl hl.1 rfl (lv_room (Nat.le_of_ble_eq_true rfl)) dX3_isSame_317 ⟨Nat.le_of_ble_eq_true rfl, Nat.le_of_ble_eq_true rfl⟩) hw hA rp_76 rp_76 (fun H locs ce9 q9 t_32 hw hy1 hy2 hy3 => absurd (h2 p hi9) t_32) (fun H locs t_32 hw => ?_)
                refine lv_aload_n hx hb dX3_isSame_320 rfl (lv_at hl 2 rfl) ?_
                refine lv_aload hx hb dX3_isSame_321 (lv_at hl 1 rfl) ?_
                refine kr_i (ws' := wX x A T B ++ wC E A (B 0) S ++ wC E T (B 0) U ++ wG E B G ++ wS E q P (mkS v_ni v_wa v_un v_ns v_np v_nw v_ng v_ma v_st v_ou v_ru v_so v_mt v_vo v_gi v_ca v_tr v_sw v_ss v_sg)) (va_runV (As := [.ref (P.2.2.1 p)]) (rest := [.int (bI (f_dark G S (nI p)))]) ⟨hx, hb, hml, hown, hts⟩ (c_X3_isDark l E q P v_ni v_wa v_un v_ns v_np v_nw v_ng v_ma v_st v_ou v_ru v_so v_mt v_vo v_gi v_ca v_tr v_sw v_ss v_sg p hns hnp hnw hng hso hsw (by omega) _) (cwV 1 hts gX3_isSame_X3_isDark rfl rfl rfl ⟨rfl, hd_X3_isDark⟩ ⟨Nat.le_of_ble_eq_true rfl, Nat.le_of_ble_eq_true rfl⟩) (pwV (ci := 3) (q0 := 21) (C := RX3) hw hK rfl rfl rfl (rpS (AV := [.ref q, .ref (P.2.2.1 p)]) hw hK hG rp_77)) rfl rfl hl.1 rfl (lv_room (Nat.le_of_ble_eq_true rfl)) dX3_isSame_323 ⟨Nat.le_of_ble_eq_true rfl, Nat.le_of_ble_eq_true rfl⟩) hw hA rp_77 (fun H locs hw => ?_)
                refine lv_icmp_eq (tgt := 331) hx hb dX3_isSame_326 (by decide) (fun _ => ?_) (fun q8 => absurd (e_dk p hi9) q8)
                refine lv_iinc (v := nI (p + 1)) (lv' := [(3, .int (nI (p + 1))), (2, .int ((l_nm (v_st) (v_so) p) + 1)), (4, .ref (P.2.2.1 p)), (0, .ref q), (1, .ref x)]) hx hb dX3_isSame_331 hl (k := 4) rfl (nI_add p 1) (by decide) rfl (fun ls hl => ?_)
                refine lv_goto (tgt := 197) hx hb dX3_isSame_334 (by decide) ?_
                exact ih_197 (p + 1) _ _ _ (by omega) hw (by rw [show (.int (l_nm (v_st) (v_so) (p + 1)) : Value) = .int ((l_nm (v_st) (v_so) p) + 1) from (by subst hz_1; first | rfl | (simp only [l_nm, l_sm, l_nm, l_sm, if_pos c_6, if_neg c_26, if_pos c_28, if_true, if_false, Bool.false_eq_true, Bool.true_eq_false, reduceIte, reduceCtorEq]; done) | (simp only [l_nm, l_sm, if_pos c_28]; done) | (simp only [l_nm, l_sm, if_neg c_28]; done))]; exact lv_sub hl [3, 4, 1, 0] rfl)
            · have c_26 : (v_vo p : Int32) = 1 := c_26
              refine lv_iconst (v := 1) hx hb dX3_isSame_274 (by decide) ?_
              refine lv_goto (tgt := 279) hx hb dX3_isSame_275 (by decide) ?_
              refine lv_icmp_ne (tgt := 329) hx hb dX3_isSame_279 (by decide) (fun q8 => absurd (by rw [e_hv p hi9]; first | exact if_pos c_26 | exact if_neg c_26) q8) (fun _ => ?_)
              refine lv_aload_n hx hb dX3_isSame_282 rfl (lv_at hl 3 rfl) ?_
              refine lv_iload_n hx hb dX3_isSame_283 rfl (lv_at hl 4 rfl) ?_
              refine krx_i (ws' := wX x A T B ++ wC E A (B 0) S ++ wC E T (B 0) U ++ wG E B G ++ wS E q P (mkS v_ni v_wa v_un v_ns v_np v_nw v_ng v_ma v_st v_ou v_ru v_so v_mt v_vo v_gi v_ca v_tr v_sw v_ss v_sg)) (vx_runV (As := [.int (nI p)]) (rest := []) ⟨hx, hb, hml, hown, hts⟩ (c_X2_isGivenUp l hflags E x A T B S U G (nI p)  _) (cwV 1 hts gX3_isSame_X2_isGivenUp rfl rfl rfl ⟨rfl, hd_X2_isGivenUp⟩ ⟨Nat.le_of_ble_eq_true rfl, Nat.le_of_ble_eq_true rfl⟩) (pwV (ci := 2) (q0 := 0) (C := RX2) hw hK rfl rfl rfl (rpX (AV := [.ref x, .int (nI p)]) hw hK hG hZ hA rp_76)) rfl rfl hl.1 rfl (lv_room (Nat.le_of_ble_eq_true rfl)) dX3_isSame_284 ⟨Nat.le_of_ble_eq_true rfl, Nat.le_of_ble_eq_true rfl⟩) hw hA rp_76 rp_76 (fun H locs ce9 q9 t_33 hw hy1 hy2 hy3 => absurd (h2 p hi9) t_33) (fun H locs t_33 hw => ?_)
              refine lv_aload hx hb dX3_isSame_287 (lv_at hl 1 rfl) ?_
              refine lv_iconst (v := 3) hx hb dX3_isSame_289 (by decide) ?_
              refine k_ildP (i := 3) (v := v_gi p) hx hb hK hw (Pk.l (Pk_5 (i := p) (show p < v_np from by omega))) (by decide) (by decide) rfl dX3_isSame_290 ?_
              refine lv_iconst (v := 1) hx hb dX3_isSame_291 (by decide) ?_
              refine lv_icmp_ne (tgt := 299) hx hb dX3_isSame_292 (by decide) (fun c_34 => ?_) (fun c_34 => ?_)
              · have c_34 : ¬ (v_gi p : Int32) = 1 := c_34
                refine lv_iconst (v := 0) hx hb dX3_isSame_299 (by decide) ?_
                refine lv_icmp_ne (tgt := 329) hx hb dX3_isSame_300 (by decide) (fun q8 => absurd (by rw [e_gu p hi9]; first | exact if_pos c_34 | exact if_neg c_34) q8) (fun _ => ?_)
                refine lv_aload_n hx hb dX3_isSame_303 rfl (lv_at hl 3 rfl) ?_
                refine lv_iload_n hx hb dX3_isSame_304 rfl (lv_at hl 4 rfl) ?_
                refine krx_i (ws' := wX x A T B ++ wC E A (B 0) S ++ wC E T (B 0) U ++ wG E B G ++ wS E q P (mkS v_ni v_wa v_un v_ns v_np v_nw v_ng v_ma v_st v_ou v_ru v_so v_mt v_vo v_gi v_ca v_tr v_sw v_ss v_sg)) (vx_runV (As := [.int (nI p)]) (rest := []) ⟨hx, hb, hml, hown, hts⟩ (c_X2_candleOf l hflags E x A T B S U G (nI p)  _) (cwV 1 hts gX3_isSame_X2_candleOf rfl rfl rfl ⟨rfl, hd_X2_candleOf⟩ ⟨Nat.le_of_ble_eq_true rfl, Nat.le_of_ble_eq_true rfl⟩) (pwV (ci := 2) (q0 := 0) (C := RX2) hw hK rfl rfl rfl (rpX (AV := [.ref x, .int (nI p)]) hw hK hG hZ hA rp_76)) rfl rfl hl.1 rfl (lv_room (Nat.le_of_ble_eq_true rfl)) dX3_isSame_305 ⟨Nat.le_of_ble_eq_true rfl, Nat.le_of_ble_eq_true rfl⟩) hw hA rp_76 rp_76 (fun H locs ce9 q9 t_35 hw hy1 hy2 hy3 => absurd (h2 p hi9) t_35) (fun H locs t_35 hw => ?_)
                refine lv_aload hx hb dX3_isSame_308 (lv_at hl 1 rfl) ?_
                refine lv_iconst (v := 4) hx hb dX3_isSame_310 (by decide) ?_
                refine k_ildP (i := 4) (v := v_ca p) hx hb hK hw (Pk.l (Pk_5 (i := p) (show p < v_np from by omega))) (by decide) (by decide) rfl dX3_isSame_311 ?_
                refine lv_icmp_ne (tgt := 329) hx hb dX3_isSame_312 (by decide) (fun q8 => absurd (e_ca p hi9) q8) (fun _ => ?_)
                refine lv_aload_n hx hb dX3_isSame_315 rfl (lv_at hl 3 rfl) ?_
                refine lv_iload_n hx hb dX3_isSame_316 rfl (lv_at hl 4 rfl) ?_
                refine krx_i (ws' := wX x A T B ++ wC E A (B 0) S ++ wC E T (B 0) U ++ wG E B G ++ wS E q P (mkS v_ni v_wa v_un v_ns v_np v_nw v_ng v_ma v_st v_ou v_ru v_so v_mt v_vo v_gi v_ca v_tr v_sw v_ss v_sg)) (vx_runV (As := [.int (nI p)]) (rest := []) ⟨hx, hb, hml, hown, hts⟩ (c_X2_isDark l hflags E x A T B S U G (nI p)  _) (cwV 1 hts gX3_isSame_X2_isDark rfl rfl rfl ⟨rfl, hd_X2_isDark⟩ ⟨Nat.le_of_ble_eq_true rfl, Nat.le_of_ble_eq_true rfl⟩) (pwV (ci := 2) (q0 := 0) (C := RX2) hw hK rfl rfl rfl (rpX (AV := [.ref x, .int (nI p)]) hw hK hG hZ hA rp_76)) rfl rfl hl.1 rfl (lv_room (Nat.le_of_ble_eq_true rfl)) dX3_isSame_317 ⟨Nat.le_of_ble_eq_true rfl, Nat.le_of_ble_eq_true rfl⟩) hw hA rp_76 rp_76 (fun H locs ce9 q9 t_36 hw hy1 hy2 hy3 => absurd (h2 p hi9) t_36) (fun H locs t_36 hw => ?_)
                refine lv_aload_n hx hb dX3_isSame_320 rfl (lv_at hl 2 rfl) ?_
                refine lv_aload hx hb dX3_isSame_321 (lv_at hl 1 rfl) ?_
                refine kr_i (ws' := wX x A T B ++ wC E A (B 0) S ++ wC E T (B 0) U ++ wG E B G ++ wS E q P (mkS v_ni v_wa v_un v_ns v_np v_nw v_ng v_ma v_st v_ou v_ru v_so v_mt v_vo v_gi v_ca v_tr v_sw v_ss v_sg)) (va_runV (As := [.ref (P.2.2.1 p)]) (rest := [.int (bI (f_dark G S (nI p)))]) ⟨hx, hb, hml, hown, hts⟩ (c_X3_isDark l E q P v_ni v_wa v_un v_ns v_np v_nw v_ng v_ma v_st v_ou v_ru v_so v_mt v_vo v_gi v_ca v_tr v_sw v_ss v_sg p hns hnp hnw hng hso hsw (by omega) _) (cwV 1 hts gX3_isSame_X3_isDark rfl rfl rfl ⟨rfl, hd_X3_isDark⟩ ⟨Nat.le_of_ble_eq_true rfl, Nat.le_of_ble_eq_true rfl⟩) (pwV (ci := 3) (q0 := 21) (C := RX3) hw hK rfl rfl rfl (rpS (AV := [.ref q, .ref (P.2.2.1 p)]) hw hK hG rp_77)) rfl rfl hl.1 rfl (lv_room (Nat.le_of_ble_eq_true rfl)) dX3_isSame_323 ⟨Nat.le_of_ble_eq_true rfl, Nat.le_of_ble_eq_true rfl⟩) hw hA rp_77 (fun H locs hw => ?_)
                refine lv_icmp_eq (tgt := 331) hx hb dX3_isSame_326 (by decide) (fun _ => ?_) (fun q8 => absurd (e_dk p hi9) q8)
                refine lv_iinc (v := nI (p + 1)) (lv' := [(3, .int (nI (p + 1))), (2, .int ((l_nm (v_st) (v_so) p) + 1)), (4, .ref (P.2.2.1 p)), (0, .ref q), (1, .ref x)]) hx hb dX3_isSame_331 hl (k := 4) rfl (nI_add p 1) (by decide) rfl (fun ls hl => ?_)
                refine lv_goto (tgt := 197) hx hb dX3_isSame_334 (by decide) ?_
                exact ih_197 (p + 1) _ _ _ (by omega) hw (by rw [show (.int (l_nm (v_st) (v_so) (p + 1)) : Value) = .int ((l_nm (v_st) (v_so) p) + 1) from (by subst hz_1; first | rfl | (simp only [l_nm, l_sm, l_nm, l_sm, if_pos c_6, if_pos c_26, if_neg c_34, if_true, if_false, Bool.false_eq_true, Bool.true_eq_false, reduceIte, reduceCtorEq]; done) | (simp only [l_nm, l_sm, if_pos c_34]; done) | (simp only [l_nm, l_sm, if_neg c_34]; done))]; exact lv_sub hl [3, 4, 1, 0] rfl)
              · have c_34 : (v_gi p : Int32) = 1 := c_34
                refine lv_iconst (v := 1) hx hb dX3_isSame_295 (by decide) ?_
                refine lv_goto (tgt := 300) hx hb dX3_isSame_296 (by decide) ?_
                refine lv_icmp_ne (tgt := 329) hx hb dX3_isSame_300 (by decide) (fun q8 => absurd (by rw [e_gu p hi9]; first | exact if_pos c_34 | exact if_neg c_34) q8) (fun _ => ?_)
                refine lv_aload_n hx hb dX3_isSame_303 rfl (lv_at hl 3 rfl) ?_
                refine lv_iload_n hx hb dX3_isSame_304 rfl (lv_at hl 4 rfl) ?_
                refine krx_i (ws' := wX x A T B ++ wC E A (B 0) S ++ wC E T (B 0) U ++ wG E B G ++ wS E q P (mkS v_ni v_wa v_un v_ns v_np v_nw v_ng v_ma v_st v_ou v_ru v_so v_mt v_vo v_gi v_ca v_tr v_sw v_ss v_sg)) (vx_runV (As := [.int (nI p)]) (rest := []) ⟨hx, hb, hml, hown, hts⟩ (c_X2_candleOf l hflags E x A T B S U G (nI p)  _) (cwV 1 hts gX3_isSame_X2_candleOf rfl rfl rfl ⟨rfl, hd_X2_candleOf⟩ ⟨Nat.le_of_ble_eq_true rfl, Nat.le_of_ble_eq_true rfl⟩) (pwV (ci := 2) (q0 := 0) (C := RX2) hw hK rfl rfl rfl (rpX (AV := [.ref x, .int (nI p)]) hw hK hG hZ hA rp_76)) rfl rfl hl.1 rfl (lv_room (Nat.le_of_ble_eq_true rfl)) dX3_isSame_305 ⟨Nat.le_of_ble_eq_true rfl, Nat.le_of_ble_eq_true rfl⟩) hw hA rp_76 rp_76 (fun H locs ce9 q9 t_37 hw hy1 hy2 hy3 => absurd (h2 p hi9) t_37) (fun H locs t_37 hw => ?_)
                refine lv_aload hx hb dX3_isSame_308 (lv_at hl 1 rfl) ?_
                refine lv_iconst (v := 4) hx hb dX3_isSame_310 (by decide) ?_
                refine k_ildP (i := 4) (v := v_ca p) hx hb hK hw (Pk.l (Pk_5 (i := p) (show p < v_np from by omega))) (by decide) (by decide) rfl dX3_isSame_311 ?_
                refine lv_icmp_ne (tgt := 329) hx hb dX3_isSame_312 (by decide) (fun q8 => absurd (e_ca p hi9) q8) (fun _ => ?_)
                refine lv_aload_n hx hb dX3_isSame_315 rfl (lv_at hl 3 rfl) ?_
                refine lv_iload_n hx hb dX3_isSame_316 rfl (lv_at hl 4 rfl) ?_
                refine krx_i (ws' := wX x A T B ++ wC E A (B 0) S ++ wC E T (B 0) U ++ wG E B G ++ wS E q P (mkS v_ni v_wa v_un v_ns v_np v_nw v_ng v_ma v_st v_ou v_ru v_so v_mt v_vo v_gi v_ca v_tr v_sw v_ss v_sg)) (vx_runV (As := [.int (nI p)]) (rest := []) ⟨hx, hb, hml, hown, hts⟩ (c_X2_isDark l hflags E x A T B S U G (nI p)  _) (cwV 1 hts gX3_isSame_X2_isDark rfl rfl rfl ⟨rfl, hd_X2_isDark⟩ ⟨Nat.le_of_ble_eq_true rfl, Nat.le_of_ble_eq_true rfl⟩) (pwV (ci := 2) (q0 := 0) (C := RX2) hw hK rfl rfl rfl (rpX (AV := [.ref x, .int (nI p)]) hw hK hG hZ hA rp_76)) rfl rfl hl.1 rfl (lv_room (Nat.le_of_ble_eq_true rfl)) dX3_isSame_317 ⟨Nat.le_of_ble_eq_true rfl, Nat.le_of_ble_eq_true rfl⟩) hw hA rp_76 rp_76 (fun H locs ce9 q9 t_38 hw hy1 hy2 hy3 => absurd (h2 p hi9) t_38) (fun H locs t_38 hw => ?_)
                refine lv_aload_n hx hb dX3_isSame_320 rfl (lv_at hl 2 rfl) ?_
                refine lv_aload hx hb dX3_isSame_321 (lv_at hl 1 rfl) ?_
                refine kr_i (ws' := wX x A T B ++ wC E A (B 0) S ++ wC E T (B 0) U ++ wG E B G ++ wS E q P (mkS v_ni v_wa v_un v_ns v_np v_nw v_ng v_ma v_st v_ou v_ru v_so v_mt v_vo v_gi v_ca v_tr v_sw v_ss v_sg)) (va_runV (As := [.ref (P.2.2.1 p)]) (rest := [.int (bI (f_dark G S (nI p)))]) ⟨hx, hb, hml, hown, hts⟩ (c_X3_isDark l E q P v_ni v_wa v_un v_ns v_np v_nw v_ng v_ma v_st v_ou v_ru v_so v_mt v_vo v_gi v_ca v_tr v_sw v_ss v_sg p hns hnp hnw hng hso hsw (by omega) _) (cwV 1 hts gX3_isSame_X3_isDark rfl rfl rfl ⟨rfl, hd_X3_isDark⟩ ⟨Nat.le_of_ble_eq_true rfl, Nat.le_of_ble_eq_true rfl⟩) (pwV (ci := 3) (q0 := 21) (C := RX3) hw hK rfl rfl rfl (rpS (AV := [.ref q, .ref (P.2.2.1 p)]) hw hK hG rp_77)) rfl rfl hl.1 rfl (lv_room (Nat.le_of_ble_eq_true rfl)) dX3_isSame_323 ⟨Nat.le_of_ble_eq_true rfl, Nat.le_of_ble_eq_true rfl⟩) hw hA rp_77 (fun H locs hw => ?_)
                refine lv_icmp_eq (tgt := 331) hx hb dX3_isSame_326 (by decide) (fun _ => ?_) (fun q8 => absurd (e_dk p hi9) q8)
                refine lv_iinc (v := nI (p + 1)) (lv' := [(3, .int (nI (p + 1))), (2, .int ((l_nm (v_st) (v_so) p) + 1)), (4, .ref (P.2.2.1 p)), (0, .ref q), (1, .ref x)]) hx hb dX3_isSame_331 hl (k := 4) rfl (nI_add p 1) (by decide) rfl (fun ls hl => ?_)
                refine lv_goto (tgt := 197) hx hb dX3_isSame_334 (by decide) ?_
                exact ih_197 (p + 1) _ _ _ (by omega) hw (by rw [show (.int (l_nm (v_st) (v_so) (p + 1)) : Value) = .int ((l_nm (v_st) (v_so) p) + 1) from (by subst hz_1; first | rfl | (simp only [l_nm, l_sm, l_nm, l_sm, if_pos c_6, if_pos c_26, if_pos c_34, if_true, if_false, Bool.false_eq_true, Bool.true_eq_false, reduceIte, reduceCtorEq]; done) | (simp only [l_nm, l_sm, if_pos c_34]; done) | (simp only [l_nm, l_sm, if_neg c_34]; done))]; exact lv_sub hl [3, 4, 1, 0] rfl)
      exact L_197 (v_np - 0) 0 _ _ _ (by omega) hw (lv_sub hl [1, 2, 3, 0] rfl)
    | succ k9 ih_4 =>
      intro i H locs ls hi hw hl
      have hi9 : i < v_ns := by omega
      refine lv_iload_n hx hb dX3_isSame_4 rfl (lv_at hl 3 rfl) ?_
      refine lv_aload_n hx hb dX3_isSame_5 rfl (lv_at hl 0 rfl) ?_
      refine k_get (ci := 3) (v := .ref (P.1 1)) (C := RX3) (T := TX3) (N := 7) hx hb hown hK hw hts hinX3 21 rfl rfl 3 (by decide) hf9 rfl dX3_isSame_6 ?_
      refine k_lenQ (n := v_ns) hx hb hK hw 22 rfl dX3_isSame_9 ?_
      refine lv_icmp_ge (tgt := 195) hx hb dX3_isSame_10 (by decide) (fun q8 => absurd q8 (nI_ge (a := i) (b := v_ns) (by omega) (by omega))) (fun _ => ?_)
      refine lv_aload_n hx hb dX3_isSame_13 rfl (lv_at hl 0 rfl) ?_
      refine k_get (ci := 3) (v := .ref (P.1 1)) (C := RX3) (T := TX3) (N := 7) hx hb hown hK hw hts hinX3 21 rfl rfl 3 (by decide) hf9 rfl dX3_isSame_14 ?_
      refine lv_iload_n hx hb dX3_isSame_17 rfl (lv_at hl 3 rfl) ?_
      refine k_qld (i := i) (y := P.2.1 i) (n := v_ns) hx hb hK hw 22 rfl (show i < v_ns from by omega) (show v_ns < 2 ^ 31 by omega) rfl dX3_isSame_18 ?_
      refine lv_astore (lv' := [(4, .ref (P.2.1 i)), (0, .ref q), (1, .ref x), (2, .int 0), (3, .int (nI i))]) hx hb dX3_isSame_19 hl (by decide) rfl (fun ls hl => ?_)
      refine lv_aload_n hx hb dX3_isSame_21 rfl (lv_at hl 1 rfl) ?_
      refine lv_iload_n hx hb dX3_isSame_22 rfl (lv_at hl 4 rfl) ?_
      refine lv_iconst (v := 0) hx hb dX3_isSame_23 (by decide) ?_
      refine kr_i (ws' := wX x A T B ++ wC E A (B 0) S ++ wC E T (B 0) U ++ wG E B G ++ wS E q P (mkS v_ni v_wa v_un v_ns v_np v_nw v_ng v_ma v_st v_ou v_ru v_so v_mt v_vo v_gi v_ca v_tr v_sw v_ss v_sg)) (va_runV (As := [.int (nI i), .int 0]) (rest := []) ⟨hx, hb, hml, hown, hts⟩ (c_X3_votes l E q P v_ni v_wa v_un v_ns v_np v_nw v_ng v_ma v_st v_ou v_ru v_so v_mt v_vo v_gi v_ca v_tr v_sw v_ss v_sg i false hns hnp hnw hng hso hsw _) (cwV 2 hts gX3_isSame_X3_votes rfl rfl rfl ⟨rfl, hd_X3_votes⟩ ⟨Nat.le_of_ble_eq_true rfl, Nat.le_of_ble_eq_true rfl⟩) (pwV (ci := 3) (q0 := 21) (C := RX3) hw hK rfl rfl rfl (rpS (AV := [.ref q, .int (nI i), .int 0]) hw hK hG rp_77)) rfl rfl hl.1 rfl (lv_room (Nat.le_of_ble_eq_true rfl)) dX3_isSame_24 ⟨Nat.le_of_ble_eq_true rfl, Nat.le_of_ble_eq_true rfl⟩) hw hA rp_77 (fun H locs hw => ?_)
      refine lv_istore (lv' := [(5, .int (l_vot (v_so) (v_vo) (v_gi) i false (v_np))), (4, .ref (P.2.1 i)), (0, .ref q), (1, .ref x), (2, .int 0), (3, .int (nI i))]) hx hb dX3_isSame_27 hl (by decide) rfl (fun ls hl => ?_)
      refine lv_aload_n hx hb dX3_isSame_29 rfl (lv_at hl 2 rfl) ?_
      refine lv_iload_n hx hb dX3_isSame_30 rfl (lv_at hl 5 rfl) ?_
      refine lv_iconst (v := 1) hx hb dX3_isSame_31 (by decide) ?_
      refine kr_i (ws' := wX x A T B ++ wC E A (B 0) S ++ wC E T (B 0) U ++ wG E B G ++ wS E q P (mkS v_ni v_wa v_un v_ns v_np v_nw v_ng v_ma v_st v_ou v_ru v_so v_mt v_vo v_gi v_ca v_tr v_sw v_ss v_sg)) (va_runV (As := [.int (nI i), .int 1]) (rest := []) ⟨hx, hb, hml, hown, hts⟩ (c_X3_votes l E q P v_ni v_wa v_un v_ns v_np v_nw v_ng v_ma v_st v_ou v_ru v_so v_mt v_vo v_gi v_ca v_tr v_sw v_ss v_sg i true hns hnp hnw hng hso hsw _) (cwV 2 hts gX3_isSame_X3_votes rfl rfl rfl ⟨rfl, hd_X3_votes⟩ ⟨Nat.le_of_ble_eq_true rfl, Nat.le_of_ble_eq_true rfl⟩) (pwV (ci := 3) (q0 := 21) (C := RX3) hw hK rfl rfl rfl (rpS (AV := [.ref q, .int (nI i), .int 1]) hw hK hG rp_77)) rfl rfl hl.1 rfl (lv_room (Nat.le_of_ble_eq_true rfl)) dX3_isSame_32 ⟨Nat.le_of_ble_eq_true rfl, Nat.le_of_ble_eq_true rfl⟩) hw hA rp_77 (fun H locs hw => ?_)
      refine lv_istore (lv' := [(6, .int (l_vot (v_so) (v_vo) (v_gi) i true (v_np))), (5, .int (l_vot (v_so) (v_vo) (v_gi) i false (v_np))), (4, .ref (P.2.1 i)), (0, .ref q), (1, .ref x), (2, .int 0), (3, .int (nI i))]) hx hb dX3_isSame_35 hl (by decide) rfl (fun ls hl => ?_)
      refine lv_iconst (v := 0) hx hb dX3_isSame_37 (by decide) ?_
      refine lv_istore (lv' := [(7, .int 0), (6, .int (l_vot (v_so) (v_vo) (v_gi) i true (v_np))), (5, .int (l_vot (v_so) (v_vo) (v_gi) i false (v_np))), (4, .ref (P.2.1 i)), (0, .ref q), (1, .ref x), (2, .int 0), (3, .int (nI i))]) hx hb dX3_isSame_38 hl (by decide) rfl (fun ls hl => ?_)
      have L_40 : ∀ (k9 j : Nat) (H : Heap) (locs : List Loc) (ls : Array Slot), j + k9 = (Kf i) → Wd E A9 s9.heap (wX x A T B ++ wC E A (B 0) S ++ wC E T (B 0) U ++ wG E B G ++ wS E q P (mkS v_ni v_wa v_un v_ns v_np v_nw v_ng v_ma v_st v_ou v_ru v_so v_mt v_vo v_gi v_ca v_tr v_sw v_ss v_sg)) H locs → lv_has ls 8 [(0, .ref q), (1, .ref x), (2, .int 0), (3, .int (nI i)), (4, .ref (P.2.1 i)), (5, .int (l_vot (v_so) (v_vo) (v_gi) i false (v_np))), (6, .int (l_vot (v_so) (v_vo) (v_gi) i true (v_np))), (7, .int (nI j))] → W p9 l e rm_X3_isSame s9 m args below meth c H locs 0 0 (XndI E A9 0 1 (wX x A T B ++ wC E A (B 0) S ++ wC E T (B 0) U ++ wG E B G ++ wS E q P (mkS v_ni v_wa v_un v_ns v_np v_nw v_ng v_ma v_st v_ou v_ru v_so v_mt v_vo v_gi v_ca v_tr v_sw v_ss v_sg)) (wX x A T B ++ wC E A (B 0) S ++ wC E T (B 0) U ++ wG E B G ++ wS E q P (mkS v_ni v_wa v_un v_ns v_np v_nw v_ng v_ma v_st v_ou v_ru v_so v_mt v_vo v_gi v_ca v_tr v_sw v_ss v_sg)) below args s9 (rm_X3_isSame).cells (rm_X3_isSame).slots) (F0 m 40 ls []) := by
        intro k9
        induction k9 with
        | zero =>
          intro j H locs ls hi hw hl
          have hz_39 : Kf i = j := by omega
          refine lv_iconst (v := 2) hx hb dX3_isSame_40 (by decide) ?_
          refine lv_iload hx hb dX3_isSame_41 (lv_at hl 6 rfl) ?_
          refine lv_iload hx hb dX3_isSame_43 (lv_at hl 7 rfl) ?_
          refine lv_iadd hx hb dX3_isSame_45 ?_
          refine lv_imul hx hb dX3_isSame_46 ?_
          refine lv_iload hx hb dX3_isSame_47 (lv_at hl 5 rfl) ?_
          refine lv_icmp_gt (tgt := 58) hx hb dX3_isSame_49 (by decide) (fun _ => ?_) (fun q8 => absurd (by rw [← hz_39]; exact e_k2 i hi9) q8)
          refine lv_aload_n hx hb dX3_isSame_58 rfl (lv_at hl 1 rfl) ?_
          refine lv_iload_n hx hb dX3_isSame_59 rfl (lv_at hl 3 rfl) ?_
          refine krx_i (ws' := wX x A T B ++ wC E A (B 0) S ++ wC E T (B 0) U ++ wG E B G ++ wS E q P (mkS v_ni v_wa v_un v_ns v_np v_nw v_ng v_ma v_st v_ou v_ru v_so v_mt v_vo v_gi v_ca v_tr v_sw v_ss v_sg)) (vx_runV (As := [.int (nI i)]) (rest := []) ⟨hx, hb, hml, hown, hts⟩ (c_X2_mastsOf l hflags E x A T B S U G (nI i)  _) (cwV 1 hts gX3_isSame_X2_mastsOf rfl rfl rfl ⟨rfl, hd_X2_mastsOf⟩ ⟨Nat.le_of_ble_eq_true rfl, Nat.le_of_ble_eq_true rfl⟩) (pwV (ci := 2) (q0 := 0) (C := RX2) hw hK rfl rfl rfl (rpX (AV := [.ref x, .int (nI i)]) hw hK hG hZ hA rp_76)) rfl rfl hl.1 rfl (lv_room (Nat.le_of_ble_eq_true rfl)) dX3_isSame_60 ⟨Nat.le_of_ble_eq_true rfl, Nat.le_of_ble_eq_true rfl⟩) hw hA rp_76 rp_76 (fun H locs ce9 q9 t_40 hw hy1 hy2 hy3 => absurd (h1 i hi9) t_40) (fun H locs t_40 hw => ?_)
          refine lv_aload hx hb dX3_isSame_63 (lv_at hl 4 rfl) ?_
          refine lv_iconst (v := 0) hx hb dX3_isSame_65 (by decide) ?_
          refine k_ildP (i := 0) (v := v_ma i) hx hb hK hw (Pk.l (Pk_4 (i := i) (show i < v_ns from by omega))) (by decide) (by decide) rfl dX3_isSame_66 ?_
          refine lv_icmp_ne (tgt := 187) hx hb dX3_isSame_67 (by decide) (fun q8 => absurd (e_ma i hi9) q8) (fun _ => ?_)
          refine lv_aload_n hx hb dX3_isSame_70 rfl (lv_at hl 1 rfl) ?_
          refine lv_iload_n hx hb dX3_isSame_71 rfl (lv_at hl 3 rfl) ?_
          refine krx_i (ws' := wX x A T B ++ wC E A (B 0) S ++ wC E T (B 0) U ++ wG E B G ++ wS E q P (mkS v_ni v_wa v_un v_ns v_np v_nw v_ng v_ma v_st v_ou v_ru v_so v_mt v_vo v_gi v_ca v_tr v_sw v_ss v_sg)) (vx_runV (As := [.int (nI i)]) (rest := []) ⟨hx, hb, hml, hown, hts⟩ (c_X2_isAway l hflags E x A T B S U G (nI i)  _) (cwV 1 hts gX3_isSame_X2_isAway rfl rfl rfl ⟨rfl, hd_X2_isAway⟩ ⟨Nat.le_of_ble_eq_true rfl, Nat.le_of_ble_eq_true rfl⟩) (pwV (ci := 2) (q0 := 0) (C := RX2) hw hK rfl rfl rfl (rpX (AV := [.ref x, .int (nI i)]) hw hK hG hZ hA rp_76)) rfl rfl hl.1 rfl (lv_room (Nat.le_of_ble_eq_true rfl)) dX3_isSame_72 ⟨Nat.le_of_ble_eq_true rfl, Nat.le_of_ble_eq_true rfl⟩) hw hA rp_76 rp_76 (fun H locs ce9 q9 t_41 hw hy1 hy2 hy3 => absurd (h1 i hi9) t_41) (fun H locs t_41 hw => ?_)
          refine lv_aload hx hb dX3_isSame_75 (lv_at hl 4 rfl) ?_
          refine lv_iconst (v := 1) hx hb dX3_isSame_77 (by decide) ?_
          refine k_ildP (i := 1) (v := v_st i) hx hb hK hw (Pk.l (Pk_4 (i := i) (show i < v_ns from by omega))) (by decide) (by decide) rfl dX3_isSame_78 ?_
          refine lv_if_le (tgt := 86) hx hb dX3_isSame_79 (by decide) (fun c_42 => ?_) (fun c_42 => ?_)
          · have c_42 : (v_st i : Int32) ≤ 0 := c_42
            refine lv_iconst (v := 0) hx hb dX3_isSame_86 (by decide) ?_
            refine lv_icmp_ne (tgt := 187) hx hb dX3_isSame_87 (by decide) (fun q8 => absurd (by rw [e_aw i hi9]; first | exact if_pos c_42 | exact if_neg c_42) q8) (fun _ => ?_)
            refine lv_aload_n hx hb dX3_isSame_90 rfl (lv_at hl 1 rfl) ?_
            refine lv_iload_n hx hb dX3_isSame_91 rfl (lv_at hl 3 rfl) ?_
            refine krx_i (ws' := wX x A T B ++ wC E A (B 0) S ++ wC E T (B 0) U ++ wG E B G ++ wS E q P (mkS v_ni v_wa v_un v_ns v_np v_nw v_ng v_ma v_st v_ou v_ru v_so v_mt v_vo v_gi v_ca v_tr v_sw v_ss v_sg)) (vx_runV (As := [.int (nI i)]) (rest := []) ⟨hx, hb, hml, hown, hts⟩ (c_X2_isLost l hflags E x A T B S U G (nI i)  _) (cwV 1 hts gX3_isSame_X2_isLost rfl rfl rfl ⟨rfl, hd_X2_isLost⟩ ⟨Nat.le_of_ble_eq_true rfl, Nat.le_of_ble_eq_true rfl⟩) (pwV (ci := 2) (q0 := 0) (C := RX2) hw hK rfl rfl rfl (rpX (AV := [.ref x, .int (nI i)]) hw hK hG hZ hA rp_76)) rfl rfl hl.1 rfl (lv_room (Nat.le_of_ble_eq_true rfl)) dX3_isSame_92 ⟨Nat.le_of_ble_eq_true rfl, Nat.le_of_ble_eq_true rfl⟩) hw hA rp_76 rp_76 (fun H locs ce9 q9 t_43 hw hy1 hy2 hy3 => absurd (h1 i hi9) t_43) (fun H locs t_43 hw => ?_)
            refine lv_aload hx hb dX3_isSame_95 (lv_at hl 4 rfl) ?_
            refine lv_iconst (v := 1) hx hb dX3_isSame_97 (by decide) ?_
            refine k_ildP (i := 1) (v := v_st i) hx hb hK hw (Pk.l (Pk_4 (i := i) (show i < v_ns from by omega))) (by decide) (by decide) rfl dX3_isSame_98 ?_
            refine lv_iconst (v := 2) hx hb dX3_isSame_99 (by decide) ?_
            refine lv_icmp_ne (tgt := 107) hx hb dX3_isSame_100 (by decide) (fun c_44 => ?_) (fun c_44 => ?_)
            · have c_44 : ¬ (v_st i : Int32) = 2 := c_44
              refine lv_iconst (v := 0) hx hb dX3_isSame_107 (by decide) ?_
              refine lv_icmp_ne (tgt := 187) hx hb dX3_isSame_108 (by decide) (fun q8 => absurd (by rw [e_lo i hi9]; first | exact if_pos c_44 | exact if_neg c_44) q8) (fun _ => ?_)
              refine lv_aload_n hx hb dX3_isSame_111 rfl (lv_at hl 1 rfl) ?_
              refine lv_iload_n hx hb dX3_isSame_112 rfl (lv_at hl 3 rfl) ?_
              refine krx_i (ws' := wX x A T B ++ wC E A (B 0) S ++ wC E T (B 0) U ++ wG E B G ++ wS E q P (mkS v_ni v_wa v_un v_ns v_np v_nw v_ng v_ma v_st v_ou v_ru v_so v_mt v_vo v_gi v_ca v_tr v_sw v_ss v_sg)) (vx_runV (As := [.int (nI i)]) (rest := []) ⟨hx, hb, hml, hown, hts⟩ (c_X2_nightsOut l hflags E x A T B S U G (nI i)  _) (cwV 1 hts gX3_isSame_X2_nightsOut rfl rfl rfl ⟨rfl, hd_X2_nightsOut⟩ ⟨Nat.le_of_ble_eq_true rfl, Nat.le_of_ble_eq_true rfl⟩) (pwV (ci := 2) (q0 := 0) (C := RX2) hw hK rfl rfl rfl (rpX (AV := [.ref x, .int (nI i)]) hw hK hG hZ hA rp_76)) rfl rfl hl.1 rfl (lv_room (Nat.le_of_ble_eq_true rfl)) dX3_isSame_113 ⟨Nat.le_of_ble_eq_true rfl, Nat.le_of_ble_eq_true rfl⟩) hw hA rp_76 rp_76 (fun H locs ce9 q9 t_45 hw hy1 hy2 hy3 => absurd (h1 i hi9) t_45) (fun H locs t_45 hw => ?_)
              refine lv_aload hx hb dX3_isSame_116 (lv_at hl 4 rfl) ?_
              refine lv_iconst (v := 2) hx hb dX3_isSame_118 (by decide) ?_
              refine k_ildP (i := 2) (v := v_ou i) hx hb hK hw (Pk.l (Pk_4 (i := i) (show i < v_ns from by omega))) (by decide) (by decide) rfl dX3_isSame_119 ?_
              refine lv_icmp_ne (tgt := 187) hx hb dX3_isSame_120 (by decide) (fun q8 => absurd (e_ou i hi9) q8) (fun _ => ?_)
              refine lv_aload_n hx hb dX3_isSame_123 rfl (lv_at hl 1 rfl) ?_
              refine lv_iload_n hx hb dX3_isSame_124 rfl (lv_at hl 3 rfl) ?_
              refine krx_i (ws' := wX x A T B ++ wC E A (B 0) S ++ wC E T (B 0) U ++ wG E B G ++ wS E q P (mkS v_ni v_wa v_un v_ns v_np v_nw v_ng v_ma v_st v_ou v_ru v_so v_mt v_vo v_gi v_ca v_tr v_sw v_ss v_sg)) (vx_runV (As := [.int (nI i)]) (rest := []) ⟨hx, hb, hml, hown, hts⟩ (c_X2_isRung l hflags E x A T B S U G (nI i)  _) (cwV 1 hts gX3_isSame_X2_isRung rfl rfl rfl ⟨rfl, hd_X2_isRung⟩ ⟨Nat.le_of_ble_eq_true rfl, Nat.le_of_ble_eq_true rfl⟩) (pwV (ci := 2) (q0 := 0) (C := RX2) hw hK rfl rfl rfl (rpX (AV := [.ref x, .int (nI i)]) hw hK hG hZ hA rp_76)) rfl rfl hl.1 rfl (lv_room (Nat.le_of_ble_eq_true rfl)) dX3_isSame_125 ⟨Nat.le_of_ble_eq_true rfl, Nat.le_of_ble_eq_true rfl⟩) hw hA rp_76 rp_76 (fun H locs ce9 q9 t_46 hw hy1 hy2 hy3 => absurd (h1 i hi9) t_46) (fun H locs t_46 hw => ?_)
              refine lv_aload hx hb dX3_isSame_128 (lv_at hl 4 rfl) ?_
              refine lv_iconst (v := 3) hx hb dX3_isSame_130 (by decide) ?_
              refine k_ildP (i := 3) (v := v_ru i) hx hb hK hw (Pk.l (Pk_4 (i := i) (show i < v_ns from by omega))) (by decide) (by decide) rfl dX3_isSame_131 ?_
              refine lv_iconst (v := 1) hx hb dX3_isSame_132 (by decide) ?_
              refine lv_icmp_ne (tgt := 140) hx hb dX3_isSame_133 (by decide) (fun c_47 => ?_) (fun c_47 => ?_)
              · have c_47 : ¬ (v_ru i : Int32) = 1 := c_47
                refine lv_iconst (v := 0) hx hb dX3_isSame_140 (by decide) ?_
                refine lv_icmp_ne (tgt := 187) hx hb dX3_isSame_141 (by decide) (fun q8 => absurd (by rw [e_ru i hi9]; first | exact if_pos c_47 | exact if_neg c_47) q8) (fun _ => ?_)
                refine lv_aload_n hx hb dX3_isSame_144 rfl (lv_at hl 1 rfl) ?_
                refine lv_iload_n hx hb dX3_isSame_145 rfl (lv_at hl 3 rfl) ?_
                refine krx_i (ws' := wX x A T B ++ wC E A (B 0) S ++ wC E T (B 0) U ++ wG E B G ++ wS E q P (mkS v_ni v_wa v_un v_ns v_np v_nw v_ng v_ma v_st v_ou v_ru v_so v_mt v_vo v_gi v_ca v_tr v_sw v_ss v_sg)) (vx_runV (As := [.int (nI i)]) (rest := []) ⟨hx, hb, hml, hown, hts⟩ (c_X2_trustIn l hflags E x A T B S U G (nI i)  _) (cwV 1 hts gX3_isSame_X2_trustIn rfl rfl rfl ⟨rfl, hd_X2_trustIn⟩ ⟨Nat.le_of_ble_eq_true rfl, Nat.le_of_ble_eq_true rfl⟩) (pwV (ci := 2) (q0 := 0) (C := RX2) hw hK rfl rfl rfl (rpX (AV := [.ref x, .int (nI i)]) hw hK hG hZ hA rp_76)) rfl rfl hl.1 rfl (lv_room (Nat.le_of_ble_eq_true rfl)) dX3_isSame_146 ⟨Nat.le_of_ble_eq_true rfl, Nat.le_of_ble_eq_true rfl⟩) hw hA rp_76 rp_76 (fun H locs ce9 q9 t_48 hw hy1 hy2 hy3 => absurd (h1 i hi9) t_48) (fun H locs t_48 hw => ?_)
                refine lv_aload_n hx hb dX3_isSame_149 rfl (lv_at hl 0 rfl) ?_
                refine lv_iload_n hx hb dX3_isSame_150 rfl (lv_at hl 3 rfl) ?_
                refine kr_i (ws' := wX x A T B ++ wC E A (B 0) S ++ wC E T (B 0) U ++ wG E B G ++ wS E q P (mkS v_ni v_wa v_un v_ns v_np v_nw v_ng v_ma v_st v_ou v_ru v_so v_mt v_vo v_gi v_ca v_tr v_sw v_ss v_sg)) (va_runV (As := [.int (nI i)]) (rest := [.int (f_trust S (nI i))]) ⟨hx, hb, hml, hown, hts⟩ (c_X3_trustIn l E q P v_ni v_wa v_un v_ns v_np v_nw v_ng v_ma v_st v_ou v_ru v_so v_mt v_vo v_gi v_ca v_tr v_sw v_ss v_sg i hns hnp hnw hng hso hsw _) (cwV 1 hts gX3_isSame_X3_trustIn rfl rfl rfl ⟨rfl, hd_X3_trustIn⟩ ⟨Nat.le_of_ble_eq_true rfl, Nat.le_of_ble_eq_true rfl⟩) (pwV (ci := 3) (q0 := 21) (C := RX3) hw hK rfl rfl rfl (rpS (AV := [.ref q, .int (nI i)]) hw hK hG rp_77)) rfl rfl hl.1 rfl (lv_room (Nat.le_of_ble_eq_true rfl)) dX3_isSame_151 ⟨Nat.le_of_ble_eq_true rfl, Nat.le_of_ble_eq_true rfl⟩) hw hA rp_77 (fun H locs hw => ?_)
                refine lv_icmp_ne (tgt := 187) hx hb dX3_isSame_154 (by decide) (fun q8 => absurd (e_ti i hi9) q8) (fun _ => ?_)
                refine lv_aload_n hx hb dX3_isSame_157 rfl (lv_at hl 1 rfl) ?_
                refine lv_iload_n hx hb dX3_isSame_158 rfl (lv_at hl 3 rfl) ?_
                refine krx_i (ws' := wX x A T B ++ wC E A (B 0) S ++ wC E T (B 0) U ++ wG E B G ++ wS E q P (mkS v_ni v_wa v_un v_ns v_np v_nw v_ng v_ma v_st v_ou v_ru v_so v_mt v_vo v_gi v_ca v_tr v_sw v_ss v_sg)) (vx_runV (As := [.int (nI i)]) (rest := []) ⟨hx, hb, hml, hown, hts⟩ (c_X2_voters l hflags E x A T B S U G (nI i)  _) (cwV 1 hts gX3_isSame_X2_voters rfl rfl rfl ⟨rfl, hd_X2_voters⟩ ⟨Nat.le_of_ble_eq_true rfl, Nat.le_of_ble_eq_true rfl⟩) (pwV (ci := 2) (q0 := 0) (C := RX2) hw hK rfl rfl rfl (rpX (AV := [.ref x, .int (nI i)]) hw hK hG hZ hA rp_76)) rfl rfl hl.1 rfl (lv_room (Nat.le_of_ble_eq_true rfl)) dX3_isSame_159 ⟨Nat.le_of_ble_eq_true rfl, Nat.le_of_ble_eq_true rfl⟩) hw hA rp_76 rp_76 (fun H locs ce9 q9 t_49 hw hy1 hy2 hy3 => absurd (h1 i hi9) t_49) (fun H locs t_49 hw => ?_)
                refine lv_iload hx hb dX3_isSame_162 (lv_at hl 5 rfl) ?_
                refine lv_icmp_ne (tgt := 187) hx hb dX3_isSame_164 (by decide) (fun q8 => absurd (e_vo i hi9) q8) (fun _ => ?_)
                refine lv_aload_n hx hb dX3_isSame_167 rfl (lv_at hl 1 rfl) ?_
                refine lv_iload_n hx hb dX3_isSame_168 rfl (lv_at hl 3 rfl) ?_
                refine krx_i (ws' := wX x A T B ++ wC E A (B 0) S ++ wC E T (B 0) U ++ wG E B G ++ wS E q P (mkS v_ni v_wa v_un v_ns v_np v_nw v_ng v_ma v_st v_ou v_ru v_so v_mt v_vo v_gi v_ca v_tr v_sw v_ss v_sg)) (vx_runV (As := [.int (nI i)]) (rest := []) ⟨hx, hb, hml, hown, hts⟩ (c_X2_votesForLost l hflags E x A T B S U G (nI i)  _) (cwV 1 hts gX3_isSame_X2_votesForLost rfl rfl rfl ⟨rfl, hd_X2_votesForLost⟩ ⟨Nat.le_of_ble_eq_true rfl, Nat.le_of_ble_eq_true rfl⟩) (pwV (ci := 2) (q0 := 0) (C := RX2) hw hK rfl rfl rfl (rpX (AV := [.ref x, .int (nI i)]) hw hK hG hZ hA rp_76)) rfl rfl hl.1 rfl (lv_room (Nat.le_of_ble_eq_true rfl)) dX3_isSame_169 ⟨Nat.le_of_ble_eq_true rfl, Nat.le_of_ble_eq_true rfl⟩) hw hA rp_76 rp_76 (fun H locs ce9 q9 t_50 hw hy1 hy2 hy3 => absurd (h1 i hi9) t_50) (fun H locs t_50 hw => ?_)
                refine lv_iload hx hb dX3_isSame_172 (lv_at hl 6 rfl) ?_
                refine lv_icmp_ne (tgt := 187) hx hb dX3_isSame_174 (by decide) (fun q8 => absurd (e_gi i hi9) q8) (fun _ => ?_)
                refine lv_aload_n hx hb dX3_isSame_177 rfl (lv_at hl 1 rfl) ?_
                refine lv_iload_n hx hb dX3_isSame_178 rfl (lv_at hl 3 rfl) ?_
                refine krx_i (ws' := wX x A T B ++ wC E A (B 0) S ++ wC E T (B 0) U ++ wG E B G ++ wS E q P (mkS v_ni v_wa v_un v_ns v_np v_nw v_ng v_ma v_st v_ou v_ru v_so v_mt v_vo v_gi v_ca v_tr v_sw v_ss v_sg)) (vx_runV (As := [.int (nI i)]) (rest := []) ⟨hx, hb, hml, hown, hts⟩ (c_X2_votesMissing l hflags E x A T B S U G (nI i)  _) (cwV 1 hts gX3_isSame_X2_votesMissing rfl rfl rfl ⟨rfl, hd_X2_votesMissing⟩ ⟨Nat.le_of_ble_eq_true rfl, Nat.le_of_ble_eq_true rfl⟩) (pwV (ci := 2) (q0 := 0) (C := RX2) hw hK rfl rfl rfl (rpX (AV := [.ref x, .int (nI i)]) hw hK hG hZ hA rp_76)) rfl rfl hl.1 rfl (lv_room (Nat.le_of_ble_eq_true rfl)) dX3_isSame_179 ⟨Nat.le_of_ble_eq_true rfl, Nat.le_of_ble_eq_true rfl⟩) hw hA rp_76 rp_76 (fun H locs ce9 q9 t_51 hw hy1 hy2 hy3 => absurd (h1 i hi9) t_51) (fun H locs t_51 hw => ?_)
                refine lv_iload hx hb dX3_isSame_182 (lv_at hl 7 rfl) ?_
                refine lv_icmp_eq (tgt := 189) hx hb dX3_isSame_184 (by decide) (fun _ => ?_) (fun q8 => absurd (e_mi i hi9) q8)
                refine lv_iinc (v := nI (i + 1)) (lv' := [(3, .int (nI (i + 1))), (0, .ref q), (1, .ref x), (2, .int 0), (4, .ref (P.2.1 i)), (5, .int (l_vot (v_so) (v_vo) (v_gi) i false (v_np))), (6, .int (l_vot (v_so) (v_vo) (v_gi) i true (v_np))), (7, .int (nI j))]) hx hb dX3_isSame_189 hl (k := 3) rfl (nI_add i 1) (by decide) rfl (fun ls hl => ?_)
                refine lv_goto (tgt := 4) hx hb dX3_isSame_192 (by decide) ?_
                exact ih_4 (i + 1) _ _ _ (by omega) hw (lv_sub hl [1, 2, 3, 0] rfl)
              · have c_47 : (v_ru i : Int32) = 1 := c_47
                refine lv_iconst (v := 1) hx hb dX3_isSame_136 (by decide) ?_
                refine lv_goto (tgt := 141) hx hb dX3_isSame_137 (by decide) ?_
                refine lv_icmp_ne (tgt := 187) hx hb dX3_isSame_141 (by decide) (fun q8 => absurd (by rw [e_ru i hi9]; first | exact if_pos c_47 | exact if_neg c_47) q8) (fun _ => ?_)
                refine lv_aload_n hx hb dX3_isSame_144 rfl (lv_at hl 1 rfl) ?_
                refine lv_iload_n hx hb dX3_isSame_145 rfl (lv_at hl 3 rfl) ?_
                refine krx_i (ws' := wX x A T B ++ wC E A (B 0) S ++ wC E T (B 0) U ++ wG E B G ++ wS E q P (mkS v_ni v_wa v_un v_ns v_np v_nw v_ng v_ma v_st v_ou v_ru v_so v_mt v_vo v_gi v_ca v_tr v_sw v_ss v_sg)) (vx_runV (As := [.int (nI i)]) (rest := []) ⟨hx, hb, hml, hown, hts⟩ (c_X2_trustIn l hflags E x A T B S U G (nI i)  _) (cwV 1 hts gX3_isSame_X2_trustIn rfl rfl rfl ⟨rfl, hd_X2_trustIn⟩ ⟨Nat.le_of_ble_eq_true rfl, Nat.le_of_ble_eq_true rfl⟩) (pwV (ci := 2) (q0 := 0) (C := RX2) hw hK rfl rfl rfl (rpX (AV := [.ref x, .int (nI i)]) hw hK hG hZ hA rp_76)) rfl rfl hl.1 rfl (lv_room (Nat.le_of_ble_eq_true rfl)) dX3_isSame_146 ⟨Nat.le_of_ble_eq_true rfl, Nat.le_of_ble_eq_true rfl⟩) hw hA rp_76 rp_76 (fun H locs ce9 q9 t_52 hw hy1 hy2 hy3 => absurd (h1 i hi9) t_52) (fun H locs t_52 hw => ?_)
                refine lv_aload_n hx hb dX3_isSame_149 rfl (lv_at hl 0 rfl) ?_
                refine lv_iload_n hx hb dX3_isSame_150 rfl (lv_at hl 3 rfl) ?_
                refine kr_i (ws' := wX x A T B ++ wC E A (B 0) S ++ wC E T (B 0) U ++ wG E B G ++ wS E q P (mkS v_ni v_wa v_un v_ns v_np v_nw v_ng v_ma v_st v_ou v_ru v_so v_mt v_vo v_gi v_ca v_tr v_sw v_ss v_sg)) (va_runV (As := [.int (nI i)]) (rest := [.int (f_trust S (nI i))]) ⟨hx, hb, hml, hown, hts⟩ (c_X3_trustIn l E q P v_ni v_wa v_un v_ns v_np v_nw v_ng v_ma v_st v_ou v_ru v_so v_mt v_vo v_gi v_ca v_tr v_sw v_ss v_sg i hns hnp hnw hng hso hsw _) (cwV 1 hts gX3_isSame_X3_trustIn rfl rfl rfl ⟨rfl, hd_X3_trustIn⟩ ⟨Nat.le_of_ble_eq_true rfl, Nat.le_of_ble_eq_true rfl⟩) (pwV (ci := 3) (q0 := 21) (C := RX3) hw hK rfl rfl rfl (rpS (AV := [.ref q, .int (nI i)]) hw hK hG rp_77)) rfl rfl hl.1 rfl (lv_room (Nat.le_of_ble_eq_true rfl)) dX3_isSame_151 ⟨Nat.le_of_ble_eq_true rfl, Nat.le_of_ble_eq_true rfl⟩) hw hA rp_77 (fun H locs hw => ?_)
                refine lv_icmp_ne (tgt := 187) hx hb dX3_isSame_154 (by decide) (fun q8 => absurd (e_ti i hi9) q8) (fun _ => ?_)
                refine lv_aload_n hx hb dX3_isSame_157 rfl (lv_at hl 1 rfl) ?_
                refine lv_iload_n hx hb dX3_isSame_158 rfl (lv_at hl 3 rfl) ?_
                refine krx_i (ws' := wX x A T B ++ wC E A (B 0) S ++ wC E T (B 0) U ++ wG E B G ++ wS E q P (mkS v_ni v_wa v_un v_ns v_np v_nw v_ng v_ma v_st v_ou v_ru v_so v_mt v_vo v_gi v_ca v_tr v_sw v_ss v_sg)) (vx_runV (As := [.int (nI i)]) (rest := []) ⟨hx, hb, hml, hown, hts⟩ (c_X2_voters l hflags E x A T B S U G (nI i)  _) (cwV 1 hts gX3_isSame_X2_voters rfl rfl rfl ⟨rfl, hd_X2_voters⟩ ⟨Nat.le_of_ble_eq_true rfl, Nat.le_of_ble_eq_true rfl⟩) (pwV (ci := 2) (q0 := 0) (C := RX2) hw hK rfl rfl rfl (rpX (AV := [.ref x, .int (nI i)]) hw hK hG hZ hA rp_76)) rfl rfl hl.1 rfl (lv_room (Nat.le_of_ble_eq_true rfl)) dX3_isSame_159 ⟨Nat.le_of_ble_eq_true rfl, Nat.le_of_ble_eq_true rfl⟩) hw hA rp_76 rp_76 (fun H locs ce9 q9 t_53 hw hy1 hy2 hy3 => absurd (h1 i hi9) t_53) (fun H locs t_53 hw => ?_)
                refine lv_iload hx hb dX3_isSame_162 (lv_at hl 5 rfl) ?_
                refine lv_icmp_ne (tgt := 187) hx hb dX3_isSame_164 (by decide) (fun q8 => absurd (e_vo i hi9) q8) (fun _ => ?_)
                refine lv_aload_n hx hb dX3_isSame_167 rfl (lv_at hl 1 rfl) ?_
                refine lv_iload_n hx hb dX3_isSame_168 rfl (lv_at hl 3 rfl) ?_
                refine krx_i (ws' := wX x A T B ++ wC E A (B 0) S ++ wC E T (B 0) U ++ wG E B G ++ wS E q P (mkS v_ni v_wa v_un v_ns v_np v_nw v_ng v_ma v_st v_ou v_ru v_so v_mt v_vo v_gi v_ca v_tr v_sw v_ss v_sg)) (vx_runV (As := [.int (nI i)]) (rest := []) ⟨hx, hb, hml, hown, hts⟩ (c_X2_votesForLost l hflags E x A T B S U G (nI i)  _) (cwV 1 hts gX3_isSame_X2_votesForLost rfl rfl rfl ⟨rfl, hd_X2_votesForLost⟩ ⟨Nat.le_of_ble_eq_true rfl, Nat.le_of_ble_eq_true rfl⟩) (pwV (ci := 2) (q0 := 0) (C := RX2) hw hK rfl rfl rfl (rpX (AV := [.ref x, .int (nI i)]) hw hK hG hZ hA rp_76)) rfl rfl hl.1 rfl (lv_room (Nat.le_of_ble_eq_true rfl)) dX3_isSame_169 ⟨Nat.le_of_ble_eq_true rfl, Nat.le_of_ble_eq_true rfl⟩) hw hA rp_76 rp_76 (fun H locs ce9 q9 t_54 hw hy1 hy2 hy3 => absurd (h1 i hi9) t_54) (fun H locs t_54 hw => ?_)
                refine lv_iload hx hb dX3_isSame_172 (lv_at hl 6 rfl) ?_
                refine lv_icmp_ne (tgt := 187) hx hb dX3_isSame_174 (by decide) (fun q8 => absurd (e_gi i hi9) q8) (fun _ => ?_)
                refine lv_aload_n hx hb dX3_isSame_177 rfl (lv_at hl 1 rfl) ?_
                refine lv_iload_n hx hb dX3_isSame_178 rfl (lv_at hl 3 rfl) ?_
                refine krx_i (ws' := wX x A T B ++ wC E A (B 0) S ++ wC E T (B 0) U ++ wG E B G ++ wS E q P (mkS v_ni v_wa v_un v_ns v_np v_nw v_ng v_ma v_st v_ou v_ru v_so v_mt v_vo v_gi v_ca v_tr v_sw v_ss v_sg)) (vx_runV (As := [.int (nI i)]) (rest := []) ⟨hx, hb, hml, hown, hts⟩ (c_X2_votesMissing l hflags E x A T B S U G (nI i)  _) (cwV 1 hts gX3_isSame_X2_votesMissing rfl rfl rfl ⟨rfl, hd_X2_votesMissing⟩ ⟨Nat.le_of_ble_eq_true rfl, Nat.le_of_ble_eq_true rfl⟩) (pwV (ci := 2) (q0 := 0) (C := RX2) hw hK rfl rfl rfl (rpX (AV := [.ref x, .int (nI i)]) hw hK hG hZ hA rp_76)) rfl rfl hl.1 rfl (lv_room (Nat.le_of_ble_eq_true rfl)) dX3_isSame_179 ⟨Nat.le_of_ble_eq_true rfl, Nat.le_of_ble_eq_true rfl⟩) hw hA rp_76 rp_76 (fun H locs ce9 q9 t_55 hw hy1 hy2 hy3 => absurd (h1 i hi9) t_55) (fun H locs t_55 hw => ?_)
                refine lv_iload hx hb dX3_isSame_182 (lv_at hl 7 rfl) ?_
                refine lv_icmp_eq (tgt := 189) hx hb dX3_isSame_184 (by decide) (fun _ => ?_) (fun q8 => absurd (e_mi i hi9) q8)
                refine lv_iinc (v := nI (i + 1)) (lv' := [(3, .int (nI (i + 1))), (0, .ref q), (1, .ref x), (2, .int 0), (4, .ref (P.2.1 i)), (5, .int (l_vot (v_so) (v_vo) (v_gi) i false (v_np))), (6, .int (l_vot (v_so) (v_vo) (v_gi) i true (v_np))), (7, .int (nI j))]) hx hb dX3_isSame_189 hl (k := 3) rfl (nI_add i 1) (by decide) rfl (fun ls hl => ?_)
                refine lv_goto (tgt := 4) hx hb dX3_isSame_192 (by decide) ?_
                exact ih_4 (i + 1) _ _ _ (by omega) hw (lv_sub hl [1, 2, 3, 0] rfl)
            · have c_44 : (v_st i : Int32) = 2 := c_44
              refine lv_iconst (v := 1) hx hb dX3_isSame_103 (by decide) ?_
              refine lv_goto (tgt := 108) hx hb dX3_isSame_104 (by decide) ?_
              refine lv_icmp_ne (tgt := 187) hx hb dX3_isSame_108 (by decide) (fun q8 => absurd (by rw [e_lo i hi9]; first | exact if_pos c_44 | exact if_neg c_44) q8) (fun _ => ?_)
              refine lv_aload_n hx hb dX3_isSame_111 rfl (lv_at hl 1 rfl) ?_
              refine lv_iload_n hx hb dX3_isSame_112 rfl (lv_at hl 3 rfl) ?_
              refine krx_i (ws' := wX x A T B ++ wC E A (B 0) S ++ wC E T (B 0) U ++ wG E B G ++ wS E q P (mkS v_ni v_wa v_un v_ns v_np v_nw v_ng v_ma v_st v_ou v_ru v_so v_mt v_vo v_gi v_ca v_tr v_sw v_ss v_sg)) (vx_runV (As := [.int (nI i)]) (rest := []) ⟨hx, hb, hml, hown, hts⟩ (c_X2_nightsOut l hflags E x A T B S U G (nI i)  _) (cwV 1 hts gX3_isSame_X2_nightsOut rfl rfl rfl ⟨rfl, hd_X2_nightsOut⟩ ⟨Nat.le_of_ble_eq_true rfl, Nat.le_of_ble_eq_true rfl⟩) (pwV (ci := 2) (q0 := 0) (C := RX2) hw hK rfl rfl rfl (rpX (AV := [.ref x, .int (nI i)]) hw hK hG hZ hA rp_76)) rfl rfl hl.1 rfl (lv_room (Nat.le_of_ble_eq_true rfl)) dX3_isSame_113 ⟨Nat.le_of_ble_eq_true rfl, Nat.le_of_ble_eq_true rfl⟩) hw hA rp_76 rp_76 (fun H locs ce9 q9 t_56 hw hy1 hy2 hy3 => absurd (h1 i hi9) t_56) (fun H locs t_56 hw => ?_)
              refine lv_aload hx hb dX3_isSame_116 (lv_at hl 4 rfl) ?_
              refine lv_iconst (v := 2) hx hb dX3_isSame_118 (by decide) ?_
              refine k_ildP (i := 2) (v := v_ou i) hx hb hK hw (Pk.l (Pk_4 (i := i) (show i < v_ns from by omega))) (by decide) (by decide) rfl dX3_isSame_119 ?_
              refine lv_icmp_ne (tgt := 187) hx hb dX3_isSame_120 (by decide) (fun q8 => absurd (e_ou i hi9) q8) (fun _ => ?_)
              refine lv_aload_n hx hb dX3_isSame_123 rfl (lv_at hl 1 rfl) ?_
              refine lv_iload_n hx hb dX3_isSame_124 rfl (lv_at hl 3 rfl) ?_
              refine krx_i (ws' := wX x A T B ++ wC E A (B 0) S ++ wC E T (B 0) U ++ wG E B G ++ wS E q P (mkS v_ni v_wa v_un v_ns v_np v_nw v_ng v_ma v_st v_ou v_ru v_so v_mt v_vo v_gi v_ca v_tr v_sw v_ss v_sg)) (vx_runV (As := [.int (nI i)]) (rest := []) ⟨hx, hb, hml, hown, hts⟩ (c_X2_isRung l hflags E x A T B S U G (nI i)  _) (cwV 1 hts gX3_isSame_X2_isRung rfl rfl rfl ⟨rfl, hd_X2_isRung⟩ ⟨Nat.le_of_ble_eq_true rfl, Nat.le_of_ble_eq_true rfl⟩) (pwV (ci := 2) (q0 := 0) (C := RX2) hw hK rfl rfl rfl (rpX (AV := [.ref x, .int (nI i)]) hw hK hG hZ hA rp_76)) rfl rfl hl.1 rfl (lv_room (Nat.le_of_ble_eq_true rfl)) dX3_isSame_125 ⟨Nat.le_of_ble_eq_true rfl, Nat.le_of_ble_eq_true rfl⟩) hw hA rp_76 rp_76 (fun H locs ce9 q9 t_57 hw hy1 hy2 hy3 => absurd (h1 i hi9) t_57) (fun H locs t_57 hw => ?_)
              refine lv_aload hx hb dX3_isSame_128 (lv_at hl 4 rfl) ?_
              refine lv_iconst (v := 3) hx hb dX3_isSame_130 (by decide) ?_
              refine k_ildP (i := 3) (v := v_ru i) hx hb hK hw (Pk.l (Pk_4 (i := i) (show i < v_ns from by omega))) (by decide) (by decide) rfl dX3_isSame_131 ?_
              refine lv_iconst (v := 1) hx hb dX3_isSame_132 (by decide) ?_
              refine lv_icmp_ne (tgt := 140) hx hb dX3_isSame_133 (by decide) (fun c_58 => ?_) (fun c_58 => ?_)
              · have c_58 : ¬ (v_ru i : Int32) = 1 := c_58
                refine lv_iconst (v := 0) hx hb dX3_isSame_140 (by decide) ?_
                refine lv_icmp_ne (tgt := 187) hx hb dX3_isSame_141 (by decide) (fun q8 => absurd (by rw [e_ru i hi9]; first | exact if_pos c_58 | exact if_neg c_58) q8) (fun _ => ?_)
                refine lv_aload_n hx hb dX3_isSame_144 rfl (lv_at hl 1 rfl) ?_
                refine lv_iload_n hx hb dX3_isSame_145 rfl (lv_at hl 3 rfl) ?_
                refine krx_i (ws' := wX x A T B ++ wC E A (B 0) S ++ wC E T (B 0) U ++ wG E B G ++ wS E q P (mkS v_ni v_wa v_un v_ns v_np v_nw v_ng v_ma v_st v_ou v_ru v_so v_mt v_vo v_gi v_ca v_tr v_sw v_ss v_sg)) (vx_runV (As := [.int (nI i)]) (rest := []) ⟨hx, hb, hml, hown, hts⟩ (c_X2_trustIn l hflags E x A T B S U G (nI i)  _) (cwV 1 hts gX3_isSame_X2_trustIn rfl rfl rfl ⟨rfl, hd_X2_trustIn⟩ ⟨Nat.le_of_ble_eq_true rfl, Nat.le_of_ble_eq_true rfl⟩) (pwV (ci := 2) (q0 := 0) (C := RX2) hw hK rfl rfl rfl (rpX (AV := [.ref x, .int (nI i)]) hw hK hG hZ hA rp_76)) rfl rfl hl.1 rfl (lv_room (Nat.le_of_ble_eq_true rfl)) dX3_isSame_146 ⟨Nat.le_of_ble_eq_true rfl, Nat.le_of_ble_eq_true rfl⟩) hw hA rp_76 rp_76 (fun H locs ce9 q9 t_59 hw hy1 hy2 hy3 => absurd (h1 i hi9) t_59) (fun H locs t_59 hw => ?_)
                refine lv_aload_n hx hb dX3_isSame_149 rfl (lv_at hl 0 rfl) ?_
                refine lv_iload_n hx hb dX3_isSame_150 rfl (lv_at hl 3 rfl) ?_
                refine kr_i (ws' := wX x A T B ++ wC E A (B 0) S ++ wC E T (B 0) U ++ wG E B G ++ wS E q P (mkS v_ni v_wa v_un v_ns v_np v_nw v_ng v_ma v_st v_ou v_ru v_so v_mt v_vo v_gi v_ca v_tr v_sw v_ss v_sg)) (va_runV (As := [.int (nI i)]) (rest := [.int (f_trust S (nI i))]) ⟨hx, hb, hml, hown, hts⟩ (c_X3_trustIn l E q P v_ni v_wa v_un v_ns v_np v_nw v_ng v_ma v_st v_ou v_ru v_so v_mt v_vo v_gi v_ca v_tr v_sw v_ss v_sg i hns hnp hnw hng hso hsw _) (cwV 1 hts gX3_isSame_X3_trustIn rfl rfl rfl ⟨rfl, hd_X3_trustIn⟩ ⟨Nat.le_of_ble_eq_true rfl, Nat.le_of_ble_eq_true rfl⟩) (pwV (ci := 3) (q0 := 21) (C := RX3) hw hK rfl rfl rfl (rpS (AV := [.ref q, .int (nI i)]) hw hK hG rp_77)) rfl rfl hl.1 rfl (lv_room (Nat.le_of_ble_eq_true rfl)) dX3_isSame_151 ⟨Nat.le_of_ble_eq_true rfl, Nat.le_of_ble_eq_true rfl⟩) hw hA rp_77 (fun H locs hw => ?_)
                refine lv_icmp_ne (tgt := 187) hx hb dX3_isSame_154 (by decide) (fun q8 => absurd (e_ti i hi9) q8) (fun _ => ?_)
                refine lv_aload_n hx hb dX3_isSame_157 rfl (lv_at hl 1 rfl) ?_
                refine lv_iload_n hx hb dX3_isSame_158 rfl (lv_at hl 3 rfl) ?_
                refine krx_i (ws' := wX x A T B ++ wC E A (B 0) S ++ wC E T (B 0) U ++ wG E B G ++ wS E q P (mkS v_ni v_wa v_un v_ns v_np v_nw v_ng v_ma v_st v_ou v_ru v_so v_mt v_vo v_gi v_ca v_tr v_sw v_ss v_sg)) (vx_runV (As := [.int (nI i)]) (rest := []) ⟨hx, hb, hml, hown, hts⟩ (c_X2_voters l hflags E x A T B S U G (nI i)  _) (cwV 1 hts gX3_isSame_X2_voters rfl rfl rfl ⟨rfl, hd_X2_voters⟩ ⟨Nat.le_of_ble_eq_true rfl, Nat.le_of_ble_eq_true rfl⟩) (pwV (ci := 2) (q0 := 0) (C := RX2) hw hK rfl rfl rfl (rpX (AV := [.ref x, .int (nI i)]) hw hK hG hZ hA rp_76)) rfl rfl hl.1 rfl (lv_room (Nat.le_of_ble_eq_true rfl)) dX3_isSame_159 ⟨Nat.le_of_ble_eq_true rfl, Nat.le_of_ble_eq_true rfl⟩) hw hA rp_76 rp_76 (fun H locs ce9 q9 t_60 hw hy1 hy2 hy3 => absurd (h1 i hi9) t_60) (fun H locs t_60 hw => ?_)
                refine lv_iload hx hb dX3_isSame_162 (lv_at hl 5 rfl) ?_
                refine lv_icmp_ne (tgt := 187) hx hb dX3_isSame_164 (by decide) (fun q8 => absurd (e_vo i hi9) q8) (fun _ => ?_)
                refine lv_aload_n hx hb dX3_isSame_167 rfl (lv_at hl 1 rfl) ?_
                refine lv_iload_n hx hb dX3_isSame_168 rfl (lv_at hl 3 rfl) ?_
                refine krx_i (ws' := wX x A T B ++ wC E A (B 0) S ++ wC E T (B 0) U ++ wG E B G ++ wS E q P (mkS v_ni v_wa v_un v_ns v_np v_nw v_ng v_ma v_st v_ou v_ru v_so v_mt v_vo v_gi v_ca v_tr v_sw v_ss v_sg)) (vx_runV (As := [.int (nI i)]) (rest := []) ⟨hx, hb, hml, hown, hts⟩ (c_X2_votesForLost l hflags E x A T B S U G (nI i)  _) (cwV 1 hts gX3_isSame_X2_votesForLost rfl rfl rfl ⟨rfl, hd_X2_votesForLost⟩ ⟨Nat.le_of_ble_eq_true rfl, Nat.le_of_ble_eq_true rfl⟩) (pwV (ci := 2) (q0 := 0) (C := RX2) hw hK rfl rfl rfl (rpX (AV := [.ref x, .int (nI i)]) hw hK hG hZ hA rp_76)) rfl rfl hl.1 rfl (lv_room (Nat.le_of_ble_eq_true rfl)) dX3_isSame_169 ⟨Nat.le_of_ble_eq_true rfl, Nat.le_of_ble_eq_true rfl⟩) hw hA rp_76 rp_76 (fun H locs ce9 q9 t_61 hw hy1 hy2 hy3 => absurd (h1 i hi9) t_61) (fun H locs t_61 hw => ?_)
                refine lv_iload hx hb dX3_isSame_172 (lv_at hl 6 rfl) ?_
                refine lv_icmp_ne (tgt := 187) hx hb dX3_isSame_174 (by decide) (fun q8 => absurd (e_gi i hi9) q8) (fun _ => ?_)
                refine lv_aload_n hx hb dX3_isSame_177 rfl (lv_at hl 1 rfl) ?_
                refine lv_iload_n hx hb dX3_isSame_178 rfl (lv_at hl 3 rfl) ?_
                refine krx_i (ws' := wX x A T B ++ wC E A (B 0) S ++ wC E T (B 0) U ++ wG E B G ++ wS E q P (mkS v_ni v_wa v_un v_ns v_np v_nw v_ng v_ma v_st v_ou v_ru v_so v_mt v_vo v_gi v_ca v_tr v_sw v_ss v_sg)) (vx_runV (As := [.int (nI i)]) (rest := []) ⟨hx, hb, hml, hown, hts⟩ (c_X2_votesMissing l hflags E x A T B S U G (nI i)  _) (cwV 1 hts gX3_isSame_X2_votesMissing rfl rfl rfl ⟨rfl, hd_X2_votesMissing⟩ ⟨Nat.le_of_ble_eq_true rfl, Nat.le_of_ble_eq_true rfl⟩) (pwV (ci := 2) (q0 := 0) (C := RX2) hw hK rfl rfl rfl (rpX (AV := [.ref x, .int (nI i)]) hw hK hG hZ hA rp_76)) rfl rfl hl.1 rfl (lv_room (Nat.le_of_ble_eq_true rfl)) dX3_isSame_179 ⟨Nat.le_of_ble_eq_true rfl, Nat.le_of_ble_eq_true rfl⟩) hw hA rp_76 rp_76 (fun H locs ce9 q9 t_62 hw hy1 hy2 hy3 => absurd (h1 i hi9) t_62) (fun H locs t_62 hw => ?_)
                refine lv_iload hx hb dX3_isSame_182 (lv_at hl 7 rfl) ?_
                refine lv_icmp_eq (tgt := 189) hx hb dX3_isSame_184 (by decide) (fun _ => ?_) (fun q8 => absurd (e_mi i hi9) q8)
                refine lv_iinc (v := nI (i + 1)) (lv' := [(3, .int (nI (i + 1))), (0, .ref q), (1, .ref x), (2, .int 0), (4, .ref (P.2.1 i)), (5, .int (l_vot (v_so) (v_vo) (v_gi) i false (v_np))), (6, .int (l_vot (v_so) (v_vo) (v_gi) i true (v_np))), (7, .int (nI j))]) hx hb dX3_isSame_189 hl (k := 3) rfl (nI_add i 1) (by decide) rfl (fun ls hl => ?_)
                refine lv_goto (tgt := 4) hx hb dX3_isSame_192 (by decide) ?_
                exact ih_4 (i + 1) _ _ _ (by omega) hw (lv_sub hl [1, 2, 3, 0] rfl)
              · have c_58 : (v_ru i : Int32) = 1 := c_58
                refine lv_iconst (v := 1) hx hb dX3_isSame_136 (by decide) ?_
                refine lv_goto (tgt := 141) hx hb dX3_isSame_137 (by decide) ?_
                refine lv_icmp_ne (tgt := 187) hx hb dX3_isSame_141 (by decide) (fun q8 => absurd (by rw [e_ru i hi9]; first | exact if_pos c_58 | exact if_neg c_58) q8) (fun _ => ?_)
                refine lv_aload_n hx hb dX3_isSame_144 rfl (lv_at hl 1 rfl) ?_
                refine lv_iload_n hx hb dX3_isSame_145 rfl (lv_at hl 3 rfl) ?_
                refine krx_i (ws' := wX x A T B ++ wC E A (B 0) S ++ wC E T (B 0) U ++ wG E B G ++ wS E q P (mkS v_ni v_wa v_un v_ns v_np v_nw v_ng v_ma v_st v_ou v_ru v_so v_mt v_vo v_gi v_ca v_tr v_sw v_ss v_sg)) (vx_runV (As := [.int (nI i)]) (rest := []) ⟨hx, hb, hml, hown, hts⟩ (c_X2_trustIn l hflags E x A T B S U G (nI i)  _) (cwV 1 hts gX3_isSame_X2_trustIn rfl rfl rfl ⟨rfl, hd_X2_trustIn⟩ ⟨Nat.le_of_ble_eq_true rfl, Nat.le_of_ble_eq_true rfl⟩) (pwV (ci := 2) (q0 := 0) (C := RX2) hw hK rfl rfl rfl (rpX (AV := [.ref x, .int (nI i)]) hw hK hG hZ hA rp_76)) rfl rfl hl.1 rfl (lv_room (Nat.le_of_ble_eq_true rfl)) dX3_isSame_146 ⟨Nat.le_of_ble_eq_true rfl, Nat.le_of_ble_eq_true rfl⟩) hw hA rp_76 rp_76 (fun H locs ce9 q9 t_63 hw hy1 hy2 hy3 => absurd (h1 i hi9) t_63) (fun H locs t_63 hw => ?_)
                refine lv_aload_n hx hb dX3_isSame_149 rfl (lv_at hl 0 rfl) ?_
                refine lv_iload_n hx hb dX3_isSame_150 rfl (lv_at hl 3 rfl) ?_
                refine kr_i (ws' := wX x A T B ++ wC E A (B 0) S ++ wC E T (B 0) U ++ wG E B G ++ wS E q P (mkS v_ni v_wa v_un v_ns v_np v_nw v_ng v_ma v_st v_ou v_ru v_so v_mt v_vo v_gi v_ca v_tr v_sw v_ss v_sg)) (va_runV (As := [.int (nI i)]) (rest := [.int (f_trust S (nI i))]) ⟨hx, hb, hml, hown, hts⟩ (c_X3_trustIn l E q P v_ni v_wa v_un v_ns v_np v_nw v_ng v_ma v_st v_ou v_ru v_so v_mt v_vo v_gi v_ca v_tr v_sw v_ss v_sg i hns hnp hnw hng hso hsw _) (cwV 1 hts gX3_isSame_X3_trustIn rfl rfl rfl ⟨rfl, hd_X3_trustIn⟩ ⟨Nat.le_of_ble_eq_true rfl, Nat.le_of_ble_eq_true rfl⟩) (pwV (ci := 3) (q0 := 21) (C := RX3) hw hK rfl rfl rfl (rpS (AV := [.ref q, .int (nI i)]) hw hK hG rp_77)) rfl rfl hl.1 rfl (lv_room (Nat.le_of_ble_eq_true rfl)) dX3_isSame_151 ⟨Nat.le_of_ble_eq_true rfl, Nat.le_of_ble_eq_true rfl⟩) hw hA rp_77 (fun H locs hw => ?_)
                refine lv_icmp_ne (tgt := 187) hx hb dX3_isSame_154 (by decide) (fun q8 => absurd (e_ti i hi9) q8) (fun _ => ?_)
                refine lv_aload_n hx hb dX3_isSame_157 rfl (lv_at hl 1 rfl) ?_
                refine lv_iload_n hx hb dX3_isSame_158 rfl (lv_at hl 3 rfl) ?_
                refine krx_i (ws' := wX x A T B ++ wC E A (B 0) S ++ wC E T (B 0) U ++ wG E B G ++ wS E q P (mkS v_ni v_wa v_un v_ns v_np v_nw v_ng v_ma v_st v_ou v_ru v_so v_mt v_vo v_gi v_ca v_tr v_sw v_ss v_sg)) (vx_runV (As := [.int (nI i)]) (rest := []) ⟨hx, hb, hml, hown, hts⟩ (c_X2_voters l hflags E x A T B S U G (nI i)  _) (cwV 1 hts gX3_isSame_X2_voters rfl rfl rfl ⟨rfl, hd_X2_voters⟩ ⟨Nat.le_of_ble_eq_true rfl, Nat.le_of_ble_eq_true rfl⟩) (pwV (ci := 2) (q0 := 0) (C := RX2) hw hK rfl rfl rfl (rpX (AV := [.ref x, .int (nI i)]) hw hK hG hZ hA rp_76)) rfl rfl hl.1 rfl (lv_room (Nat.le_of_ble_eq_true rfl)) dX3_isSame_159 ⟨Nat.le_of_ble_eq_true rfl, Nat.le_of_ble_eq_true rfl⟩) hw hA rp_76 rp_76 (fun H locs ce9 q9 t_64 hw hy1 hy2 hy3 => absurd (h1 i hi9) t_64) (fun H locs t_64 hw => ?_)
                refine lv_iload hx hb dX3_isSame_162 (lv_at hl 5 rfl) ?_
                refine lv_icmp_ne (tgt := 187) hx hb dX3_isSame_164 (by decide) (fun q8 => absurd (e_vo i hi9) q8) (fun _ => ?_)
                refine lv_aload_n hx hb dX3_isSame_167 rfl (lv_at hl 1 rfl) ?_
                refine lv_iload_n hx hb dX3_isSame_168 rfl (lv_at hl 3 rfl) ?_
                refine krx_i (ws' := wX x A T B ++ wC E A (B 0) S ++ wC E T (B 0) U ++ wG E B G ++ wS E q P (mkS v_ni v_wa v_un v_ns v_np v_nw v_ng v_ma v_st v_ou v_ru v_so v_mt v_vo v_gi v_ca v_tr v_sw v_ss v_sg)) (vx_runV (As := [.int (nI i)]) (rest := []) ⟨hx, hb, hml, hown, hts⟩ (c_X2_votesForLost l hflags E x A T B S U G (nI i)  _) (cwV 1 hts gX3_isSame_X2_votesForLost rfl rfl rfl ⟨rfl, hd_X2_votesForLost⟩ ⟨Nat.le_of_ble_eq_true rfl, Nat.le_of_ble_eq_true rfl⟩) (pwV (ci := 2) (q0 := 0) (C := RX2) hw hK rfl rfl rfl (rpX (AV := [.ref x, .int (nI i)]) hw hK hG hZ hA rp_76)) rfl rfl hl.1 rfl (lv_room (Nat.le_of_ble_eq_true rfl)) dX3_isSame_169 ⟨Nat.le_of_ble_eq_true rfl, Nat.le_of_ble_eq_true rfl⟩) hw hA rp_76 rp_76 (fun H locs ce9 q9 t_65 hw hy1 hy2 hy3 => absurd (h1 i hi9) t_65) (fun H locs t_65 hw => ?_)
                refine lv_iload hx hb dX3_isSame_172 (lv_at hl 6 rfl) ?_
                refine lv_icmp_ne (tgt := 187) hx hb dX3_isSame_174 (by decide) (fun q8 => absurd (e_gi i hi9) q8) (fun _ => ?_)
                refine lv_aload_n hx hb dX3_isSame_177 rfl (lv_at hl 1 rfl) ?_
                refine lv_iload_n hx hb dX3_isSame_178 rfl (lv_at hl 3 rfl) ?_
                refine krx_i (ws' := wX x A T B ++ wC E A (B 0) S ++ wC E T (B 0) U ++ wG E B G ++ wS E q P (mkS v_ni v_wa v_un v_ns v_np v_nw v_ng v_ma v_st v_ou v_ru v_so v_mt v_vo v_gi v_ca v_tr v_sw v_ss v_sg)) (vx_runV (As := [.int (nI i)]) (rest := []) ⟨hx, hb, hml, hown, hts⟩ (c_X2_votesMissing l hflags E x A T B S U G (nI i)  _) (cwV 1 hts gX3_isSame_X2_votesMissing rfl rfl rfl ⟨rfl, hd_X2_votesMissing⟩ ⟨Nat.le_of_ble_eq_true rfl, Nat.le_of_ble_eq_true rfl⟩) (pwV (ci := 2) (q0 := 0) (C := RX2) hw hK rfl rfl rfl (rpX (AV := [.ref x, .int (nI i)]) hw hK hG hZ hA rp_76)) rfl rfl hl.1 rfl (lv_room (Nat.le_of_ble_eq_true rfl)) dX3_isSame_179 ⟨Nat.le_of_ble_eq_true rfl, Nat.le_of_ble_eq_true rfl⟩) hw hA rp_76 rp_76 (fun H locs ce9 q9 t_66 hw hy1 hy2 hy3 => absurd (h1 i hi9) t_66) (fun H locs t_66 hw => ?_)
                refine lv_iload hx hb dX3_isSame_182 (lv_at hl 7 rfl) ?_
                refine lv_icmp_eq (tgt := 189) hx hb dX3_isSame_184 (by decide) (fun _ => ?_) (fun q8 => absurd (e_mi i hi9) q8)
                refine lv_iinc (v := nI (i + 1)) (lv' := [(3, .int (nI (i + 1))), (0, .ref q), (1, .ref x), (2, .int 0), (4, .ref (P.2.1 i)), (5, .int (l_vot (v_so) (v_vo) (v_gi) i false (v_np))), (6, .int (l_vot (v_so) (v_vo) (v_gi) i true (v_np))), (7, .int (nI j))]) hx hb dX3_isSame_189 hl (k := 3) rfl (nI_add i 1) (by decide) rfl (fun ls hl => ?_)
                refine lv_goto (tgt := 4) hx hb dX3_isSame_192 (by decide) ?_
                exact ih_4 (i + 1) _ _ _ (by omega) hw (lv_sub hl [1, 2, 3, 0] rfl)
          · have c_42 : ¬ (v_st i : Int32) ≤ 0 := c_42
            refine lv_iconst (v := 1) hx hb dX3_isSame_82 (by decide) ?_
            refine lv_goto (tgt := 87) hx hb dX3_isSame_83 (by decide) ?_
            refine lv_icmp_ne (tgt := 187) hx hb dX3_isSame_87 (by decide) (fun q8 => absurd (by rw [e_aw i hi9]; first | exact if_pos c_42 | exact if_neg c_42) q8) (fun _ => ?_)
            refine lv_aload_n hx hb dX3_isSame_90 rfl (lv_at hl 1 rfl) ?_
            refine lv_iload_n hx hb dX3_isSame_91 rfl (lv_at hl 3 rfl) ?_
            refine krx_i (ws' := wX x A T B ++ wC E A (B 0) S ++ wC E T (B 0) U ++ wG E B G ++ wS E q P (mkS v_ni v_wa v_un v_ns v_np v_nw v_ng v_ma v_st v_ou v_ru v_so v_mt v_vo v_gi v_ca v_tr v_sw v_ss v_sg)) (vx_runV (As := [.int (nI i)]) (rest := []) ⟨hx, hb, hml, hown, hts⟩ (c_X2_isLost l hflags E x A T B S U G (nI i)  _) (cwV 1 hts gX3_isSame_X2_isLost rfl rfl rfl ⟨rfl, hd_X2_isLost⟩ ⟨Nat.le_of_ble_eq_true rfl, Nat.le_of_ble_eq_true rfl⟩) (pwV (ci := 2) (q0 := 0) (C := RX2) hw hK rfl rfl rfl (rpX (AV := [.ref x, .int (nI i)]) hw hK hG hZ hA rp_76)) rfl rfl hl.1 rfl (lv_room (Nat.le_of_ble_eq_true rfl)) dX3_isSame_92 ⟨Nat.le_of_ble_eq_true rfl, Nat.le_of_ble_eq_true rfl⟩) hw hA rp_76 rp_76 (fun H locs ce9 q9 t_67 hw hy1 hy2 hy3 => absurd (h1 i hi9) t_67) (fun H locs t_67 hw => ?_)
            refine lv_aload hx hb dX3_isSame_95 (lv_at hl 4 rfl) ?_
            refine lv_iconst (v := 1) hx hb dX3_isSame_97 (by decide) ?_
            refine k_ildP (i := 1) (v := v_st i) hx hb hK hw (Pk.l (Pk_4 (i := i) (show i < v_ns from by omega))) (by decide) (by decide) rfl dX3_isSame_98 ?_
            refine lv_iconst (v := 2) hx hb dX3_isSame_99 (by decide) ?_
            refine lv_icmp_ne (tgt := 107) hx hb dX3_isSame_100 (by decide) (fun c_68 => ?_) (fun c_68 => ?_)
            · have c_68 : ¬ (v_st i : Int32) = 2 := c_68
              refine lv_iconst (v := 0) hx hb dX3_isSame_107 (by decide) ?_
              refine lv_icmp_ne (tgt := 187) hx hb dX3_isSame_108 (by decide) (fun q8 => absurd (by rw [e_lo i hi9]; first | exact if_pos c_68 | exact if_neg c_68) q8) (fun _ => ?_)
              refine lv_aload_n hx hb dX3_isSame_111 rfl (lv_at hl 1 rfl) ?_
              refine lv_iload_n hx hb dX3_isSame_112 rfl (lv_at hl 3 rfl) ?_
              refine krx_i (ws' := wX x A T B ++ wC E A (B 0) S ++ wC E T (B 0) U ++ wG E B G ++ wS E q P (mkS v_ni v_wa v_un v_ns v_np v_nw v_ng v_ma v_st v_ou v_ru v_so v_mt v_vo v_gi v_ca v_tr v_sw v_ss v_sg)) (vx_runV (As := [.int (nI i)]) (rest := []) ⟨hx, hb, hml, hown, hts⟩ (c_X2_nightsOut l hflags E x A T B S U G (nI i)  _) (cwV 1 hts gX3_isSame_X2_nightsOut rfl rfl rfl ⟨rfl, hd_X2_nightsOut⟩ ⟨Nat.le_of_ble_eq_true rfl, Nat.le_of_ble_eq_true rfl⟩) (pwV (ci := 2) (q0 := 0) (C := RX2) hw hK rfl rfl rfl (rpX (AV := [.ref x, .int (nI i)]) hw hK hG hZ hA rp_76)) rfl rfl hl.1 rfl (lv_room (Nat.le_of_ble_eq_true rfl)) dX3_isSame_113 ⟨Nat.le_of_ble_eq_true rfl, Nat.le_of_ble_eq_true rfl⟩) hw hA rp_76 rp_76 (fun H locs ce9 q9 t_69 hw hy1 hy2 hy3 => absurd (h1 i hi9) t_69) (fun H locs t_69 hw => ?_)
              refine lv_aload hx hb dX3_isSame_116 (lv_at hl 4 rfl) ?_
              refine lv_iconst (v := 2) hx hb dX3_isSame_118 (by decide) ?_
              refine k_ildP (i := 2) (v := v_ou i) hx hb hK hw (Pk.l (Pk_4 (i := i) (show i < v_ns from by omega))) (by decide) (by decide) rfl dX3_isSame_119 ?_
              refine lv_icmp_ne (tgt := 187) hx hb dX3_isSame_120 (by decide) (fun q8 => absurd (e_ou i hi9) q8) (fun _ => ?_)
              refine lv_aload_n hx hb dX3_isSame_123 rfl (lv_at hl 1 rfl) ?_
              refine lv_iload_n hx hb dX3_isSame_124 rfl (lv_at hl 3 rfl) ?_
              refine krx_i (ws' := wX x A T B ++ wC E A (B 0) S ++ wC E T (B 0) U ++ wG E B G ++ wS E q P (mkS v_ni v_wa v_un v_ns v_np v_nw v_ng v_ma v_st v_ou v_ru v_so v_mt v_vo v_gi v_ca v_tr v_sw v_ss v_sg)) (vx_runV (As := [.int (nI i)]) (rest := []) ⟨hx, hb, hml, hown, hts⟩ (c_X2_isRung l hflags E x A T B S U G (nI i)  _) (cwV 1 hts gX3_isSame_X2_isRung rfl rfl rfl ⟨rfl, hd_X2_isRung⟩ ⟨Nat.le_of_ble_eq_true rfl, Nat.le_of_ble_eq_true rfl⟩) (pwV (ci := 2) (q0 := 0) (C := RX2) hw hK rfl rfl rfl (rpX (AV := [.ref x, .int (nI i)]) hw hK hG hZ hA rp_76)) rfl rfl hl.1 rfl (lv_room (Nat.le_of_ble_eq_true rfl)) dX3_isSame_125 ⟨Nat.le_of_ble_eq_true rfl, Nat.le_of_ble_eq_true rfl⟩) hw hA rp_76 rp_76 (fun H locs ce9 q9 t_70 hw hy1 hy2 hy3 => absurd (h1 i hi9) t_70) (fun H locs t_70 hw => ?_)
              refine lv_aload hx hb dX3_isSame_128 (lv_at hl 4 rfl) ?_
              refine lv_iconst (v := 3) hx hb dX3_isSame_130 (by decide) ?_
              refine k_ildP (i := 3) (v := v_ru i) hx hb hK hw (Pk.l (Pk_4 (i := i) (show i < v_ns from by omega))) (by decide) (by decide) rfl dX3_isSame_131 ?_
              refine lv_iconst (v := 1) hx hb dX3_isSame_132 (by decide) ?_
              refine lv_icmp_ne (tgt := 140) hx hb dX3_isSame_133 (by decide) (fun c_71 => ?_) (fun c_71 => ?_)
              · have c_71 : ¬ (v_ru i : Int32) = 1 := c_71
                refine lv_iconst (v := 0) hx hb dX3_isSame_140 (by decide) ?_
                refine lv_icmp_ne (tgt := 187) hx hb dX3_isSame_141 (by decide) (fun q8 => absurd (by rw [e_ru i hi9]; first | exact if_pos c_71 | exact if_neg c_71) q8) (fun _ => ?_)
                refine lv_aload_n hx hb dX3_isSame_144 rfl (lv_at hl 1 rfl) ?_
                refine lv_iload_n hx hb dX3_isSame_145 rfl (lv_at hl 3 rfl) ?_
                refine krx_i (ws' := wX x A T B ++ wC E A (B 0) S ++ wC E T (B 0) U ++ wG E B G ++ wS E q P (mkS v_ni v_wa v_un v_ns v_np v_nw v_ng v_ma v_st v_ou v_ru v_so v_mt v_vo v_gi v_ca v_tr v_sw v_ss v_sg)) (vx_runV (As := [.int (nI i)]) (rest := []) ⟨hx, hb, hml, hown, hts⟩ (c_X2_trustIn l hflags E x A T B S U G (nI i)  _) (cwV 1 hts gX3_isSame_X2_trustIn rfl rfl rfl ⟨rfl, hd_X2_trustIn⟩ ⟨Nat.le_of_ble_eq_true rfl, Nat.le_of_ble_eq_true rfl⟩) (pwV (ci := 2) (q0 := 0) (C := RX2) hw hK rfl rfl rfl (rpX (AV := [.ref x, .int (nI i)]) hw hK hG hZ hA rp_76)) rfl rfl hl.1 rfl (lv_room (Nat.le_of_ble_eq_true rfl)) dX3_isSame_146 ⟨Nat.le_of_ble_eq_true rfl, Nat.le_of_ble_eq_true rfl⟩) hw hA rp_76 rp_76 (fun H locs ce9 q9 t_72 hw hy1 hy2 hy3 => absurd (h1 i hi9) t_72) (fun H locs t_72 hw => ?_)
                refine lv_aload_n hx hb dX3_isSame_149 rfl (lv_at hl 0 rfl) ?_
                refine lv_iload_n hx hb dX3_isSame_150 rfl (lv_at hl 3 rfl) ?_
                refine kr_i (ws' := wX x A T B ++ wC E A (B 0) S ++ wC E T (B 0) U ++ wG E B G ++ wS E q P (mkS v_ni v_wa v_un v_ns v_np v_nw v_ng v_ma v_st v_ou v_ru v_so v_mt v_vo v_gi v_ca v_tr v_sw v_ss v_sg)) (va_runV (As := [.int (nI i)]) (rest := [.int (f_trust S (nI i))]) ⟨hx, hb, hml, hown, hts⟩ (c_X3_trustIn l E q P v_ni v_wa v_un v_ns v_np v_nw v_ng v_ma v_st v_ou v_ru v_so v_mt v_vo v_gi v_ca v_tr v_sw v_ss v_sg i hns hnp hnw hng hso hsw _) (cwV 1 hts gX3_isSame_X3_trustIn rfl rfl rfl ⟨rfl, hd_X3_trustIn⟩ ⟨Nat.le_of_ble_eq_true rfl, Nat.le_of_ble_eq_true rfl⟩) (pwV (ci := 3) (q0 := 21) (C := RX3) hw hK rfl rfl rfl (rpS (AV := [.ref q, .int (nI i)]) hw hK hG rp_77)) rfl rfl hl.1 rfl (lv_room (Nat.le_of_ble_eq_true rfl)) dX3_isSame_151 ⟨Nat.le_of_ble_eq_true rfl, Nat.le_of_ble_eq_true rfl⟩) hw hA rp_77 (fun H locs hw => ?_)
                refine lv_icmp_ne (tgt := 187) hx hb dX3_isSame_154 (by decide) (fun q8 => absurd (e_ti i hi9) q8) (fun _ => ?_)
                refine lv_aload_n hx hb dX3_isSame_157 rfl (lv_at hl 1 rfl) ?_
                refine lv_iload_n hx hb dX3_isSame_158 rfl (lv_at hl 3 rfl) ?_
                refine krx_i (ws' := wX x A T B ++ wC E A (B 0) S ++ wC E T (B 0) U ++ wG E B G ++ wS E q P (mkS v_ni v_wa v_un v_ns v_np v_nw v_ng v_ma v_st v_ou v_ru v_so v_mt v_vo v_gi v_ca v_tr v_sw v_ss v_sg)) (vx_runV (As := [.int (nI i)]) (rest := []) ⟨hx, hb, hml, hown, hts⟩ (c_X2_voters l hflags E x A T B S U G (nI i)  _) (cwV 1 hts gX3_isSame_X2_voters rfl rfl rfl ⟨rfl, hd_X2_voters⟩ ⟨Nat.le_of_ble_eq_true rfl, Nat.le_of_ble_eq_true rfl⟩) (pwV (ci := 2) (q0 := 0) (C := RX2) hw hK rfl rfl rfl (rpX (AV := [.ref x, .int (nI i)]) hw hK hG hZ hA rp_76)) rfl rfl hl.1 rfl (lv_room (Nat.le_of_ble_eq_true rfl)) dX3_isSame_159 ⟨Nat.le_of_ble_eq_true rfl, Nat.le_of_ble_eq_true rfl⟩) hw hA rp_76 rp_76 (fun H locs ce9 q9 t_73 hw hy1 hy2 hy3 => absurd (h1 i hi9) t_73) (fun H locs t_73 hw => ?_)
                refine lv_iload hx hb dX3_isSame_162 (lv_at hl 5 rfl) ?_
                refine lv_icmp_ne (tgt := 187) hx hb dX3_isSame_164 (by decide) (fun q8 => absurd (e_vo i hi9) q8) (fun _ => ?_)
                refine lv_aload_n hx hb dX3_isSame_167 rfl (lv_at hl 1 rfl) ?_
                refine lv_iload_n hx hb dX3_isSame_168 rfl (lv_at hl 3 rfl) ?_
                refine krx_i (ws' := wX x A T B ++ wC E A (B 0) S ++ wC E T (B 0) U ++ wG E B G ++ wS E q P (mkS v_ni v_wa v_un v_ns v_np v_nw v_ng v_ma v_st v_ou v_ru v_so v_mt v_vo v_gi v_ca v_tr v_sw v_ss v_sg)) (vx_runV (As := [.int (nI i)]) (rest := []) ⟨hx, hb, hml, hown, hts⟩ (c_X2_votesForLost l hflags E x A T B S U G (nI i)  _) (cwV 1 hts gX3_isSame_X2_votesForLost rfl rfl rfl ⟨rfl, hd_X2_votesForLost⟩ ⟨Nat.le_of_ble_eq_true rfl, Nat.le_of_ble_eq_true rfl⟩) (pwV (ci := 2) (q0 := 0) (C := RX2) hw hK rfl rfl rfl (rpX (AV := [.ref x, .int (nI i)]) hw hK hG hZ hA rp_76)) rfl rfl hl.1 rfl (lv_room (Nat.le_of_ble_eq_true rfl)) dX3_isSame_169 ⟨Nat.le_of_ble_eq_true rfl, Nat.le_of_ble_eq_true rfl⟩) hw hA rp_76 rp_76 (fun H locs ce9 q9 t_74 hw hy1 hy2 hy3 => absurd (h1 i hi9) t_74) (fun H locs t_74 hw => ?_)
                refine lv_iload hx hb dX3_isSame_172 (lv_at hl 6 rfl) ?_
                refine lv_icmp_ne (tgt := 187) hx hb dX3_isSame_174 (by decide) (fun q8 => absurd (e_gi i hi9) q8) (fun _ => ?_)
                refine lv_aload_n hx hb dX3_isSame_177 rfl (lv_at hl 1 rfl) ?_
                refine lv_iload_n hx hb dX3_isSame_178 rfl (lv_at hl 3 rfl) ?_
                refine krx_i (ws' := wX x A T B ++ wC E A (B 0) S ++ wC E T (B 0) U ++ wG E B G ++ wS E q P (mkS v_ni v_wa v_un v_ns v_np v_nw v_ng v_ma v_st v_ou v_ru v_so v_mt v_vo v_gi v_ca v_tr v_sw v_ss v_sg)) (vx_runV (As := [.int (nI i)]) (rest := []) ⟨hx, hb, hml, hown, hts⟩ (c_X2_votesMissing l hflags E x A T B S U G (nI i)  _) (cwV 1 hts gX3_isSame_X2_votesMissing rfl rfl rfl ⟨rfl, hd_X2_votesMissing⟩ ⟨Nat.le_of_ble_eq_true rfl, Nat.le_of_ble_eq_true rfl⟩) (pwV (ci := 2) (q0 := 0) (C := RX2) hw hK rfl rfl rfl (rpX (AV := [.ref x, .int (nI i)]) hw hK hG hZ hA rp_76)) rfl rfl hl.1 rfl (lv_room (Nat.le_of_ble_eq_true rfl)) dX3_isSame_179 ⟨Nat.le_of_ble_eq_true rfl, Nat.le_of_ble_eq_true rfl⟩) hw hA rp_76 rp_76 (fun H locs ce9 q9 t_75 hw hy1 hy2 hy3 => absurd (h1 i hi9) t_75) (fun H locs t_75 hw => ?_)
                refine lv_iload hx hb dX3_isSame_182 (lv_at hl 7 rfl) ?_
                refine lv_icmp_eq (tgt := 189) hx hb dX3_isSame_184 (by decide) (fun _ => ?_) (fun q8 => absurd (e_mi i hi9) q8)
                refine lv_iinc (v := nI (i + 1)) (lv' := [(3, .int (nI (i + 1))), (0, .ref q), (1, .ref x), (2, .int 0), (4, .ref (P.2.1 i)), (5, .int (l_vot (v_so) (v_vo) (v_gi) i false (v_np))), (6, .int (l_vot (v_so) (v_vo) (v_gi) i true (v_np))), (7, .int (nI j))]) hx hb dX3_isSame_189 hl (k := 3) rfl (nI_add i 1) (by decide) rfl (fun ls hl => ?_)
                refine lv_goto (tgt := 4) hx hb dX3_isSame_192 (by decide) ?_
                exact ih_4 (i + 1) _ _ _ (by omega) hw (lv_sub hl [1, 2, 3, 0] rfl)
              · have c_71 : (v_ru i : Int32) = 1 := c_71
                refine lv_iconst (v := 1) hx hb dX3_isSame_136 (by decide) ?_
                refine lv_goto (tgt := 141) hx hb dX3_isSame_137 (by decide) ?_
                refine lv_icmp_ne (tgt := 187) hx hb dX3_isSame_141 (by decide) (fun q8 => absurd (by rw [e_ru i hi9]; first | exact if_pos c_71 | exact if_neg c_71) q8) (fun _ => ?_)
                refine lv_aload_n hx hb dX3_isSame_144 rfl (lv_at hl 1 rfl) ?_
                refine lv_iload_n hx hb dX3_isSame_145 rfl (lv_at hl 3 rfl) ?_
                refine krx_i (ws' := wX x A T B ++ wC E A (B 0) S ++ wC E T (B 0) U ++ wG E B G ++ wS E q P (mkS v_ni v_wa v_un v_ns v_np v_nw v_ng v_ma v_st v_ou v_ru v_so v_mt v_vo v_gi v_ca v_tr v_sw v_ss v_sg)) (vx_runV (As := [.int (nI i)]) (rest := []) ⟨hx, hb, hml, hown, hts⟩ (c_X2_trustIn l hflags E x A T B S U G (nI i)  _) (cwV 1 hts gX3_isSame_X2_trustIn rfl rfl rfl ⟨rfl, hd_X2_trustIn⟩ ⟨Nat.le_of_ble_eq_true rfl, Nat.le_of_ble_eq_true rfl⟩) (pwV (ci := 2) (q0 := 0) (C := RX2) hw hK rfl rfl rfl (rpX (AV := [.ref x, .int (nI i)]) hw hK hG hZ hA rp_76)) rfl rfl hl.1 rfl (lv_room (Nat.le_of_ble_eq_true rfl)) dX3_isSame_146 ⟨Nat.le_of_ble_eq_true rfl, Nat.le_of_ble_eq_true rfl⟩) hw hA rp_76 rp_76 (fun H locs ce9 q9 t_76 hw hy1 hy2 hy3 => absurd (h1 i hi9) t_76) (fun H locs t_76 hw => ?_)
                refine lv_aload_n hx hb dX3_isSame_149 rfl (lv_at hl 0 rfl) ?_
                refine lv_iload_n hx hb dX3_isSame_150 rfl (lv_at hl 3 rfl) ?_
                refine kr_i (ws' := wX x A T B ++ wC E A (B 0) S ++ wC E T (B 0) U ++ wG E B G ++ wS E q P (mkS v_ni v_wa v_un v_ns v_np v_nw v_ng v_ma v_st v_ou v_ru v_so v_mt v_vo v_gi v_ca v_tr v_sw v_ss v_sg)) (va_runV (As := [.int (nI i)]) (rest := [.int (f_trust S (nI i))]) ⟨hx, hb, hml, hown, hts⟩ (c_X3_trustIn l E q P v_ni v_wa v_un v_ns v_np v_nw v_ng v_ma v_st v_ou v_ru v_so v_mt v_vo v_gi v_ca v_tr v_sw v_ss v_sg i hns hnp hnw hng hso hsw _) (cwV 1 hts gX3_isSame_X3_trustIn rfl rfl rfl ⟨rfl, hd_X3_trustIn⟩ ⟨Nat.le_of_ble_eq_true rfl, Nat.le_of_ble_eq_true rfl⟩) (pwV (ci := 3) (q0 := 21) (C := RX3) hw hK rfl rfl rfl (rpS (AV := [.ref q, .int (nI i)]) hw hK hG rp_77)) rfl rfl hl.1 rfl (lv_room (Nat.le_of_ble_eq_true rfl)) dX3_isSame_151 ⟨Nat.le_of_ble_eq_true rfl, Nat.le_of_ble_eq_true rfl⟩) hw hA rp_77 (fun H locs hw => ?_)
                refine lv_icmp_ne (tgt := 187) hx hb dX3_isSame_154 (by decide) (fun q8 => absurd (e_ti i hi9) q8) (fun _ => ?_)
                refine lv_aload_n hx hb dX3_isSame_157 rfl (lv_at hl 1 rfl) ?_
                refine lv_iload_n hx hb dX3_isSame_158 rfl (lv_at hl 3 rfl) ?_
                refine krx_i (ws' := wX x A T B ++ wC E A (B 0) S ++ wC E T (B 0) U ++ wG E B G ++ wS E q P (mkS v_ni v_wa v_un v_ns v_np v_nw v_ng v_ma v_st v_ou v_ru v_so v_mt v_vo v_gi v_ca v_tr v_sw v_ss v_sg)) (vx_runV (As := [.int (nI i)]) (rest := []) ⟨hx, hb, hml, hown, hts⟩ (c_X2_voters l hflags E x A T B S U G (nI i)  _) (cwV 1 hts gX3_isSame_X2_voters rfl rfl rfl ⟨rfl, hd_X2_voters⟩ ⟨Nat.le_of_ble_eq_true rfl, Nat.le_of_ble_eq_true rfl⟩) (pwV (ci := 2) (q0 := 0) (C := RX2) hw hK rfl rfl rfl (rpX (AV := [.ref x, .int (nI i)]) hw hK hG hZ hA rp_76)) rfl rfl hl.1 rfl (lv_room (Nat.le_of_ble_eq_true rfl)) dX3_isSame_159 ⟨Nat.le_of_ble_eq_true rfl, Nat.le_of_ble_eq_true rfl⟩) hw hA rp_76 rp_76 (fun H locs ce9 q9 t_77 hw hy1 hy2 hy3 => absurd (h1 i hi9) t_77) (fun H locs t_77 hw => ?_)
                refine lv_iload hx hb dX3_isSame_162 (lv_at hl 5 rfl) ?_
                refine lv_icmp_ne (tgt := 187) hx hb dX3_isSame_164 (by decide) (fun q8 => absurd (e_vo i hi9) q8) (fun _ => ?_)
                refine lv_aload_n hx hb dX3_isSame_167 rfl (lv_at hl 1 rfl) ?_
                refine lv_iload_n hx hb dX3_isSame_168 rfl (lv_at hl 3 rfl) ?_
                refine krx_i (ws' := wX x A T B ++ wC E A (B 0) S ++ wC E T (B 0) U ++ wG E B G ++ wS E q P (mkS v_ni v_wa v_un v_ns v_np v_nw v_ng v_ma v_st v_ou v_ru v_so v_mt v_vo v_gi v_ca v_tr v_sw v_ss v_sg)) (vx_runV (As := [.int (nI i)]) (rest := []) ⟨hx, hb, hml, hown, hts⟩ (c_X2_votesForLost l hflags E x A T B S U G (nI i)  _) (cwV 1 hts gX3_isSame_X2_votesForLost rfl rfl rfl ⟨rfl, hd_X2_votesForLost⟩ ⟨Nat.le_of_ble_eq_true rfl, Nat.le_of_ble_eq_true rfl⟩) (pwV (ci := 2) (q0 := 0) (C := RX2) hw hK rfl rfl rfl (rpX (AV := [.ref x, .int (nI i)]) hw hK hG hZ hA rp_76)) rfl rfl hl.1 rfl (lv_room (Nat.le_of_ble_eq_true rfl)) dX3_isSame_169 ⟨Nat.le_of_ble_eq_true rfl, Nat.le_of_ble_eq_true rfl⟩) hw hA rp_76 rp_76 (fun H locs ce9 q9 t_78 hw hy1 hy2 hy3 => absurd (h1 i hi9) t_78) (fun H locs t_78 hw => ?_)
                refine lv_iload hx hb dX3_isSame_172 (lv_at hl 6 rfl) ?_
                refine lv_icmp_ne (tgt := 187) hx hb dX3_isSame_174 (by decide) (fun q8 => absurd (e_gi i hi9) q8) (fun _ => ?_)
                refine lv_aload_n hx hb dX3_isSame_177 rfl (lv_at hl 1 rfl) ?_
                refine lv_iload_n hx hb dX3_isSame_178 rfl (lv_at hl 3 rfl) ?_
                refine krx_i (ws' := wX x A T B ++ wC E A (B 0) S ++ wC E T (B 0) U ++ wG E B G ++ wS E q P (mkS v_ni v_wa v_un v_ns v_np v_nw v_ng v_ma v_st v_ou v_ru v_so v_mt v_vo v_gi v_ca v_tr v_sw v_ss v_sg)) (vx_runV (As := [.int (nI i)]) (rest := []) ⟨hx, hb, hml, hown, hts⟩ (c_X2_votesMissing l hflags E x A T B S U G (nI i)  _) (cwV 1 hts gX3_isSame_X2_votesMissing rfl rfl rfl ⟨rfl, hd_X2_votesMissing⟩ ⟨Nat.le_of_ble_eq_true rfl, Nat.le_of_ble_eq_true rfl⟩) (pwV (ci := 2) (q0 := 0) (C := RX2) hw hK rfl rfl rfl (rpX (AV := [.ref x, .int (nI i)]) hw hK hG hZ hA rp_76)) rfl rfl hl.1 rfl (lv_room (Nat.le_of_ble_eq_true rfl)) dX3_isSame_179 ⟨Nat.le_of_ble_eq_true rfl, Nat.le_of_ble_eq_true rfl⟩) hw hA rp_76 rp_76 (fun H locs ce9 q9 t_79 hw hy1 hy2 hy3 => absurd (h1 i hi9) t_79) (fun H locs t_79 hw => ?_)
                refine lv_iload hx hb dX3_isSame_182 (lv_at hl 7 rfl) ?_
                refine lv_icmp_eq (tgt := 189) hx hb dX3_isSame_184 (by decide) (fun _ => ?_) (fun q8 => absurd (e_mi i hi9) q8)
                refine lv_iinc (v := nI (i + 1)) (lv' := [(3, .int (nI (i + 1))), (0, .ref q), (1, .ref x), (2, .int 0), (4, .ref (P.2.1 i)), (5, .int (l_vot (v_so) (v_vo) (v_gi) i false (v_np))), (6, .int (l_vot (v_so) (v_vo) (v_gi) i true (v_np))), (7, .int (nI j))]) hx hb dX3_isSame_189 hl (k := 3) rfl (nI_add i 1) (by decide) rfl (fun ls hl => ?_)
                refine lv_goto (tgt := 4) hx hb dX3_isSame_192 (by decide) ?_
                exact ih_4 (i + 1) _ _ _ (by omega) hw (lv_sub hl [1, 2, 3, 0] rfl)
            · have c_68 : (v_st i : Int32) = 2 := c_68
              refine lv_iconst (v := 1) hx hb dX3_isSame_103 (by decide) ?_
              refine lv_goto (tgt := 108) hx hb dX3_isSame_104 (by decide) ?_
              refine lv_icmp_ne (tgt := 187) hx hb dX3_isSame_108 (by decide) (fun q8 => absurd (by rw [e_lo i hi9]; first | exact if_pos c_68 | exact if_neg c_68) q8) (fun _ => ?_)
              refine lv_aload_n hx hb dX3_isSame_111 rfl (lv_at hl 1 rfl) ?_
              refine lv_iload_n hx hb dX3_isSame_112 rfl (lv_at hl 3 rfl) ?_
              refine krx_i (ws' := wX x A T B ++ wC E A (B 0) S ++ wC E T (B 0) U ++ wG E B G ++ wS E q P (mkS v_ni v_wa v_un v_ns v_np v_nw v_ng v_ma v_st v_ou v_ru v_so v_mt v_vo v_gi v_ca v_tr v_sw v_ss v_sg)) (vx_runV (As := [.int (nI i)]) (rest := []) ⟨hx, hb, hml, hown, hts⟩ (c_X2_nightsOut l hflags E x A T B S U G (nI i)  _) (cwV 1 hts gX3_isSame_X2_nightsOut rfl rfl rfl ⟨rfl, hd_X2_nightsOut⟩ ⟨Nat.le_of_ble_eq_true rfl, Nat.le_of_ble_eq_true rfl⟩) (pwV (ci := 2) (q0 := 0) (C := RX2) hw hK rfl rfl rfl (rpX (AV := [.ref x, .int (nI i)]) hw hK hG hZ hA rp_76)) rfl rfl hl.1 rfl (lv_room (Nat.le_of_ble_eq_true rfl)) dX3_isSame_113 ⟨Nat.le_of_ble_eq_true rfl, Nat.le_of_ble_eq_true rfl⟩) hw hA rp_76 rp_76 (fun H locs ce9 q9 t_80 hw hy1 hy2 hy3 => absurd (h1 i hi9) t_80) (fun H locs t_80 hw => ?_)
              refine lv_aload hx hb dX3_isSame_116 (lv_at hl 4 rfl) ?_
              refine lv_iconst (v := 2) hx hb dX3_isSame_118 (by decide) ?_
              refine k_ildP (i := 2) (v := v_ou i) hx hb hK hw (Pk.l (Pk_4 (i := i) (show i < v_ns from by omega))) (by decide) (by decide) rfl dX3_isSame_119 ?_
              refine lv_icmp_ne (tgt := 187) hx hb dX3_isSame_120 (by decide) (fun q8 => absurd (e_ou i hi9) q8) (fun _ => ?_)
              refine lv_aload_n hx hb dX3_isSame_123 rfl (lv_at hl 1 rfl) ?_
              refine lv_iload_n hx hb dX3_isSame_124 rfl (lv_at hl 3 rfl) ?_
              refine krx_i (ws' := wX x A T B ++ wC E A (B 0) S ++ wC E T (B 0) U ++ wG E B G ++ wS E q P (mkS v_ni v_wa v_un v_ns v_np v_nw v_ng v_ma v_st v_ou v_ru v_so v_mt v_vo v_gi v_ca v_tr v_sw v_ss v_sg)) (vx_runV (As := [.int (nI i)]) (rest := []) ⟨hx, hb, hml, hown, hts⟩ (c_X2_isRung l hflags E x A T B S U G (nI i)  _) (cwV 1 hts gX3_isSame_X2_isRung rfl rfl rfl ⟨rfl, hd_X2_isRung⟩ ⟨Nat.le_of_ble_eq_true rfl, Nat.le_of_ble_eq_true rfl⟩) (pwV (ci := 2) (q0 := 0) (C := RX2) hw hK rfl rfl rfl (rpX (AV := [.ref x, .int (nI i)]) hw hK hG hZ hA rp_76)) rfl rfl hl.1 rfl (lv_room (Nat.le_of_ble_eq_true rfl)) dX3_isSame_125 ⟨Nat.le_of_ble_eq_true rfl, Nat.le_of_ble_eq_true rfl⟩) hw hA rp_76 rp_76 (fun H locs ce9 q9 t_81 hw hy1 hy2 hy3 => absurd (h1 i hi9) t_81) (fun H locs t_81 hw => ?_)
              refine lv_aload hx hb dX3_isSame_128 (lv_at hl 4 rfl) ?_
              refine lv_iconst (v := 3) hx hb dX3_isSame_130 (by decide) ?_
              refine k_ildP (i := 3) (v := v_ru i) hx hb hK hw (Pk.l (Pk_4 (i := i) (show i < v_ns from by omega))) (by decide) (by decide) rfl dX3_isSame_131 ?_
              refine lv_iconst (v := 1) hx hb dX3_isSame_132 (by decide) ?_
              refine lv_icmp_ne (tgt := 140) hx hb dX3_isSame_133 (by decide) (fun c_82 => ?_) (fun c_82 => ?_)
              · have c_82 : ¬ (v_ru i : Int32) = 1 := c_82
                refine lv_iconst (v := 0) hx hb dX3_isSame_140 (by decide) ?_
                refine lv_icmp_ne (tgt := 187) hx hb dX3_isSame_141 (by decide) (fun q8 => absurd (by rw [e_ru i hi9]; first | exact if_pos c_82 | exact if_neg c_82) q8) (fun _ => ?_)
                refine lv_aload_n hx hb dX3_isSame_144 rfl (lv_at hl 1 rfl) ?_
                refine lv_iload_n hx hb dX3_isSame_145 rfl (lv_at hl 3 rfl) ?_
                refine krx_i (ws' := wX x A T B ++ wC E A (B 0) S ++ wC E T (B 0) U ++ wG E B G ++ wS E q P (mkS v_ni v_wa v_un v_ns v_np v_nw v_ng v_ma v_st v_ou v_ru v_so v_mt v_vo v_gi v_ca v_tr v_sw v_ss v_sg)) (vx_runV (As := [.int (nI i)]) (rest := []) ⟨hx, hb, hml, hown, hts⟩ (c_X2_trustIn l hflags E x A T B S U G (nI i)  _) (cwV 1 hts gX3_isSame_X2_trustIn rfl rfl rfl ⟨rfl, hd_X2_trustIn⟩ ⟨Nat.le_of_ble_eq_true rfl, Nat.le_of_ble_eq_true rfl⟩) (pwV (ci := 2) (q0 := 0) (C := RX2) hw hK rfl rfl rfl (rpX (AV := [.ref x, .int (nI i)]) hw hK hG hZ hA rp_76)) rfl rfl hl.1 rfl (lv_room (Nat.le_of_ble_eq_true rfl)) dX3_isSame_146 ⟨Nat.le_of_ble_eq_true rfl, Nat.le_of_ble_eq_true rfl⟩) hw hA rp_76 rp_76 (fun H locs ce9 q9 t_83 hw hy1 hy2 hy3 => absurd (h1 i hi9) t_83) (fun H locs t_83 hw => ?_)
                refine lv_aload_n hx hb dX3_isSame_149 rfl (lv_at hl 0 rfl) ?_
                refine lv_iload_n hx hb dX3_isSame_150 rfl (lv_at hl 3 rfl) ?_
                refine kr_i (ws' := wX x A T B ++ wC E A (B 0) S ++ wC E T (B 0) U ++ wG E B G ++ wS E q P (mkS v_ni v_wa v_un v_ns v_np v_nw v_ng v_ma v_st v_ou v_ru v_so v_mt v_vo v_gi v_ca v_tr v_sw v_ss v_sg)) (va_runV (As := [.int (nI i)]) (rest := [.int (f_trust S (nI i))]) ⟨hx, hb, hml, hown, hts⟩ (c_X3_trustIn l E q P v_ni v_wa v_un v_ns v_np v_nw v_ng v_ma v_st v_ou v_ru v_so v_mt v_vo v_gi v_ca v_tr v_sw v_ss v_sg i hns hnp hnw hng hso hsw _) (cwV 1 hts gX3_isSame_X3_trustIn rfl rfl rfl ⟨rfl, hd_X3_trustIn⟩ ⟨Nat.le_of_ble_eq_true rfl, Nat.le_of_ble_eq_true rfl⟩) (pwV (ci := 3) (q0 := 21) (C := RX3) hw hK rfl rfl rfl (rpS (AV := [.ref q, .int (nI i)]) hw hK hG rp_77)) rfl rfl hl.1 rfl (lv_room (Nat.le_of_ble_eq_true rfl)) dX3_isSame_151 ⟨Nat.le_of_ble_eq_true rfl, Nat.le_of_ble_eq_true rfl⟩) hw hA rp_77 (fun H locs hw => ?_)
                refine lv_icmp_ne (tgt := 187) hx hb dX3_isSame_154 (by decide) (fun q8 => absurd (e_ti i hi9) q8) (fun _ => ?_)
                refine lv_aload_n hx hb dX3_isSame_157 rfl (lv_at hl 1 rfl) ?_
                refine lv_iload_n hx hb dX3_isSame_158 rfl (lv_at hl 3 rfl) ?_
                refine krx_i (ws' := wX x A T B ++ wC E A (B 0) S ++ wC E T (B 0) U ++ wG E B G ++ wS E q P (mkS v_ni v_wa v_un v_ns v_np v_nw v_ng v_ma v_st v_ou v_ru v_so v_mt v_vo v_gi v_ca v_tr v_sw v_ss v_sg)) (vx_runV (As := [.int (nI i)]) (rest := []) ⟨hx, hb, hml, hown, hts⟩ (c_X2_voters l hflags E x A T B S U G (nI i)  _) (cwV 1 hts gX3_isSame_X2_voters rfl rfl rfl ⟨rfl, hd_X2_voters⟩ ⟨Nat.le_of_ble_eq_true rfl, Nat.le_of_ble_eq_true rfl⟩) (pwV (ci := 2) (q0 := 0) (C := RX2) hw hK rfl rfl rfl (rpX (AV := [.ref x, .int (nI i)]) hw hK hG hZ hA rp_76)) rfl rfl hl.1 rfl (lv_room (Nat.le_of_ble_eq_true rfl)) dX3_isSame_159 ⟨Nat.le_of_ble_eq_true rfl, Nat.le_of_ble_eq_true rfl⟩) hw hA rp_76 rp_76 (fun H locs ce9 q9 t_84 hw hy1 hy2 hy3 => absurd (h1 i hi9) t_84) (fun H locs t_84 hw => ?_)
                refine lv_iload hx hb dX3_isSame_162 (lv_at hl 5 rfl) ?_
                refine lv_icmp_ne (tgt := 187) hx hb dX3_isSame_164 (by decide) (fun q8 => absurd (e_vo i hi9) q8) (fun _ => ?_)
                refine lv_aload_n hx hb dX3_isSame_167 rfl (lv_at hl 1 rfl) ?_
                refine lv_iload_n hx hb dX3_isSame_168 rfl (lv_at hl 3 rfl) ?_
                refine krx_i (ws' := wX x A T B ++ wC E A (B 0) S ++ wC E T (B 0) U ++ wG E B G ++ wS E q P (mkS v_ni v_wa v_un v_ns v_np v_nw v_ng v_ma v_st v_ou v_ru v_so v_mt v_vo v_gi v_ca v_tr v_sw v_ss v_sg)) (vx_runV (As := [.int (nI i)]) (rest := []) ⟨hx, hb, hml, hown, hts⟩ (c_X2_votesForLost l hflags E x A T B S U G (nI i)  _) (cwV 1 hts gX3_isSame_X2_votesForLost rfl rfl rfl ⟨rfl, hd_X2_votesForLost⟩ ⟨Nat.le_of_ble_eq_true rfl, Nat.le_of_ble_eq_true rfl⟩) (pwV (ci := 2) (q0 := 0) (C := RX2) hw hK rfl rfl rfl (rpX (AV := [.ref x, .int (nI i)]) hw hK hG hZ hA rp_76)) rfl rfl hl.1 rfl (lv_room (Nat.le_of_ble_eq_true rfl)) dX3_isSame_169 ⟨Nat.le_of_ble_eq_true rfl, Nat.le_of_ble_eq_true rfl⟩) hw hA rp_76 rp_76 (fun H locs ce9 q9 t_85 hw hy1 hy2 hy3 => absurd (h1 i hi9) t_85) (fun H locs t_85 hw => ?_)
                refine lv_iload hx hb dX3_isSame_172 (lv_at hl 6 rfl) ?_
                refine lv_icmp_ne (tgt := 187) hx hb dX3_isSame_174 (by decide) (fun q8 => absurd (e_gi i hi9) q8) (fun _ => ?_)
                refine lv_aload_n hx hb dX3_isSame_177 rfl (lv_at hl 1 rfl) ?_
                refine lv_iload_n hx hb dX3_isSame_178 rfl (lv_at hl 3 rfl) ?_
                refine krx_i (ws' := wX x A T B ++ wC E A (B 0) S ++ wC E T (B 0) U ++ wG E B G ++ wS E q P (mkS v_ni v_wa v_un v_ns v_np v_nw v_ng v_ma v_st v_ou v_ru v_so v_mt v_vo v_gi v_ca v_tr v_sw v_ss v_sg)) (vx_runV (As := [.int (nI i)]) (rest := []) ⟨hx, hb, hml, hown, hts⟩ (c_X2_votesMissing l hflags E x A T B S U G (nI i)  _) (cwV 1 hts gX3_isSame_X2_votesMissing rfl rfl rfl ⟨rfl, hd_X2_votesMissing⟩ ⟨Nat.le_of_ble_eq_true rfl, Nat.le_of_ble_eq_true rfl⟩) (pwV (ci := 2) (q0 := 0) (C := RX2) hw hK rfl rfl rfl (rpX (AV := [.ref x, .int (nI i)]) hw hK hG hZ hA rp_76)) rfl rfl hl.1 rfl (lv_room (Nat.le_of_ble_eq_true rfl)) dX3_isSame_179 ⟨Nat.le_of_ble_eq_true rfl, Nat.le_of_ble_eq_true rfl⟩) hw hA rp_76 rp_76 (fun H locs ce9 q9 t_86 hw hy1 hy2 hy3 => absurd (h1 i hi9) t_86) (fun H locs t_86 hw => ?_)
                refine lv_iload hx hb dX3_isSame_182 (lv_at hl 7 rfl) ?_
                refine lv_icmp_eq (tgt := 189) hx hb dX3_isSame_184 (by decide) (fun _ => ?_) (fun q8 => absurd (e_mi i hi9) q8)
                refine lv_iinc (v := nI (i + 1)) (lv' := [(3, .int (nI (i + 1))), (0, .ref q), (1, .ref x), (2, .int 0), (4, .ref (P.2.1 i)), (5, .int (l_vot (v_so) (v_vo) (v_gi) i false (v_np))), (6, .int (l_vot (v_so) (v_vo) (v_gi) i true (v_np))), (7, .int (nI j))]) hx hb dX3_isSame_189 hl (k := 3) rfl (nI_add i 1) (by decide) rfl (fun ls hl => ?_)
                refine lv_goto (tgt := 4) hx hb dX3_isSame_192 (by decide) ?_
                exact ih_4 (i + 1) _ _ _ (by omega) hw (lv_sub hl [1, 2, 3, 0] rfl)
              · have c_82 : (v_ru i : Int32) = 1 := c_82
                refine lv_iconst (v := 1) hx hb dX3_isSame_136 (by decide) ?_
                refine lv_goto (tgt := 141) hx hb dX3_isSame_137 (by decide) ?_
                refine lv_icmp_ne (tgt := 187) hx hb dX3_isSame_141 (by decide) (fun q8 => absurd (by rw [e_ru i hi9]; first | exact if_pos c_82 | exact if_neg c_82) q8) (fun _ => ?_)
                refine lv_aload_n hx hb dX3_isSame_144 rfl (lv_at hl 1 rfl) ?_
                refine lv_iload_n hx hb dX3_isSame_145 rfl (lv_at hl 3 rfl) ?_
                refine krx_i (ws' := wX x A T B ++ wC E A (B 0) S ++ wC E T (B 0) U ++ wG E B G ++ wS E q P (mkS v_ni v_wa v_un v_ns v_np v_nw v_ng v_ma v_st v_ou v_ru v_so v_mt v_vo v_gi v_ca v_tr v_sw v_ss v_sg)) (vx_runV (As := [.int (nI i)]) (rest := []) ⟨hx, hb, hml, hown, hts⟩ (c_X2_trustIn l hflags E x A T B S U G (nI i)  _) (cwV 1 hts gX3_isSame_X2_trustIn rfl rfl rfl ⟨rfl, hd_X2_trustIn⟩ ⟨Nat.le_of_ble_eq_true rfl, Nat.le_of_ble_eq_true rfl⟩) (pwV (ci := 2) (q0 := 0) (C := RX2) hw hK rfl rfl rfl (rpX (AV := [.ref x, .int (nI i)]) hw hK hG hZ hA rp_76)) rfl rfl hl.1 rfl (lv_room (Nat.le_of_ble_eq_true rfl)) dX3_isSame_146 ⟨Nat.le_of_ble_eq_true rfl, Nat.le_of_ble_eq_true rfl⟩) hw hA rp_76 rp_76 (fun H locs ce9 q9 t_87 hw hy1 hy2 hy3 => absurd (h1 i hi9) t_87) (fun H locs t_87 hw => ?_)
                refine lv_aload_n hx hb dX3_isSame_149 rfl (lv_at hl 0 rfl) ?_
                refine lv_iload_n hx hb dX3_isSame_150 rfl (lv_at hl 3 rfl) ?_
                refine kr_i (ws' := wX x A T B ++ wC E A (B 0) S ++ wC E T (B 0) U ++ wG E B G ++ wS E q P (mkS v_ni v_wa v_un v_ns v_np v_nw v_ng v_ma v_st v_ou v_ru v_so v_mt v_vo v_gi v_ca v_tr v_sw v_ss v_sg)) (va_runV (As := [.int (nI i)]) (rest := [.int (f_trust S (nI i))]) ⟨hx, hb, hml, hown, hts⟩ (c_X3_trustIn l E q P v_ni v_wa v_un v_ns v_np v_nw v_ng v_ma v_st v_ou v_ru v_so v_mt v_vo v_gi v_ca v_tr v_sw v_ss v_sg i hns hnp hnw hng hso hsw _) (cwV 1 hts gX3_isSame_X3_trustIn rfl rfl rfl ⟨rfl, hd_X3_trustIn⟩ ⟨Nat.le_of_ble_eq_true rfl, Nat.le_of_ble_eq_true rfl⟩) (pwV (ci := 3) (q0 := 21) (C := RX3) hw hK rfl rfl rfl (rpS (AV := [.ref q, .int (nI i)]) hw hK hG rp_77)) rfl rfl hl.1 rfl (lv_room (Nat.le_of_ble_eq_true rfl)) dX3_isSame_151 ⟨Nat.le_of_ble_eq_true rfl, Nat.le_of_ble_eq_true rfl⟩) hw hA rp_77 (fun H locs hw => ?_)
                refine lv_icmp_ne (tgt := 187) hx hb dX3_isSame_154 (by decide) (fun q8 => absurd (e_ti i hi9) q8) (fun _ => ?_)
                refine lv_aload_n hx hb dX3_isSame_157 rfl (lv_at hl 1 rfl) ?_
                refine lv_iload_n hx hb dX3_isSame_158 rfl (lv_at hl 3 rfl) ?_
                refine krx_i (ws' := wX x A T B ++ wC E A (B 0) S ++ wC E T (B 0) U ++ wG E B G ++ wS E q P (mkS v_ni v_wa v_un v_ns v_np v_nw v_ng v_ma v_st v_ou v_ru v_so v_mt v_vo v_gi v_ca v_tr v_sw v_ss v_sg)) (vx_runV (As := [.int (nI i)]) (rest := []) ⟨hx, hb, hml, hown, hts⟩ (c_X2_voters l hflags E x A T B S U G (nI i)  _) (cwV 1 hts gX3_isSame_X2_voters rfl rfl rfl ⟨rfl, hd_X2_voters⟩ ⟨Nat.le_of_ble_eq_true rfl, Nat.le_of_ble_eq_true rfl⟩) (pwV (ci := 2) (q0 := 0) (C := RX2) hw hK rfl rfl rfl (rpX (AV := [.ref x, .int (nI i)]) hw hK hG hZ hA rp_76)) rfl rfl hl.1 rfl (lv_room (Nat.le_of_ble_eq_true rfl)) dX3_isSame_159 ⟨Nat.le_of_ble_eq_true rfl, Nat.le_of_ble_eq_true rfl⟩) hw hA rp_76 rp_76 (fun H locs ce9 q9 t_88 hw hy1 hy2 hy3 => absurd (h1 i hi9) t_88) (fun H locs t_88 hw => ?_)
                refine lv_iload hx hb dX3_isSame_162 (lv_at hl 5 rfl) ?_
                refine lv_icmp_ne (tgt := 187) hx hb dX3_isSame_164 (by decide) (fun q8 => absurd (e_vo i hi9) q8) (fun _ => ?_)
                refine lv_aload_n hx hb dX3_isSame_167 rfl (lv_at hl 1 rfl) ?_
                refine lv_iload_n hx hb dX3_isSame_168 rfl (lv_at hl 3 rfl) ?_
                refine krx_i (ws' := wX x A T B ++ wC E A (B 0) S ++ wC E T (B 0) U ++ wG E B G ++ wS E q P (mkS v_ni v_wa v_un v_ns v_np v_nw v_ng v_ma v_st v_ou v_ru v_so v_mt v_vo v_gi v_ca v_tr v_sw v_ss v_sg)) (vx_runV (As := [.int (nI i)]) (rest := []) ⟨hx, hb, hml, hown, hts⟩ (c_X2_votesForLost l hflags E x A T B S U G (nI i)  _) (cwV 1 hts gX3_isSame_X2_votesForLost rfl rfl rfl ⟨rfl, hd_X2_votesForLost⟩ ⟨Nat.le_of_ble_eq_true rfl, Nat.le_of_ble_eq_true rfl⟩) (pwV (ci := 2) (q0 := 0) (C := RX2) hw hK rfl rfl rfl (rpX (AV := [.ref x, .int (nI i)]) hw hK hG hZ hA rp_76)) rfl rfl hl.1 rfl (lv_room (Nat.le_of_ble_eq_true rfl)) dX3_isSame_169 ⟨Nat.le_of_ble_eq_true rfl, Nat.le_of_ble_eq_true rfl⟩) hw hA rp_76 rp_76 (fun H locs ce9 q9 t_89 hw hy1 hy2 hy3 => absurd (h1 i hi9) t_89) (fun H locs t_89 hw => ?_)
                refine lv_iload hx hb dX3_isSame_172 (lv_at hl 6 rfl) ?_
                refine lv_icmp_ne (tgt := 187) hx hb dX3_isSame_174 (by decide) (fun q8 => absurd (e_gi i hi9) q8) (fun _ => ?_)
                refine lv_aload_n hx hb dX3_isSame_177 rfl (lv_at hl 1 rfl) ?_
                refine lv_iload_n hx hb dX3_isSame_178 rfl (lv_at hl 3 rfl) ?_
                refine krx_i (ws' := wX x A T B ++ wC E A (B 0) S ++ wC E T (B 0) U ++ wG E B G ++ wS E q P (mkS v_ni v_wa v_un v_ns v_np v_nw v_ng v_ma v_st v_ou v_ru v_so v_mt v_vo v_gi v_ca v_tr v_sw v_ss v_sg)) (vx_runV (As := [.int (nI i)]) (rest := []) ⟨hx, hb, hml, hown, hts⟩ (c_X2_votesMissing l hflags E x A T B S U G (nI i)  _) (cwV 1 hts gX3_isSame_X2_votesMissing rfl rfl rfl ⟨rfl, hd_X2_votesMissing⟩ ⟨Nat.le_of_ble_eq_true rfl, Nat.le_of_ble_eq_true rfl⟩) (pwV (ci := 2) (q0 := 0) (C := RX2) hw hK rfl rfl rfl (rpX (AV := [.ref x, .int (nI i)]) hw hK hG hZ hA rp_76)) rfl rfl hl.1 rfl (lv_room (Nat.le_of_ble_eq_true rfl)) dX3_isSame_179 ⟨Nat.le_of_ble_eq_true rfl, Nat.le_of_ble_eq_true rfl⟩) hw hA rp_76 rp_76 (fun H locs ce9 q9 t_90 hw hy1 hy2 hy3 => absurd (h1 i hi9) t_90) (fun H locs t_90 hw => ?_)
                refine lv_iload hx hb dX3_isSame_182 (lv_at hl 7 rfl) ?_
                refine lv_icmp_eq (tgt := 189) hx hb dX3_isSame_184 (by decide) (fun _ => ?_) (fun q8 => absurd (e_mi i hi9) q8)
                refine lv_iinc (v := nI (i + 1)) (lv' := [(3, .int (nI (i + 1))), (0, .ref q), (1, .ref x), (2, .int 0), (4, .ref (P.2.1 i)), (5, .int (l_vot (v_so) (v_vo) (v_gi) i false (v_np))), (6, .int (l_vot (v_so) (v_vo) (v_gi) i true (v_np))), (7, .int (nI j))]) hx hb dX3_isSame_189 hl (k := 3) rfl (nI_add i 1) (by decide) rfl (fun ls hl => ?_)
                refine lv_goto (tgt := 4) hx hb dX3_isSame_192 (by decide) ?_
                exact ih_4 (i + 1) _ _ _ (by omega) hw (lv_sub hl [1, 2, 3, 0] rfl)
        | succ k9 ih_40 =>
          intro j H locs ls hi hw hl
          have hi9 : j < Kf i := by omega
          have hj9 : j < Kf i := by omega
          refine lv_iconst (v := 2) hx hb dX3_isSame_40 (by decide) ?_
          refine lv_iload hx hb dX3_isSame_41 (lv_at hl 6 rfl) ?_
          refine lv_iload hx hb dX3_isSame_43 (lv_at hl 7 rfl) ?_
          refine lv_iadd hx hb dX3_isSame_45 ?_
          refine lv_imul hx hb dX3_isSame_46 ?_
          refine lv_iload hx hb dX3_isSame_47 (lv_at hl 5 rfl) ?_
          refine lv_icmp_gt (tgt := 58) hx hb dX3_isSame_49 (by decide) (fun q8 => absurd q8 (e_k1 i hi9 j hj9)) (fun _ => ?_)
          refine lv_iinc (v := nI (j + 1)) (lv' := [(7, .int (nI (j + 1))), (0, .ref q), (1, .ref x), (2, .int 0), (3, .int (nI i)), (4, .ref (P.2.1 i)), (5, .int (l_vot (v_so) (v_vo) (v_gi) i false (v_np))), (6, .int (l_vot (v_so) (v_vo) (v_gi) i true (v_np)))]) hx hb dX3_isSame_52 hl (k := 7) rfl (nI_add j 1) (by decide) rfl (fun ls hl => ?_)
          refine lv_goto (tgt := 40) hx hb dX3_isSame_55 (by decide) ?_
          exact ih_40 (j + 1) _ _ _ (by omega) hw (lv_sub hl [1, 2, 3, 4, 5, 6, 7, 0] rfl)
      exact L_40 ((Kf i) - 0) 0 _ _ _ (by omega) hw (lv_sub hl [4, 5, 6, 7, 3, 2, 1, 0] rfl)
  exact L_4 (v_ns - 0) 0 _ _ _ (by omega) hw (lv_sub hl [2, 3, 1, 0] rfl)
