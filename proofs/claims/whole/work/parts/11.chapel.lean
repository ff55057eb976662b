abbrev rm_X0_copyFrom : Room := { frames := 1, cells := 0, slots := 0, locals := 22 }
set_option maxHeartbeats 4000000 in
set_option maxRecDepth 100000 in
theorem c_X0_copyFrom (l : Launch) (E : Ev) (T A : Nat → Nat) (hb hc : Nat) (U S : CS) : MV l E yX0_copyFrom wsX0_copyFrom rm_X0_copyFrom [.ref (T 0), .ref (A 0)] (wC E T hb U ++ wC E A hc S) (wC E T hb S ++ wC E A hc S) := by
  refine k_bV (cc := cX0_copyFrom) (maxL := 2) (ret := none) (by decide) rfl (by decide) ?_
  intro p e s m args below meth c A9 ls hC hl hw
  obtain ⟨hx, hb, hml, hr, hown, hts, hlocks, hK, hG, hA⟩ := hC
  have hinX0 : ∀ w ∈ wsX00, w ∈ wsX0_copyFrom := by decide +kernel
  have hf9 := hts (.fieldLink RX0 9 "SailorCandles$Chapel" "stay" "[I") (by decide +kernel)
  have hf15 := hts (.fieldLink RX0 15 "SailorCandles$Chapel" "outFor" "[I") (by decide +kernel)
  have hf18 := hts (.fieldLink RX0 18 "SailorCandles$Chapel" "rung" "[Z") (by decide +kernel)
  have hf22 := hts (.fieldLink RX0 22 "SailorCandles$Chapel" "candle" "[I") (by decide +kernel)
  have hf25 := hts (.fieldLink RX0 25 "SailorCandles$Chapel" "trust" "[I") (by decide +kernel)
  have hf28 := hts (.fieldLink RX0 28 "SailorCandles$Chapel" "sightingAge" "[I") (by decide +kernel)
  have hf43 := hts (.fieldLink RX0 43 "SailorCandles$Chapel" "nightsPassed" "I") (by decide +kernel)
  have hf47 := hts (.fieldLink RX0 47 "SailorCandles$Chapel" "waxLeft" "I") (by decide +kernel)
  have hf50 := hts (.fieldLink RX0 50 "SailorCandles$Chapel" "unringings" "I") (by decide +kernel)
  have hl : lv_has ls 2 [(0, .ref (T 0)), (1, .ref (A 0))] := hl
  refine lv_aload_n hx hb dX0_copyFrom_0 rfl (lv_at hl 1 rfl) ?_
  refine k_get (ci := 0) (v := .ref (A 1)) (C := RX0) (T := TX0) (N := 10) hx hb hown hK hw hts hinX0 7 rfl rfl 1 (by decide) hf9 rfl dX0_copyFrom_1 ?_
  refine lv_aload_n hx hb dX0_copyFrom_4 rfl (lv_at hl 0 rfl) ?_
  refine k_get (ci := 0) (v := .ref (T 1)) (C := RX0) (T := TX0) (N := 10) hx hb hown hK hw hts hinX0 0 rfl rfl 1 (by decide) hf9 rfl dX0_copyFrom_5 ?_
  refine kc_v (ws' := wC E T hb (p_st U (l_cpy (c_st S) (c_st U) 5)) ++ wC E A hc S) (va_runSN (As := [.ref (A 1), .ref (T 1)]) (rest := []) ⟨hx, hb, hml, hown, hts⟩ (c_X2_copyRow l E (A 1) (T 1) 5 (c_st S) (c_st U) (by decide) _) ⟨va_cnB 2 hts ggX0_copyFrom_X2_copyRow rfl rfl rfl (hG.nw 16 (w := .methodLinkNest RX0 35 yX2_copyRow "SailorCandles") rfl) (hts (.initialized RX2) (by decide +kernel)) hd_X2_copyRow ⟨Nat.le_of_ble_eq_true rfl, Nat.le_of_ble_eq_true rfl⟩, hts (.static yX2_copyRow) (by decide +kernel), trivial⟩ (pwS (AV := [.ref (A 1), .ref (T 1)]) hw hK hG [8, 1] rfl rfl) rfl rfl hl.1 rfl (lv_room (Nat.le_of_ble_eq_true rfl)) dX0_copyFrom_8 ⟨Nat.le_of_ble_eq_true rfl, Nat.le_of_ble_eq_true rfl⟩) hw hA [8, 1] rfl rfl rfl rfl (fun H locs hw => ?_)
  refine lv_aload_n hx hb dX0_copyFrom_11 rfl (lv_at hl 1 rfl) ?_
  refine k_get (ci := 0) (v := .ref (A 2)) (C := RX0) (T := TX0) (N := 10) hx hb hown hK hw hts hinX0 7 rfl rfl 2 (by decide) hf15 rfl dX0_copyFrom_12 ?_
  refine lv_aload_n hx hb dX0_copyFrom_15 rfl (lv_at hl 0 rfl) ?_
  refine k_get (ci := 0) (v := .ref (T 2)) (C := RX0) (T := TX0) (N := 10) hx hb hown hK hw hts hinX0 0 rfl rfl 2 (by decide) hf15 rfl dX0_copyFrom_16 ?_
  refine kc_v (ws' := wC E T hb (p_ou (p_st U (l_cpy (c_st S) (c_st U) 5)) (l_cpy (c_ou S) (c_ou (p_st U (l_cpy (c_st S) (c_st U) 5))) 5)) ++ wC E A hc S) (va_runSN (As := [.ref (A 2), .ref (T 2)]) (rest := []) ⟨hx, hb, hml, hown, hts⟩ (c_X2_copyRow l E (A 2) (T 2) 5 (c_ou S) (c_ou (p_st U (l_cpy (c_st S) (c_st U) 5))) (by decide) _) ⟨va_cnB 2 hts ggX0_copyFrom_X2_copyRow rfl rfl rfl (hG.nw 16 (w := .methodLinkNest RX0 35 yX2_copyRow "SailorCandles") rfl) (hts (.initialized RX2) (by decide +kernel)) hd_X2_copyRow ⟨Nat.le_of_ble_eq_true rfl, Nat.le_of_ble_eq_true rfl⟩, hts (.static yX2_copyRow) (by decide +kernel), trivial⟩ (pwS (AV := [.ref (A 2), .ref (T 2)]) hw hK hG [9, 2] rfl rfl) rfl rfl hl.1 rfl (lv_room (Nat.le_of_ble_eq_true rfl)) dX0_copyFrom_19 ⟨Nat.le_of_ble_eq_true rfl, Nat.le_of_ble_eq_true rfl⟩) hw hA [9, 2] rfl rfl rfl rfl (fun H locs hw => ?_)
  refine lv_aload_n hx hb dX0_copyFrom_22 rfl (lv_at hl 1 rfl) ?_
  refine k_get (ci := 0) (v := .ref (A 3)) (C := RX0) (T := TX0) (N := 10) hx hb hown hK hw hts hinX0 7 rfl rfl 3 (by decide) hf18 rfl dX0_copyFrom_23 ?_
  refine lv_aload_n hx hb dX0_copyFrom_26 rfl (lv_at hl 0 rfl) ?_
  refine k_get (ci := 0) (v := .ref (T 3)) (C := RX0) (T := TX0) (N := 10) hx hb hown hK hw hts hinX0 0 rfl rfl 3 (by decide) hf18 rfl dX0_copyFrom_27 ?_
  refine kc_v (ws' := wC E T hb (p_ru (p_ou (p_st U (l_cpy (c_st S) (c_st U) 5)) (l_cpy (c_ou S) (c_ou (p_st U (l_cpy (c_st S) (c_st U) 5))) 5)) (l_cpyB (c_ru S) (c_ru (p_ou (p_st U (l_cpy (c_st S) (c_st U) 5)) (l_cpy (c_ou S) (c_ou (p_st U (l_cpy (c_st S) (c_st U) 5))) 5))) 5)) ++ wC E A hc S) (va_runSN (As := [.ref (A 3), .ref (T 3)]) (rest := []) ⟨hx, hb, hml, hown, hts⟩ (c_X2_copyMarks l E (A 3) (T 3) 5 (c_ru S) (c_ru (p_ou (p_st U (l_cpy (c_st S) (c_st U) 5)) (l_cpy (c_ou S) (c_ou (p_st U (l_cpy (c_st S) (c_st U) 5))) 5))) (by decide) _) ⟨va_cnB 2 hts ggX0_copyFrom_X2_copyMarks rfl rfl rfl (hG.nw 17 (w := .methodLinkNest RX0 39 yX2_copyMarks "SailorCandles") rfl) (hts (.initialized RX2) (by decide +kernel)) hd_X2_copyMarks ⟨Nat.le_of_ble_eq_true rfl, Nat.le_of_ble_eq_true rfl⟩, hts (.static yX2_copyMarks) (by decide +kernel), trivial⟩ (pwS (AV := [.ref (A 3), .ref (T 3)]) hw hK hG [10, 3] rfl rfl) rfl rfl hl.1 rfl (lv_room (Nat.le_of_ble_eq_true rfl)) dX0_copyFrom_30 ⟨Nat.le_of_ble_eq_true rfl, Nat.le_of_ble_eq_true rfl⟩) hw hA [10, 3] rfl rfl rfl rfl (fun H locs hw => ?_)
  refine lv_aload_n hx hb dX0_copyFrom_33 rfl (lv_at hl 1 rfl) ?_
  refine k_get (ci := 0) (v := .ref (A 4)) (C := RX0) (T := TX0) (N := 10) hx hb hown hK hw hts hinX0 7 rfl rfl 4 (by decide) hf22 rfl dX0_copyFrom_34 ?_
  refine lv_aload_n hx hb dX0_copyFrom_37 rfl (lv_at hl 0 rfl) ?_
  refine k_get (ci := 0) (v := .ref (T 4)) (C := RX0) (T := TX0) (N := 10) hx hb hown hK hw hts hinX0 0 rfl rfl 4 (by decide) hf22 rfl dX0_copyFrom_38 ?_
  refine kc_v (ws' := wC E T hb (p_ca (p_ru (p_ou (p_st U (l_cpy (c_st S) (c_st U) 5)) (l_cpy (c_ou S) (c_ou (p_st U (l_cpy (c_st S) (c_st U) 5))) 5)) (l_cpyB (c_ru S) (c_ru (p_ou (p_st U (l_cpy (c_st S) (c_st U) 5)) (l_cpy (c_ou S) (c_ou (p_st U (l_cpy (c_st S) (c_st U) 5))) 5))) 5)) (l_cpy (c_ca S) (c_ca (p_ru (p_ou (p_st U (l_cpy (c_st S) (c_st U) 5)) (l_cpy (c_ou S) (c_ou (p_st U (l_cpy (c_st S) (c_st U) 5))) 5)) (l_cpyB (c_ru S) (c_ru (p_ou (p_st U (l_cpy (c_st S) (c_st U) 5)) (l_cpy (c_ou S) (c_ou (p_st U (l_cpy (c_st S) (c_st U) 5))) 5))) 5))) 16)) ++ wC E A hc S) (va_runSN (As := [.ref (A 4), .ref (T 4)]) (rest := []) ⟨hx, hb, hml, hown, hts⟩ (c_X2_copyRow l E (A 4) (T 4) 16 (c_ca S) (c_ca (p_ru (p_ou (p_st U (l_cpy (c_st S) (c_st U) 5)) (l_cpy (c_ou S) (c_ou (p_st U (l_cpy (c_st S) (c_st U) 5))) 5)) (l_cpyB (c_ru S) (c_ru (p_ou (p_st U (l_cpy (c_st S) (c_st U) 5)) (l_cpy (c_ou S) (c_ou (p_st U (l_cpy (c_st S) (c_st U) 5))) 5))) 5))) (by decide) _) ⟨va_cnB 2 hts ggX0_copyFrom_X2_copyRow rfl rfl rfl (hG.nw 16 (w := .methodLinkNest RX0 35 yX2_copyRow "SailorCandles") rfl) (hts (.initialized RX2) (by decide +kernel)) hd_X2_copyRow ⟨Nat.le_of_ble_eq_true rfl, Nat.le_of_ble_eq_true rfl⟩, hts (.static yX2_copyRow) (by decide +kernel), trivial⟩ (pwS (AV := [.ref (A 4), .ref (T 4)]) hw hK hG [11, 4] rfl rfl) rfl rfl hl.1 rfl (lv_room (Nat.le_of_ble_eq_true rfl)) dX0_copyFrom_41 ⟨Nat.le_of_ble_eq_true rfl, Nat.le_of_ble_eq_true rfl⟩) hw hA [11, 4] rfl rfl rfl rfl (fun H locs hw => ?_)
  refine lv_aload_n hx hb dX0_copyFrom_44 rfl (lv_at hl 1 rfl) ?_
  refine k_get (ci := 0) (v := .ref (A 5)) (C := RX0) (T := TX0) (N := 10) hx hb hown hK hw hts hinX0 7 rfl rfl 5 (by decide) hf25 rfl dX0_copyFrom_45 ?_
  refine lv_aload_n hx hb dX0_copyFrom_48 rfl (lv_at hl 0 rfl) ?_
  refine k_get (ci := 0) (v := .ref (T 5)) (C := RX0) (T := TX0) (N := 10) hx hb hown hK hw hts hinX0 0 rfl rfl 5 (by decide) hf25 rfl dX0_copyFrom_49 ?_
  refine kc_v (ws' := wC E T hb (p_tr (p_ca (p_ru (p_ou (p_st U (l_cpy (c_st S) (c_st U) 5)) (l_cpy (c_ou S) (c_ou (p_st U (l_cpy (c_st S) (c_st U) 5))) 5)) (l_cpyB (c_ru S) (c_ru (p_ou (p_st U (l_cpy (c_st S) (c_st U) 5)) (l_cpy (c_ou S) (c_ou (p_st U (l_cpy (c_st S) (c_st U) 5))) 5))) 5)) (l_cpy (c_ca S) (c_ca (p_ru (p_ou (p_st U (l_cpy (c_st S) (c_st U) 5)) (l_cpy (c_ou S) (c_ou (p_st U (l_cpy (c_st S) (c_st U) 5))) 5)) (l_cpyB (c_ru S) (c_ru (p_ou (p_st U (l_cpy (c_st S) (c_st U) 5)) (l_cpy (c_ou S) (c_ou (p_st U (l_cpy (c_st S) (c_st U) 5))) 5))) 5))) 16)) (l_cpy (c_tr S) (c_tr (p_ca (p_ru (p_ou (p_st U (l_cpy (c_st S) (c_st U) 5)) (l_cpy (c_ou S) (c_ou (p_st U (l_cpy (c_st S) (c_st U) 5))) 5)) (l_cpyB (c_ru S) (c_ru (p_ou (p_st U (l_cpy (c_st S) (c_st U) 5)) (l_cpy (c_ou S) (c_ou (p_st U (l_cpy (c_st S) (c_st U) 5))) 5))) 5)) (l_cpy (c_ca S) (c_ca (p_ru (p_ou (p_st U (l_cpy (c_st S) (c_st U) 5)) (l_cpy (c_ou S) (c_ou (p_st U (l_cpy (c_st S) (c_st U) 5))) 5)) (l_cpyB (c_ru S) (c_ru (p_ou (p_st U (l_cpy (c_st S) (c_st U) 5)) (l_cpy (c_ou S) (c_ou (p_st U (l_cpy (c_st S) (c_st U) 5))) 5))) 5))) 16))) 4)) ++ wC E A hc S) (va_runSN (As := [.ref (A 5), .ref (T 5)]) (rest := []) ⟨hx, hb, hml, hown, hts⟩ (c_X2_copyRow l E (A 5) (T 5) 4 (c_tr S) (c_tr (p_ca (p_ru (p_ou (p_st U (l_cpy (c_st S) (c_st U) 5)) (l_cpy (c_ou S) (c_ou (p_st U (l_cpy (c_st S) (c_st U) 5))) 5)) (l_cpyB (c_ru S) (c_ru (p_ou (p_st U (l_cpy (c_st S) (c_st U) 5)) (l_cpy (c_ou S) (c_ou (p_st U (l_cpy (c_st S) (c_st U) 5))) 5))) 5)) (l_cpy (c_ca S) (c_ca (p_ru (p_ou (p_st U (l_cpy (c_st S) (c_st U) 5)) (l_cpy (c_ou S) (c_ou (p_st U (l_cpy (c_st S) (c_st U) 5))) 5)) (l_cpyB (c_ru S) (c_ru (p_ou (p_st U (l_cpy (c_st S) (c_st U) 5)) (l_cpy (c_ou S) (c_ou (p_st U (l_cpy (c_st S) (c_st U) 5))) 5))) 5))) 16))) (by decide) _) ⟨va_cnB 2 hts ggX0_copyFrom_X2_copyRow rfl rfl rfl (hG.nw 16 (w := .methodLinkNest RX0 35 yX2_copyRow "SailorCandles") rfl) (hts (.initialized RX2) (by decide +kernel)) hd_X2_copyRow ⟨Nat.le_of_ble_eq_true rfl, Nat.le_of_ble_eq_true rfl⟩, hts (.static yX2_copyRow) (by decide +kernel), trivial⟩ (pwS (AV := [.ref (A 5), .ref (T 5)]) hw hK hG [12, 5] rfl rfl) rfl rfl hl.1 rfl (lv_room (Nat.le_of_ble_eq_true rfl)) dX0_copyFrom_52 ⟨Nat.le_of_ble_eq_true rfl, Nat.le_of_ble_eq_true rfl⟩) hw hA [12, 5] rfl rfl rfl rfl (fun H locs hw => ?_)
  refine lv_aload_n hx hb dX0_copyFrom_55 rfl (lv_at hl 1 rfl) ?_
  refine k_get (ci := 0) (v := .ref (A 6)) (C := RX0) (T := TX0) (N := 10) hx hb hown hK hw hts hinX0 7 rfl rfl 6 (by decide) hf28 rfl dX0_copyFrom_56 ?_
  refine lv_aload_n hx hb dX0_copyFrom_59 rfl (lv_at hl 0 rfl) ?_
  refine k_get (ci := 0) (v := .ref (T 6)) (C := RX0) (T := TX0) (N := 10) hx hb hown hK hw hts hinX0 0 rfl rfl 6 (by decide) hf28 rfl dX0_copyFrom_60 ?_
  refine kc_v (ws' := wC E T hb (p_ag (p_tr (p_ca (p_ru (p_ou (p_st U (l_cpy (c_st S) (c_st U) 5)) (l_cpy (c_ou S) (c_ou (p_st U (l_cpy (c_st S) (c_st U) 5))) 5)) (l_cpyB (c_ru S) (c_ru (p_ou (p_st U (l_cpy (c_st S) (c_st U) 5)) (l_cpy (c_ou S) (c_ou (p_st U (l_cpy (c_st S) (c_st U) 5))) 5))) 5)) (l_cpy (c_ca S) (c_ca (p_ru (p_ou (p_st U (l_cpy (c_st S) (c_st U) 5)) (l_cpy (c_ou S) (c_ou (p_st U (l_cpy (c_st S) (c_st U) 5))) 5)) (l_cpyB (c_ru S) (c_ru (p_ou (p_st U (l_cpy (c_st S) (c_st U) 5)) (l_cpy (c_ou S) (c_ou (p_st U (l_cpy (c_st S) (c_st U) 5))) 5))) 5))) 16)) (l_cpy (c_tr S) (c_tr (p_ca (p_ru (p_ou (p_st U (l_cpy (c_st S) (c_st U) 5)) (l_cpy (c_ou S) (c_ou (p_st U (l_cpy (c_st S) (c_st U) 5))) 5)) (l_cpyB (c_ru S) (c_ru (p_ou (p_st U (l_cpy (c_st S) (c_st U) 5)) (l_cpy (c_ou S) (c_ou (p_st U (l_cpy (c_st S) (c_st U) 5))) 5))) 5)) (l_cpy (c_ca S) (c_ca (p_ru (p_ou (p_st U (l_cpy (c_st S) (c_st U) 5)) (l_cpy (c_ou S) (c_ou (p_st U (l_cpy (c_st S) (c_st U) 5))) 5)) (l_cpyB (c_ru S) (c_ru (p_ou (p_st U (l_cpy (c_st S) (c_st U) 5)) (l_cpy (c_ou S) (c_ou (p_st U (l_cpy (c_st S) (c_st U) 5))) 5))) 5))) 16))) 4)) (l_cpy (c_ag S) (c_ag (p_tr (p_ca (p_ru (p_ou (p_st U (l_cpy (c_st S) (c_st U) 5)) (l_cpy (c_ou S) (c_ou (p_st U (l_cpy (c_st S) (c_st U) 5))) 5)) (l_cpyB (c_ru S) (c_ru (p_ou (p_st U (l_cpy (c_st S) (c_st U) 5)) (l_cpy (c_ou S) (c_ou (p_st U (l_cpy (c_st S) (c_st U) 5))) 5))) 5)) (l_cpy (c_ca S) (c_ca (p_ru (p_ou (p_st U (l_cpy (c_st S) (c_st U) 5)) (l_cpy (c_ou S) (c_ou (p_st U (l_cpy (c_st S) (c_st U) 5))) 5)) (l_cpyB (c_ru S) (c_ru (p_ou (p_st U (l_cpy (c_st S) (c_st U) 5)) (l_cpy (c_ou S) (c_ou (p_st U (l_cpy (c_st S) (c_st U) 5))) 5))) 5))) 16)) (l_cpy (c_tr S) (c_tr (p_ca (p_ru (p_ou (p_st U (l_cpy (c_st S) (c_st U) 5)) (l_cpy (c_ou S) (c_ou (p_st U (l_cpy (c_st S) (c_st U) 5))) 5)) (l_cpyB (c_ru S) (c_ru (p_ou (p_st U (l_cpy (c_st S) (c_st U) 5)) (l_cpy (c_ou S) (c_ou (p_st U (l_cpy (c_st S) (c_st U) 5))) 5))) 5)) (l_cpy (c_ca S) (c_ca (p_ru (p_ou (p_st U (l_cpy (c_st S) (c_st U) 5)) (l_cpy (c_ou S) (c_ou (p_st U (l_cpy (c_st S) (c_st U) 5))) 5)) (l_cpyB (c_ru S) (c_ru (p_ou (p_st U (l_cpy (c_st S) (c_st U) 5)) (l_cpy (c_ou S) (c_ou (p_st U (l_cpy (c_st S) (c_st U) 5))) 5))) 5))) 16))) 4))) 20)) ++ wC E A hc S) (va_runSN (As := [.ref (A 6), .ref (T 6)]) (rest := []) ⟨hx, hb, hml, hown, hts⟩ (c_X2_copyRow l E (A 6) (T 6) 20 (c_ag S) (c_ag (p_tr (p_ca (p_ru (p_ou (p_st U (l_cpy (c_st S) (c_st U) 5)) (l_cpy (c_ou S) (c_ou (p_st U (l_cpy (c_st S) (c_st U) 5))) 5)) (l_cpyB (c_ru S) (c_ru (p_ou (p_st U (l_cpy (c_st S) (c_st U) 5)) (l_cpy (c_ou S) (c_ou (p_st U (l_cpy (c_st S) (c_st U) 5))) 5))) 5)) (l_cpy (c_ca S) (c_ca (p_ru (p_ou (p_st U (l_cpy (c_st S) (c_st U) 5)) (l_cpy (c_ou S) (c_ou (p_st U (l_cpy (c_st S) (c_st U) 5))) 5)) (l_cpyB (c_ru S) (c_ru (p_ou (p_st U (l_cpy (c_st S) (c_st U) 5)) (l_cpy (c_ou S) (c_ou (p_st U (l_cpy (c_st S) (c_st U) 5))) 5))) 5))) 16)) (l_cpy (c_tr S) (c_tr (p_ca (p_ru (p_ou (p_st U (l_cpy (c_st S) (c_st U) 5)) (l_cpy (c_ou S) (c_ou (p_st U (l_cpy (c_st S) (c_st U) 5))) 5)) (l_cpyB (c_ru S) (c_ru (p_ou (p_st U (l_cpy (c_st S) (c_st U) 5)) (l_cpy (c_ou S) (c_ou (p_st U (l_cpy (c_st S) (c_st U) 5))) 5))) 5)) (l_cpy (c_ca S) (c_ca (p_ru (p_ou (p_st U (l_cpy (c_st S) (c_st U) 5)) (l_cpy (c_ou S) (c_ou (p_st U (l_cpy (c_st S) (c_st U) 5))) 5)) (l_cpyB (c_ru S) (c_ru (p_ou (p_st U (l_cpy (c_st S) (c_st U) 5)) (l_cpy (c_ou S) (c_ou (p_st U (l_cpy (c_st S) (c_st U) 5))) 5))) 5))) 16))) 4))) (by decide) _) ⟨va_cnB 2 hts ggX0_copyFrom_X2_copyRow rfl rfl rfl (hG.nw 16 (w := .methodLinkNest RX0 35 yX2_copyRow "SailorCandles") rfl) (hts (.initialized RX2) (by decide +kernel)) hd_X2_copyRow ⟨Nat.le_of_ble_eq_true rfl, Nat.le_of_ble_eq_true rfl⟩, hts (.static yX2_copyRow) (by decide +kernel), trivial⟩ (pwS (AV := [.ref (A 6), .ref (T 6)]) hw hK hG [13, 6] rfl rfl) rfl rfl hl.1 rfl (lv_room (Nat.le_of_ble_eq_true rfl)) dX0_copyFrom_63 ⟨Nat.le_of_ble_eq_true rfl, Nat.le_of_ble_eq_true rfl⟩) hw hA [13, 6] rfl rfl rfl rfl (fun H locs hw => ?_)
  refine lv_aload_n hx hb dX0_copyFrom_66 rfl (lv_at hl 0 rfl) ?_
  refine lv_aload_n hx hb dX0_copyFrom_67 rfl (lv_at hl 1 rfl) ?_
  refine k_get (ci := 0) (v := .int (c_ni S)) (C := RX0) (T := TX0) (N := 10) hx hb hown hK hw hts hinX0 7 rfl rfl 7 (by decide) hf43 rfl dX0_copyFrom_68 ?_
  refine k_put (ci := 0) (C := RX0) (T := TX0) (N := 10) (ws' := wC E T hb (p_ni (p_ag (p_tr (p_ca (p_ru (p_ou (p_st U (l_cpy (c_st S) (c_st U) 5)) (l_cpy (c_ou S) (c_ou (p_st U (l_cpy (c_st S) (c_st U) 5))) 5)) (l_cpyB (c_ru S) (c_ru (p_ou (p_st U (l_cpy (c_st S) (c_st U) 5)) (l_cpy (c_ou S) (c_ou (p_st U (l_cpy (c_st S) (c_st U) 5))) 5))) 5)) (l_cpy (c_ca S) (c_ca (p_ru (p_ou (p_st U (l_cpy (c_st S) (c_st U) 5)) (l_cpy (c_ou S) (c_ou (p_st U (l_cpy (c_st S) (c_st U) 5))) 5)) (l_cpyB (c_ru S) (c_ru (p_ou (p_st U (l_cpy (c_st S) (c_st U) 5)) (l_cpy (c_ou S) (c_ou (p_st U (l_cpy (c_st S) (c_st U) 5))) 5))) 5))) 16)) (l_cpy (c_tr S) (c_tr (p_ca (p_ru (p_ou (p_st U (l_cpy (c_st S) (c_st U) 5)) (l_cpy (c_ou S) (c_ou (p_st U (l_cpy (c_st S) (c_st U) 5))) 5)) (l_cpyB (c_ru S) (c_ru (p_ou (p_st U (l_cpy (c_st S) (c_st U) 5)) (l_cpy (c_ou S) (c_ou (p_st U (l_cpy (c_st S) (c_st U) 5))) 5))) 5)) (l_cpy (c_ca S) (c_ca (p_ru (p_ou (p_st U (l_cpy (c_st S) (c_st U) 5)) (l_cpy (c_ou S) (c_ou (p_st U (l_cpy (c_st S) (c_st U) 5))) 5)) (l_cpyB (c_ru S) (c_ru (p_ou (p_st U (l_cpy (c_st S) (c_st U) 5)) (l_cpy (c_ou S) (c_ou (p_st U (l_cpy (c_st S) (c_st U) 5))) 5))) 5))) 16))) 4)) (l_cpy (c_ag S) (c_ag (p_tr (p_ca (p_ru (p_ou (p_st U (l_cpy (c_st S) (c_st U) 5)) (l_cpy (c_ou S) (c_ou (p_st U (l_cpy (c_st S) (c_st U) 5))) 5)) (l_cpyB (c_ru S) (c_ru (p_ou (p_st U (l_cpy (c_st S) (c_st U) 5)) (l_cpy (c_ou S) (c_ou (p_st U (l_cpy (c_st S) (c_st U) 5))) 5))) 5)) (l_cpy (c_ca S) (c_ca (p_ru (p_ou (p_st U (l_cpy (c_st S) (c_st U) 5)) (l_cpy (c_ou S) (c_ou (p_st U (l_cpy (c_st S) (c_st U) 5))) 5)) (l_cpyB (c_ru S) (c_ru (p_ou (p_st U (l_cpy (c_st S) (c_st U) 5)) (l_cpy (c_ou S) (c_ou (p_st U (l_cpy (c_st S) (c_st U) 5))) 5))) 5))) 16)) (l_cpy (c_tr S) (c_tr (p_ca (p_ru (p_ou (p_st U (l_cpy (c_st S) (c_st U) 5)) (l_cpy (c_ou S) (c_ou (p_st U (l_cpy (c_st S) (c_st U) 5))) 5)) (l_cpyB (c_ru S) (c_ru (p_ou (p_st U (l_cpy (c_st S) (c_st U) 5)) (l_cpy (c_ou S) (c_ou (p_st U (l_cpy (c_st S) (c_st U) 5))) 5))) 5)) (l_cpy (c_ca S) (c_ca (p_ru (p_ou (p_st U (l_cpy (c_st S) (c_st U) 5)) (l_cpy (c_ou S) (c_ou (p_st U (l_cpy (c_st S) (c_st U) 5))) 5)) (l_cpyB (c_ru S) (c_ru (p_ou (p_st U (l_cpy (c_st S) (c_st U) 5)) (l_cpy (c_ou S) (c_ou (p_st U (l_cpy (c_st S) (c_st U) 5))) 5))) 5))) 16))) 4))) 20)) (c_ni S)) ++ wC E A hc S) hx hb hown hK hw hts hinX0 tyX0 tyX0_ok nmX0 0 rfl rfl 7 (by decide) hf43 rfl rfl (by decide) dX0_copyFrom_71 rfl (fun H locs hw => ?_)
  refine lv_aload_n hx hb dX0_copyFrom_74 rfl (lv_at hl 0 rfl) ?_
  refine lv_aload_n hx hb dX0_copyFrom_75 rfl (lv_at hl 1 rfl) ?_
  refine k_get (ci := 0) (v := .int (c_wa S)) (C := RX0) (T := TX0) (N := 10) hx hb hown hK hw hts hinX0 7 rfl rfl 8 (by decide) hf47 rfl dX0_copyFrom_76 ?_
  refine k_put (ci := 0) (C := RX0) (T := TX0) (N := 10) (ws' := wC E T hb (p_wa (p_ni (p_ag (p_tr (p_ca (p_ru (p_ou (p_st U (l_cpy (c_st S) (c_st U) 5)) (l_cpy (c_ou S) (c_ou (p_st U (l_cpy (c_st S) (c_st U) 5))) 5)) (l_cpyB (c_ru S) (c_ru (p_ou (p_st U (l_cpy (c_st S) (c_st U) 5)) (l_cpy (c_ou S) (c_ou (p_st U (l_cpy (c_st S) (c_st U) 5))) 5))) 5)) (l_cpy (c_ca S) (c_ca (p_ru (p_ou (p_st U (l_cpy (c_st S) (c_st U) 5)) (l_cpy (c_ou S) (c_ou (p_st U (l_cpy (c_st S) (c_st U) 5))) 5)) (l_cpyB (c_ru S) (c_ru (p_ou (p_st U (l_cpy (c_st S) (c_st U) 5)) (l_cpy (c_ou S) (c_ou (p_st U (l_cpy (c_st S) (c_st U) 5))) 5))) 5))) 16)) (l_cpy (c_tr S) (c_tr (p_ca (p_ru (p_ou (p_st U (l_cpy (c_st S) (c_st U) 5)) (l_cpy (c_ou S) (c_ou (p_st U (l_cpy (c_st S) (c_st U) 5))) 5)) (l_cpyB (c_ru S) (c_ru (p_ou (p_st U (l_cpy (c_st S) (c_st U) 5)) (l_cpy (c_ou S) (c_ou (p_st U (l_cpy (c_st S) (c_st U) 5))) 5))) 5)) (l_cpy (c_ca S) (c_ca (p_ru (p_ou (p_st U (l_cpy (c_st S) (c_st U) 5)) (l_cpy (c_ou S) (c_ou (p_st U (l_cpy (c_st S) (c_st U) 5))) 5)) (l_cpyB (c_ru S) (c_ru (p_ou (p_st U (l_cpy (c_st S) (c_st U) 5)) (l_cpy (c_ou S) (c_ou (p_st U (l_cpy (c_st S) (c_st U) 5))) 5))) 5))) 16))) 4)) (l_cpy (c_ag S) (c_ag (p_tr (p_ca (p_ru (p_ou (p_st U (l_cpy (c_st S) (c_st U) 5)) (l_cpy (c_ou S) (c_ou (p_st U (l_cpy (c_st S) (c_st U) 5))) 5)) (l_cpyB (c_ru S) (c_ru (p_ou (p_st U (l_cpy (c_st S) (c_st U) 5)) (l_cpy (c_ou S) (c_ou (p_st U (l_cpy (c_st S) (c_st U) 5))) 5))) 5)) (l_cpy (c_ca S) (c_ca (p_ru (p_ou (p_st U (l_cpy (c_st S) (c_st U) 5)) (l_cpy (c_ou S) (c_ou (p_st U (l_cpy (c_st S) (c_st U) 5))) 5)) (l_cpyB (c_ru S) (c_ru (p_ou (p_st U (l_cpy (c_st S) (c_st U) 5)) (l_cpy (c_ou S) (c_ou (p_st U (l_cpy (c_st S) (c_st U) 5))) 5))) 5))) 16)) (l_cpy (c_tr S) (c_tr (p_ca (p_ru (p_ou (p_st U (l_cpy (c_st S) (c_st U) 5)) (l_cpy (c_ou S) (c_ou (p_st U (l_cpy (c_st S) (c_st U) 5))) 5)) (l_cpyB (c_ru S) (c_ru (p_ou (p_st U (l_cpy (c_st S) (c_st U) 5)) (l_cpy (c_ou S) (c_ou (p_st U (l_cpy (c_st S) (c_st U) 5))) 5))) 5)) (l_cpy (c_ca S) (c_ca (p_ru (p_ou (p_st U (l_cpy (c_st S) (c_st U) 5)) (l_cpy (c_ou S) (c_ou (p_st U (l_cpy (c_st S) (c_st U) 5))) 5)) (l_cpyB (c_ru S) (c_ru (p_ou (p_st U (l_cpy (c_st S) (c_st U) 5)) (l_cpy (c_ou S) (c_ou (p_st U (l_cpy (c_st S) (c_st U) 5))) 5))) 5))) 16))) 4))) 20)) (c_ni S)) (c_wa S)) ++ wC E A hc S) hx hb hown hK hw hts hinX0 tyX0 tyX0_ok nmX0 0 rfl rfl 8 (by decide) hf47 rfl rfl (by decide) dX0_copyFrom_79 rfl (fun H locs hw => ?_)
  refine lv_aload_n hx hb dX0_copyFrom_82 rfl (lv_at hl 0 rfl) ?_
  refine lv_aload_n hx hb dX0_copyFrom_83 rfl (lv_at hl 1 rfl) ?_
  refine k_get (ci := 0) (v := .int (c_un S)) (C := RX0) (T := TX0) (N := 10) hx hb hown hK hw hts hinX0 7 rfl rfl 9 (by decide) hf50 rfl dX0_copyFrom_84 ?_
  refine k_put (ci := 0) (C := RX0) (T := TX0) (N := 10) (ws' := wC E T hb (p_un (p_wa (p_ni (p_ag (p_tr (p_ca (p_ru (p_ou (p_st U (l_cpy (c_st S) (c_st U) 5)) (l_cpy (c_ou S) (c_ou (p_st U (l_cpy (c_st S) (c_st U) 5))) 5)) (l_cpyB (c_ru S) (c_ru (p_ou (p_st U (l_cpy (c_st S) (c_st U) 5)) (l_cpy (c_ou S) (c_ou (p_st U (l_cpy (c_st S) (c_st U) 5))) 5))) 5)) (l_cpy (c_ca S) (c_ca (p_ru (p_ou (p_st U (l_cpy (c_st S) (c_st U) 5)) (l_cpy (c_ou S) (c_ou (p_st U (l_cpy (c_st S) (c_st U) 5))) 5)) (l_cpyB (c_ru S) (c_ru (p_ou (p_st U (l_cpy (c_st S) (c_st U) 5)) (l_cpy (c_ou S) (c_ou (p_st U (l_cpy (c_st S) (c_st U) 5))) 5))) 5))) 16)) (l_cpy (c_tr S) (c_tr (p_ca (p_ru (p_ou (p_st U (l_cpy (c_st S) (c_st U) 5)) (l_cpy (c_ou S) (c_ou (p_st U (l_cpy (c_st S) (c_st U) 5))) 5)) (l_cpyB (c_ru S) (c_ru (p_ou (p_st U (l_cpy (c_st S) (c_st U) 5)) (l_cpy (c_ou S) (c_ou (p_st U (l_cpy (c_st S) (c_st U) 5))) 5))) 5)) (l_cpy (c_ca S) (c_ca (p_ru (p_ou (p_st U (l_cpy (c_st S) (c_st U) 5)) (l_cpy (c_ou S) (c_ou (p_st U (l_cpy (c_st S) (c_st U) 5))) 5)) (l_cpyB (c_ru S) (c_ru (p_ou (p_st U (l_cpy (c_st S) (c_st U) 5)) (l_cpy (c_ou S) (c_ou (p_st U (l_cpy (c_st S) (c_st U) 5))) 5))) 5))) 16))) 4)) (l_cpy (c_ag S) (c_ag (p_tr (p_ca (p_ru (p_ou (p_st U (l_cpy (c_st S) (c_st U) 5)) (l_cpy (c_ou S) (c_ou (p_st U (l_cpy (c_st S) (c_st U) 5))) 5)) (l_cpyB (c_ru S) (c_ru (p_ou (p_st U (l_cpy (c_st S) (c_st U) 5)) (l_cpy (c_ou S) (c_ou (p_st U (l_cpy (c_st S) (c_st U) 5))) 5))) 5)) (l_cpy (c_ca S) (c_ca (p_ru (p_ou (p_st U (l_cpy (c_st S) (c_st U) 5)) (l_cpy (c_ou S) (c_ou (p_st U (l_cpy (c_st S) (c_st U) 5))) 5)) (l_cpyB (c_ru S) (c_ru (p_ou (p_st U (l_cpy (c_st S) (c_st U) 5)) (l_cpy (c_ou S) (c_ou (p_st U (l_cpy (c_st S) (c_st U) 5))) 5))) 5))) 16)) (l_cpy (c_tr S) (c_tr (p_ca (p_ru (p_ou (p_st U (l_cpy (c_st S) (c_st U) 5)) (l_cpy (c_ou S) (c_ou (p_st U (l_cpy (c_st S) (c_st U) 5))) 5)) (l_cpyB (c_ru S) (c_ru (p_ou (p_st U (l_cpy (c_st S) (c_st U) 5)) (l_cpy (c_ou S) (c_ou (p_st U (l_cpy (c_st S) (c_st U) 5))) 5))) 5)) (l_cpy (c_ca S) (c_ca (p_ru (p_ou (p_st U (l_cpy (c_st S) (c_st U) 5)) (l_cpy (c_ou S) (c_ou (p_st U (l_cpy (c_st S) (c_st U) 5))) 5)) (l_cpyB (c_ru S) (c_ru (p_ou (p_st U (l_cpy (c_st S) (c_st U) 5)) (l_cpy (c_ou S) (c_ou (p_st U (l_cpy (c_st S) (c_st U) 5))) 5))) 5))) 16))) 4))) 20)) (c_ni S)) (c_wa S)) (c_un S)) ++ wC E A hc S) hx hb hown hK hw hts hinX0 tyX0 tyX0_ok nmX0 0 rfl rfl 9 (by decide) hf50 rfl rfl (by decide) dX0_copyFrom_87 rfl (fun H locs hw => ?_)
  have hw := Wd_copy (U := U) (S := S) hw
  exact k_vret hx hb hr hlocks hK hw dX0_copyFrom_90 rfl
abbrev rm_X0_stayOf : Room := { frames := 1, cells := 0, slots := 0, locals := 21 }
set_option maxHeartbeats 4000000 in
set_option maxRecDepth 100000 in
theorem c_X0_stayOf (l : Launch) (E : Ev) (A : Nat → Nat) (hb : Nat) (S : CS) (s : Int32) : MI l E yX0_stayOf wsX0_stayOf rm_X0_stayOf [.ref (A 0), .int s] (wC E A hb S) (f_stay S s) (wC E A hb S) := by
  refine k_bI (cc := cX0_stayOf) (maxL := 2) (ret := (some .int)) (by decide) rfl (by decide) ?_
  intro p e s m args below meth c A9 ls hC hl hw
  obtain ⟨hx, hb, hml, hr, hown, hts, hlocks, hK, hG, hA⟩ := hC
  have hinX0 : ∀ w ∈ wsX00, w ∈ wsX0_stayOf := by decide +kernel
  have hf9 := hts (.fieldLink RX0 9 "SailorCandles$Chapel" "stay" "[I") (by decide +kernel)
  have hl : lv_has ls 2 [(0, .ref (A 0)), (1, .int s)] := hl
  refine lv_aload_n hx hb dX0_stayOf_0 rfl (lv_at hl 0 rfl) ?_
  refine k_get (ci := 0) (v := .ref (A 1)) (C := RX0) (T := TX0) (N := 10) hx hb hown hK hw hts hinX0 0 rfl rfl 1 (by decide) hf9 rfl dX0_stayOf_1 ?_
  refine lv_iload_n hx hb dX0_stayOf_4 rfl (lv_at hl 1 rfl) ?_
  refine kc_i (ws' := wC E A hb S) (va_runSN (As := [.ref (A 1), .int s]) (rest := []) ⟨hx, hb, hml, hown, hts⟩ (c_X2_at l E (A 1) 5 (c_st S) s (by decide) _) ⟨va_cnB 2 hts ggX0_stayOf_X2_at rfl rfl rfl (hG.nw 15 (w := .methodLinkNest RX0 53 yX2_at "SailorCandles") rfl) (hts (.initialized RX2) (by decide +kernel)) hd_X2_at ⟨Nat.le_of_ble_eq_true rfl, Nat.le_of_ble_eq_true rfl⟩, hts (.static yX2_at) (by decide +kernel), trivial⟩ (pwS (AV := [.ref (A 1), .int s]) hw hK hG [1] rfl rfl) rfl rfl hl.1 rfl (lv_room (Nat.le_of_ble_eq_true rfl)) dX0_stayOf_5 ⟨Nat.le_of_ble_eq_true rfl, Nat.le_of_ble_eq_true rfl⟩) hw hA [1] rfl rfl rfl rfl (fun H locs hw => ?_)
  exact k_iret hx hb hr hlocks hK hw rfl dX0_stayOf_8 (by first | assumption | rfl | (simp only [if_true, if_false, Bool.false_eq_true, Bool.true_eq_false, reduceIte, reduceCtorEq]; done) | (simp only [if_true, if_false, Bool.false_eq_true, Bool.true_eq_false, reduceIte, reduceCtorEq]; rfl) | (simp [if_true, if_false, Bool.false_eq_true, Bool.true_eq_false, reduceIte, reduceCtorEq]; done) | (simp [bI, ]; done)) rfl
abbrev rm_X0_placeOf : Room := { frames := 0, cells := 0, slots := 0, locals := 0 }
set_option maxHeartbeats 4000000 in
set_option maxRecDepth 100000 in
theorem c_X0_placeOf (l : Launch) (E : Ev) (w s : Int32) : MI l E yX0_placeOf wsX0_placeOf rm_X0_placeOf [.int w, .int s] ([] : va_W) (f_place w s) ([] : va_W) := by
  refine k_bI (cc := cX0_placeOf) (maxL := 2) (ret := (some .int)) (by decide) rfl (by decide) ?_
  intro p e s m args below meth c A9 ls hC hl hw
  obtain ⟨hx, hb, hml, hr, hown, hts, hlocks, hK, hG, hA⟩ := hC
  have hl : lv_has ls 2 [(0, .int w), (1, .int s)] := hl
  refine lv_iload_n hx hb dX0_placeOf_0 rfl (lv_at hl 0 rfl) ?_
  refine lv_if_lt (tgt := 18) hx hb dX0_placeOf_1 (by decide) (fun c_1 => ?_) (fun c_1 => ?_)
  · refine lv_iconst (v := (-1)) hx hb dX0_placeOf_18 (by decide) ?_
    exact k_iret hx hb hr hlocks hK hw rfl dX0_placeOf_19 (by first | assumption | rfl | (simp only [f_place, if_pos c_1, if_true, if_false, Bool.false_eq_true, Bool.true_eq_false, reduceIte, reduceCtorEq]; done) | (simp only [f_place, if_pos c_1, if_true, if_false, Bool.false_eq_true, Bool.true_eq_false, reduceIte, reduceCtorEq]; rfl) | (simp [f_place, if_pos c_1, if_true, if_false, Bool.false_eq_true, Bool.true_eq_false, reduceIte, reduceCtorEq]; done) | (simp [bI, f_place, c_1]; done)) rfl
  · refine lv_iload_n hx hb dX0_placeOf_4 rfl (lv_at hl 0 rfl) ?_
    refine lv_iconst (v := 4) hx hb dX0_placeOf_5 (by decide) ?_
    refine lv_icmp_ge (tgt := 18) hx hb dX0_placeOf_6 (by decide) (fun c_2 => ?_) (fun c_2 => ?_)
    · refine lv_iconst (v := (-1)) hx hb dX0_placeOf_18 (by decide) ?_
      exact k_iret hx hb hr hlocks hK hw rfl dX0_placeOf_19 (by first | assumption | rfl | (simp only [f_place, if_neg c_1, if_pos c_2, if_true, if_false, Bool.false_eq_true, Bool.true_eq_false, reduceIte, reduceCtorEq]; done) | (simp only [f_place, if_neg c_1, if_pos c_2, if_true, if_false, Bool.false_eq_true, Bool.true_eq_false, reduceIte, reduceCtorEq]; rfl) | (simp [f_place, if_neg c_1, if_pos c_2, if_true, if_false, Bool.false_eq_true, Bool.true_eq_false, reduceIte, reduceCtorEq]; done) | (simp [bI, f_place, c_1, c_2]; done)) rfl
    · refine lv_iload_n hx hb dX0_placeOf_9 rfl (lv_at hl 1 rfl) ?_
      refine lv_if_lt (tgt := 18) hx hb dX0_placeOf_10 (by decide) (fun c_3 => ?_) (fun c_3 => ?_)
      · refine lv_iconst (v := (-1)) hx hb dX0_placeOf_18 (by decide) ?_
        exact k_iret hx hb hr hlocks hK hw rfl dX0_placeOf_19 (by first | assumption | rfl | (simp only [f_place, if_neg c_1, if_neg c_2, if_pos c_3, if_true, if_false, Bool.false_eq_true, Bool.true_eq_false, reduceIte, reduceCtorEq]; done) | (simp only [f_place, if_neg c_1, if_neg c_2, if_pos c_3, if_true, if_false, Bool.false_eq_true, Bool.true_eq_false, reduceIte, reduceCtorEq]; rfl) | (simp [f_place, if_neg c_1, if_neg c_2, if_pos c_3, if_true, if_false, Bool.false_eq_true, Bool.true_eq_false, reduceIte, reduceCtorEq]; done) | (simp [bI, f_place, c_1, c_2, c_3]; done)) rfl
      · refine lv_iload_n hx hb dX0_placeOf_13 rfl (lv_at hl 1 rfl) ?_
        refine lv_iconst (v := 5) hx hb dX0_placeOf_14 (by decide) ?_
        refine lv_icmp_lt (tgt := 20) hx hb dX0_placeOf_15 (by decide) (fun c_4 => ?_) (fun c_4 => ?_)
        · refine lv_iload_n hx hb dX0_placeOf_20 rfl (lv_at hl 0 rfl) ?_
          refine lv_iconst (v := 5) hx hb dX0_placeOf_21 (by decide) ?_
          refine lv_imul hx hb dX0_placeOf_22 ?_
          refine lv_iload_n hx hb dX0_placeOf_23 rfl (lv_at hl 1 rfl) ?_
          refine lv_iadd hx hb dX0_placeOf_24 ?_
          exact k_iret hx hb hr hlocks hK hw rfl dX0_placeOf_25 (by first | assumption | rfl | (simp only [f_place, if_neg c_1, if_neg c_2, if_neg c_3, if_pos c_4, if_true, if_false, Bool.false_eq_true, Bool.true_eq_false, reduceIte, reduceCtorEq]; done) | (simp only [f_place, if_neg c_1, if_neg c_2, if_neg c_3, if_pos c_4, if_true, if_false, Bool.false_eq_true, Bool.true_eq_false, reduceIte, reduceCtorEq]; rfl) | (simp [f_place, if_neg c_1, if_neg c_2, if_neg c_3, if_pos c_4, if_true, if_false, Bool.false_eq_true, Bool.true_eq_false, reduceIte, reduceCtorEq]; done) | (simp [bI, f_place, c_1, c_2, c_3, c_4]; done)) rfl
        · refine lv_iconst (v := (-1)) hx hb dX0_placeOf_18 (by decide) ?_
          exact k_iret hx hb hr hlocks hK hw rfl dX0_placeOf_19 (by first | assumption | rfl | (simp only [f_place, if_neg c_1, if_neg c_2, if_neg c_3, if_neg c_4, if_true, if_false, Bool.false_eq_true, Bool.true_eq_false, reduceIte, reduceCtorEq]; done) | (simp only [f_place, if_neg c_1, if_neg c_2, if_neg c_3, if_neg c_4, if_true, if_false, Bool.false_eq_true, Bool.true_eq_false, reduceIte, reduceCtorEq]; rfl) | (simp [f_place, if_neg c_1, if_neg c_2, if_neg c_3, if_neg c_4, if_true, if_false, Bool.false_eq_true, Bool.true_eq_false, reduceIte, reduceCtorEq]; done) | (simp [bI, f_place, c_1, c_2, c_3, c_4]; done)) rfl
abbrev rm_X0_watcherAt : Room := { frames := 0, cells := 0, slots := 0, locals := 0 }
set_option maxHeartbeats 4000000 in
set_option maxRecDepth 100000 in
theorem c_X0_watcherAt (l : Launch) (E : Ev) (k : Int32) : MI l E yX0_watcherAt wsX0_watcherAt rm_X0_watcherAt [.int k] ([] : va_W) (k / 5) ([] : va_W) := by
  refine k_bI (cc := cX0_watcherAt) (maxL := 1) (ret := (some .int)) (by decide) rfl (by decide) ?_
  intro p e s m args below meth c A9 ls hC hl hw
  obtain ⟨hx, hb, hml, hr, hown, hts, hlocks, hK, hG, hA⟩ := hC
  have hl : lv_has ls 1 [(0, .int k)] := hl
  refine lv_iload_n hx hb dX0_watcherAt_0 rfl (lv_at hl 0 rfl) ?_
  refine lv_iconst (v := 5) hx hb dX0_watcherAt_1 (by decide) ?_
  refine lv_idiv hx hb dX0_watcherAt_2 (by decide) ?_
  exact k_iret hx hb hr hlocks hK hw rfl dX0_watcherAt_3 rfl rfl
abbrev rm_X0_lightCandle : Room := { frames := 1, cells := 0, slots := 0, locals := 22 }
set_option maxHeartbeats 4000000 in
set_option maxRecDepth 100000 in
theorem c_X0_lightCandle (l : Launch) (E : Ev) (A : Nat → Nat) (hb : Nat) (S : CS) (p : Int32) : MI l E yX0_lightCandle wsX0_lightCandle rm_X0_lightCandle [.ref (A 0), .int p] (wC E A hb S) (bI (f_litB S)) (wC E A hb (f_light S p)) := by
  refine k_bI (cc := cX0_lightCandle) (maxL := 2) (ret := (some .boolean)) (by decide) rfl (by decide) ?_
  intro p e s m args below meth c A9 ls hC hl hw
  obtain ⟨hx, hb, hml, hr, hown, hts, hlocks, hK, hG, hA⟩ := hC
  have hinX0 : ∀ w ∈ wsX00, w ∈ wsX0_lightCandle := by decide +kernel
  have hf47 := hts (.fieldLink RX0 47 "SailorCandles$Chapel" "waxLeft" "I") (by decide +kernel)
  have hf22 := hts (.fieldLink RX0 22 "SailorCandles$Chapel" "candle" "[I") (by decide +kernel)
  have hl : lv_has ls 2 [(0, .ref (A 0)), (1, .int p)] := hl
  refine lv_aload_n hx hb dX0_lightCandle_0 rfl (lv_at hl 0 rfl) ?_
  refine k_get (ci := 0) (v := .int (c_wa S)) (C := RX0) (T := TX0) (N := 10) hx hb hown hK hw hts hinX0 0 rfl rfl 8 (by decide) hf47 rfl dX0_lightCandle_1 ?_
  refine lv_bipush (v := 12) hx hb dX0_lightCandle_4 (by decide) ?_
  refine lv_icmp_ge (tgt := 11) hx hb dX0_lightCandle_6 (by decide) (fun c_1 => ?_) (fun c_1 => ?_)
  · refine lv_aload_n hx hb dX0_lightCandle_11 rfl (lv_at hl 0 rfl) ?_
    refine lv_dup hx hb dX0_lightCandle_12 rfl ?_
    refine k_get (ci := 0) (v := .int (c_wa S)) (C := RX0) (T := TX0) (N := 10) hx hb hown hK hw hts hinX0 0 rfl rfl 8 (by decide) hf47 rfl dX0_lightCandle_13 ?_
    refine lv_bipush (v := 12) hx hb dX0_lightCandle_16 (by decide) ?_
    refine lv_isub hx hb dX0_lightCandle_18 ?_
    refine k_put (ci := 0) (C := RX0) (T := TX0) (N := 10) (ws' := wC E A hb (p_wa S ((c_wa S) - 12))) hx hb hown hK hw hts hinX0 tyX0 tyX0_ok nmX0 0 rfl rfl 8 (by decide) hf47 rfl rfl (by decide) dX0_lightCandle_19 rfl (fun H locs hw => ?_)
    refine lv_aload_n hx hb dX0_lightCandle_22 rfl (lv_at hl 0 rfl) ?_
    refine k_get (ci := 0) (v := .ref (A 4)) (C := RX0) (T := TX0) (N := 10) hx hb hown hK hw hts hinX0 0 rfl rfl 4 (by decide) hf22 rfl dX0_lightCandle_23 ?_
    refine lv_iload_n hx hb dX0_lightCandle_26 rfl (lv_at hl 1 rfl) ?_
    refine lv_bipush (v := 12) hx hb dX0_lightCandle_27 (by decide) ?_
    refine kc_v (ws' := wC E A hb (p_ca (p_wa S ((c_wa S) - 12)) (f_put 16 (c_ca (p_wa S ((c_wa S) - 12))) p 12))) (va_runSN (As := [.ref (A 4), .int p, .int 12]) (rest := []) ⟨hx, hb, hml, hown, hts⟩ (c_X2_put l E (A 4) 16 (c_ca (p_wa S ((c_wa S) - 12))) p 12 (by decide) _) ⟨va_cnB 3 hts ggX0_lightCandle_X2_put rfl rfl rfl (hG.nw 18 (w := .methodLinkNest RX0 57 yX2_put "SailorCandles") rfl) (hts (.initialized RX2) (by decide +kernel)) hd_X2_put ⟨Nat.le_of_ble_eq_true rfl, Nat.le_of_ble_eq_true rfl⟩, hts (.static yX2_put) (by decide +kernel), trivial⟩ (pwS (AV := [.ref (A 4), .int p, .int 12]) hw hK hG [4] rfl rfl) rfl rfl hl.1 rfl (lv_room (Nat.le_of_ble_eq_true rfl)) dX0_lightCandle_29 ⟨Nat.le_of_ble_eq_true rfl, Nat.le_of_ble_eq_true rfl⟩) hw hA [4] rfl rfl rfl rfl (fun H locs hw => ?_)
    refine lv_iconst (v := 1) hx hb dX0_lightCandle_32 (by decide) ?_
    exact k_iret hx hb hr hlocks hK hw rfl dX0_lightCandle_33 (by first | assumption | rfl | (simp only [f_litB, f_light, bI_t, bI_f, if_pos c_1, if_true, if_false, Bool.false_eq_true, Bool.true_eq_false, reduceIte, reduceCtorEq]; done) | (simp only [f_litB, f_light, bI_t, bI_f, if_pos c_1, if_true, if_false, Bool.false_eq_true, Bool.true_eq_false, reduceIte, reduceCtorEq]; rfl) | (simp [f_litB, f_light, bI_t, bI_f, if_pos c_1, if_true, if_false, Bool.false_eq_true, Bool.true_eq_false, reduceIte, reduceCtorEq]; done) | (simp [bI, f_litB, f_light, bI_t, bI_f, c_1]; done)) (by first | assumption | rfl | (simp only [f_litB, f_light, bI_t, bI_f, if_pos c_1, if_true, if_false, Bool.false_eq_true, Bool.true_eq_false, reduceIte, reduceCtorEq]; done) | (simp only [f_litB, f_light, bI_t, bI_f, if_pos c_1, if_true, if_false, Bool.false_eq_true, Bool.true_eq_false, reduceIte, reduceCtorEq]; rfl) | (simp [f_litB, f_light, bI_t, bI_f, if_pos c_1, if_true, if_false, Bool.false_eq_true, Bool.true_eq_false, reduceIte, reduceCtorEq]; done) | (simp [bI, f_litB, f_light, bI_t, bI_f, c_1]; done))
  · refine lv_iconst (v := 0) hx hb dX0_lightCandle_9 (by decide) ?_
    exact k_iret hx hb hr hlocks hK hw rfl dX0_lightCandle_10 (by first | assumption | rfl | (simp only [f_litB, f_light, bI_t, bI_f, if_neg c_1, if_true, if_false, Bool.false_eq_true, Bool.true_eq_false, reduceIte, reduceCtorEq]; done) | (simp only [f_litB, f_light, bI_t, bI_f, if_neg c_1, if_true, if_false, Bool.false_eq_true, Bool.true_eq_false, reduceIte, reduceCtorEq]; rfl) | (simp [f_litB, f_light, bI_t, bI_f, if_neg c_1, if_true, if_false, Bool.false_eq_true, Bool.true_eq_false, reduceIte, reduceCtorEq]; done) | (simp [bI, f_litB, f_light, bI_t, bI_f, c_1]; done)) (by first | assumption | rfl | (simp only [f_litB, f_light, bI_t, bI_f, if_neg c_1, if_true, if_false, Bool.false_eq_true, Bool.true_eq_false, reduceIte, reduceCtorEq]; done) | (simp only [f_litB, f_light, bI_t, bI_f, if_neg c_1, if_true, if_false, Bool.false_eq_true, Bool.true_eq_false, reduceIte, reduceCtorEq]; rfl) | (simp [f_litB, f_light, bI_t, bI_f, if_neg c_1, if_true, if_false, Bool.false_eq_true, Bool.true_eq_false, reduceIte, reduceCtorEq]; done) | (simp [bI, f_litB, f_light, bI_t, bI_f, c_1]; done))
abbrev rm_X0_sendOut : Room := { frames := 2, cells := 0, slots := 0, locals := 43 }
set_option maxHeartbeats 4000000 in
set_option maxRecDepth 100000 in
theorem c_X0_sendOut (l : Launch) (E : Ev) (A B : Nat → Nat) (S : CS) (G : HS) (s : Int32) : MI l E yX0_sendOut wsX0_sendOut rm_X0_sendOut [.ref (A 0), .int s] (wC E A (B 0) S ++ wG E B G) (f_sailN G S s) (wC E A (B 0) (f_sailS G S s) ++ wG E B G) := by
  refine k_bI (cc := cX0_sendOut) (maxL := 4) (ret := (some .int)) (by decide) rfl (by decide) ?_
  intro p e s m args below meth c A9 ls hC hl hw
  obtain ⟨hx, hb, hml, hr, hown, hts, hlocks, hK, hG, hA⟩ := hC
  have hinX0 : ∀ w ∈ wsX00, w ∈ wsX0_sendOut := by decide +kernel
  have hinX1 : ∀ w ∈ wsX10, w ∈ wsX0_sendOut := by decide +kernel
  have hf9 := hts (.fieldLink RX0 9 "SailorCandles$Chapel" "stay" "[I") (by decide +kernel)
  have hf15 := hts (.fieldLink RX0 15 "SailorCandles$Chapel" "outFor" "[I") (by decide +kernel)
  have hf31 := hts (.fieldLink RX0 31 "SailorCandles$Chapel" "harbour" "LSailorCandles$Harbour;") (by decide +kernel)
  have hl : lv_has ls 4 [(0, .ref (A 0)), (1, .int s)] := hl
  refine lv_aload_n hx hb dX0_sendOut_0 rfl (lv_at hl 0 rfl) ?_
  refine k_get (ci := 0) (v := .ref (A 1)) (C := RX0) (T := TX0) (N := 10) hx hb hown hK hw hts hinX0 0 rfl rfl 1 (by decide) hf9 rfl dX0_sendOut_1 ?_
  refine lv_iload_n hx hb dX0_sendOut_4 rfl (lv_at hl 1 rfl) ?_
  refine lv_iconst (v := 1) hx hb dX0_sendOut_5 (by decide) ?_
  refine kc_v (ws' := wC E A (B 0) (p_st S (f_put 5 (c_st S) s 1)) ++ wG E B G) (va_runSN (As := [.ref (A 1), .int s, .int 1]) (rest := []) ⟨hx, hb, hml, hown, hts⟩ (c_X2_put l E (A 1) 5 (c_st S) s 1 (by decide) _) ⟨va_cnB 3 hts ggX0_sendOut_X2_put rfl rfl rfl (hG.nw 18 (w := .methodLinkNest RX0 57 yX2_put "SailorCandles") rfl) (hts (.initialized RX2) (by decide +kernel)) hd_X2_put ⟨Nat.le_of_ble_eq_true rfl, Nat.le_of_ble_eq_true rfl⟩, hts (.static yX2_put) (by decide +kernel), trivial⟩ (pwS (AV := [.ref (A 1), .int s, .int 1]) hw hK hG [1] rfl rfl) rfl rfl hl.1 rfl (lv_room (Nat.le_of_ble_eq_true rfl)) dX0_sendOut_6 ⟨Nat.le_of_ble_eq_true rfl, Nat.le_of_ble_eq_true rfl⟩) hw hA [1] rfl rfl rfl rfl (fun H locs hw => ?_)
  refine lv_aload_n hx hb dX0_sendOut_9 rfl (lv_at hl 0 rfl) ?_
  refine k_get (ci := 0) (v := .ref (A 2)) (C := RX0) (T := TX0) (N := 10) hx hb hown hK hw hts hinX0 0 rfl rfl 2 (by decide) hf15 rfl dX0_sendOut_10 ?_
  refine lv_iload_n hx hb dX0_sendOut_13 rfl (lv_at hl 1 rfl) ?_
  refine lv_iconst (v := 0) hx hb dX0_sendOut_14 (by decide) ?_
  refine kc_v (ws' := wC E A (B 0) (p_ou (p_st S (f_put 5 (c_st S) s 1)) (f_put 5 (c_ou (p_st S (f_put 5 (c_st S) s 1))) s 0)) ++ wG E B G) (va_runSN (As := [.ref (A 2), .int s, .int 0]) (rest := []) ⟨hx, hb, hml, hown, hts⟩ (c_X2_put l E (A 2) 5 (c_ou (p_st S (f_put 5 (c_st S) s 1))) s 0 (by decide) _) ⟨va_cnB 3 hts ggX0_sendOut_X2_put rfl rfl rfl (hG.nw 18 (w := .methodLinkNest RX0 57 yX2_put "SailorCandles") rfl) (hts (.initialized RX2) (by decide +kernel)) hd_X2_put ⟨Nat.le_of_ble_eq_true rfl, Nat.le_of_ble_eq_true rfl⟩, hts (.static yX2_put) (by decide +kernel), trivial⟩ (pwS (AV := [.ref (A 2), .int s, .int 0]) hw hK hG [2] rfl rfl) rfl rfl hl.1 rfl (lv_room (Nat.le_of_ble_eq_true rfl)) dX0_sendOut_15 ⟨Nat.le_of_ble_eq_true rfl, Nat.le_of_ble_eq_true rfl⟩) hw hA [2] rfl rfl rfl rfl (fun H locs hw => ?_)
  refine lv_iconst (v := 0) hx hb dX0_sendOut_18 (by decide) ?_
  refine lv_istore_n (lv' := [(2, .int 0), (0, .ref (A 0)), (1, .int s)]) hx hb dX0_sendOut_19 rfl hl (by decide) rfl (fun ls hl => ?_)
  refine lv_iconst (v := 0) hx hb dX0_sendOut_20 (by decide) ?_
  refine lv_istore_n (lv' := [(3, .int 0), (2, .int 0), (0, .ref (A 0)), (1, .int s)]) hx hb dX0_sendOut_21 rfl hl (by decide) rfl (fun ls hl => ?_)
  have L_22 : ∀ (n i : Nat) (H : Heap) (locs : List Loc) (ls : Array Slot), i + n = 16 → Wd E A9 s.heap (wC E A (B 0) (l_sendS G s ((p_ou (p_st S (f_put 5 (c_st S) s 1)) (f_put 5 (c_ou (p_st S (f_put 5 (c_st S) s 1))) s 0))) i) ++ wG E B G) H locs → lv_has ls 4 [(0, .ref (A 0)), (1, .int s), (2, .int (l_sendN G s ((p_ou (p_st S (f_put 5 (c_st S) s 1)) (f_put 5 (c_ou (p_st S (f_put 5 (c_st S) s 1))) s 0))) i)), (3, .int (nI i))] → W p l e rm_X0_sendOut s m args below meth c H locs 0 0 (EndI E A9 (f_sailN G S s) (wC E A (B 0) (f_sailS G S s) ++ wG E B G) below args s (rm_X0_sendOut).cells (rm_X0_sendOut).slots) (F0 m 22 ls []) := by
    intro n
    induction n with
    | zero =>
      intro i H locs ls hi hw hl
      have hi9 : 16 = i := by omega
      subst hi9
      refine lv_iload_n hx hb dX0_sendOut_22 rfl (lv_at hl 3 rfl) ?_
      refine lv_bipush (v := 16) hx hb dX0_sendOut_23 (by decide) ?_
      refine lv_icmp_ge (tgt := 57) hx hb dX0_sendOut_25 (by decide) (fun _ => ?_) (fun q8 => absurd (by rw [hi9]; exact Int32.le_refl _) q8)
      refine lv_iload_n hx hb dX0_sendOut_57 rfl (lv_at hl 2 rfl) ?_
      exact k_iret hx hb hr hlocks hK hw rfl dX0_sendOut_58 (by first | assumption | rfl | (simp only [l_sendS, l_sendN, if_true, if_false, Bool.false_eq_true, Bool.true_eq_false, reduceIte, reduceCtorEq]; done) | (simp only [l_sendS, l_sendN, if_true, if_false, Bool.false_eq_true, Bool.true_eq_false, reduceIte, reduceCtorEq]; rfl) | (simp [l_sendS, l_sendN, if_true, if_false, Bool.false_eq_true, Bool.true_eq_false, reduceIte, reduceCtorEq]; done) | (simp [bI, l_sendS, l_sendN]; done)) rfl
    | succ n ih_22 =>
      intro i H locs ls hi hw hl
      have hi9 : i < 16 := by omega
      refine lv_iload_n hx hb dX0_sendOut_22 rfl (lv_at hl 3 rfl) ?_
      refine lv_bipush (v := 16) hx hb dX0_sendOut_23 (by decide) ?_
      refine lv_icmp_ge (tgt := 57) hx hb dX0_sendOut_25 (by decide) (fun q8 => absurd q8 (nI_ge (a := i) (b := 16) (by omega) (by omega))) (fun _ => ?_)
      refine lv_aload_n hx hb dX0_sendOut_28 rfl (lv_at hl 0 rfl) ?_
      refine k_get (ci := 0) (v := .ref (B 0)) (C := RX0) (T := TX0) (N := 10) hx hb hown hK hw hts hinX0 0 rfl rfl 0 (by decide) hf31 rfl dX0_sendOut_29 ?_
      refine lv_iload_n hx hb dX0_sendOut_32 rfl (lv_at hl 3 rfl) ?_
      refine kc_i (ws' := wC E A (B 0) (l_sendS G s ((p_ou (p_st S (f_put 5 (c_st S) s 1)) (f_put 5 (c_ou (p_st S (f_put 5 (c_st S) s 1))) s 0))) i) ++ wG E B G) (va_runV (As := [.int (nI i)]) (rest := []) ⟨hx, hb, hml, hown, hts⟩ (c_X1_shipWith l E B G (nI i)  _) (cwV 1 hts gX0_sendOut_X1_shipWith rfl rfl rfl ⟨rfl, hd_X1_shipWith⟩ ⟨Nat.le_of_ble_eq_true rfl, Nat.le_of_ble_eq_true rfl⟩) (pwV (ci := 1) (q0 := 7) (C := RX1) hw hK rfl rfl rfl (pwS (AV := [.ref (B 0), .int (nI i)]) hw hK hG [7, 8, 9, 10, 11, 12] rfl rfl)) rfl rfl hl.1 rfl (lv_room (Nat.le_of_ble_eq_true rfl)) dX0_sendOut_33 ⟨Nat.le_of_ble_eq_true rfl, Nat.le_of_ble_eq_true rfl⟩) hw hA [7, 8, 9, 10, 11, 12] rfl rfl rfl rfl (fun H locs hw => ?_)
      refine lv_iload_n hx hb dX0_sendOut_36 rfl (lv_at hl 1 rfl) ?_
      refine lv_icmp_ne (tgt := 51) hx hb dX0_sendOut_37 (by decide) (fun c_1 => ?_) (fun c_1 => ?_)
      · refine lv_iinc (v := nI (i + 1)) (lv' := [(3, .int (nI (i + 1))), (0, .ref (A 0)), (1, .int s), (2, .int (l_sendN G s ((p_ou (p_st S (f_put 5 (c_st S) s 1)) (f_put 5 (c_ou (p_st S (f_put 5 (c_st S) s 1))) s 0))) i))]) hx hb dX0_sendOut_51 hl (k := 3) rfl (nI_add i 1) (by decide) rfl (fun ls hl => ?_)
        refine lv_goto (tgt := 22) hx hb dX0_sendOut_54 (by decide) ?_
        exact ih_22 (i + 1) _ _ _ (by omega) (hw.to (by first | assumption | rfl | (simp only [l_sendS, l_sendN, if_neg c_1, if_true, if_false, Bool.false_eq_true, Bool.true_eq_false, reduceIte, reduceCtorEq]; done) | (simp only [l_sendS, l_sendN, if_neg c_1, if_true, if_false, Bool.false_eq_true, Bool.true_eq_false, reduceIte, reduceCtorEq]; rfl) | (simp [l_sendS, l_sendN, if_neg c_1, if_true, if_false, Bool.false_eq_true, Bool.true_eq_false, reduceIte, reduceCtorEq]; done) | (simp [bI, l_sendS, l_sendN, c_1]; done))) (by rw [show (.int (l_sendN G s ((p_ou (p_st S (f_put 5 (c_st S) s 1)) (f_put 5 (c_ou (p_st S (f_put 5 (c_st S) s 1))) s 0))) (i + 1)) : Value) = .int (l_sendN G s ((p_ou (p_st S (f_put 5 (c_st S) s 1)) (f_put 5 (c_ou (p_st S (f_put 5 (c_st S) s 1))) s 0))) i) from (by first | assumption | rfl | (simp only [l_sendS, l_sendN, if_neg c_1, if_true, if_false, Bool.false_eq_true, Bool.true_eq_false, reduceIte, reduceCtorEq]; done) | (simp only [l_sendS, l_sendN, if_neg c_1, if_true, if_false, Bool.false_eq_true, Bool.true_eq_false, reduceIte, reduceCtorEq]; rfl) | (simp [l_sendS, l_sendN, if_neg c_1, if_true, if_false, Bool.false_eq_true, Bool.true_eq_false, reduceIte, reduceCtorEq]; done) | (simp [bI, l_sendS, l_sendN, c_1]; done))]; exact lv_sub hl [1, 2, 3, 0] rfl)
      · refine lv_aload_n hx hb dX0_sendOut_40 rfl (lv_at hl 0 rfl) ?_
        refine lv_iload_n hx hb dX0_sendOut_41 rfl (lv_at hl 3 rfl) ?_
        refine kc_i (ws' := wC E A (B 0) (f_light (l_sendS G s ((p_ou (p_st S (f_put 5 (c_st S) s 1)) (f_put 5 (c_ou (p_st S (f_put 5 (c_st S) s 1))) s 0))) i) (nI i)) ++ wG E B G) (va_runV (As := [.int (nI i)]) (rest := []) ⟨hx, hb, hml, hown, hts⟩ (c_X0_lightCandle l E A (B 0) (l_sendS G s ((p_ou (p_st S (f_put 5 (c_st S) s 1)) (f_put 5 (c_ou (p_st S (f_put 5 (c_st S) s 1))) s 0))) i) (nI i)  _) (cwV 1 hts gX0_sendOut_X0_lightCandle rfl rfl rfl ⟨rfl, hd_X0_lightCandle⟩ ⟨Nat.le_of_ble_eq_true rfl, Nat.le_of_ble_eq_true rfl⟩) (pwV (ci := 0) (q0 := 0) (C := RX0) hw hK rfl rfl rfl (pwS (AV := [.ref (A 0), .int (nI i)]) hw hK hG [0, 1, 2, 3, 4, 5, 6] rfl rfl)) rfl rfl hl.1 rfl (lv_room (Nat.le_of_ble_eq_true rfl)) dX0_sendOut_42 ⟨Nat.le_of_ble_eq_true rfl, Nat.le_of_ble_eq_true rfl⟩) hw hA [0, 1, 2, 3, 4, 5, 6] rfl rfl rfl rfl (fun H locs hw => ?_)
        refine lv_if_eq (tgt := 51) hx hb dX0_sendOut_45 (by decide) (fun c_2 => ?_) (fun c_2 => ?_)
        · have c_2 := bI_z c_2
          refine lv_iinc (v := nI (i + 1)) (lv' := [(3, .int (nI (i + 1))), (0, .ref (A 0)), (1, .int s), (2, .int (l_sendN G s ((p_ou (p_st S (f_put 5 (c_st S) s 1)) (f_put 5 (c_ou (p_st S (f_put 5 (c_st S) s 1))) s 0))) i))]) hx hb dX0_sendOut_51 hl (k := 3) rfl (nI_add i 1) (by decide) rfl (fun ls hl => ?_)
          refine lv_goto (tgt := 22) hx hb dX0_sendOut_54 (by decide) ?_
          exact ih_22 (i + 1) _ _ _ (by omega) (hw.to (by first | assumption | rfl | (simp only [l_sendS, l_sendN, if_pos c_1, c_2, if_true, if_false, Bool.false_eq_true, Bool.true_eq_false, reduceIte, reduceCtorEq]; done) | (simp only [l_sendS, l_sendN, if_pos c_1, c_2, if_true, if_false, Bool.false_eq_true, Bool.true_eq_false, reduceIte, reduceCtorEq]; rfl) | (simp [l_sendS, l_sendN, if_pos c_1, c_2, if_true, if_false, Bool.false_eq_true, Bool.true_eq_false, reduceIte, reduceCtorEq]; done) | (simp [bI, l_sendS, l_sendN, c_1, c_2]; done))) (by rw [show (.int (l_sendN G s ((p_ou (p_st S (f_put 5 (c_st S) s 1)) (f_put 5 (c_ou (p_st S (f_put 5 (c_st S) s 1))) s 0))) (i + 1)) : Value) = .int (l_sendN G s ((p_ou (p_st S (f_put 5 (c_st S) s 1)) (f_put 5 (c_ou (p_st S (f_put 5 (c_st S) s 1))) s 0))) i) from (by first | assumption | rfl | (simp only [l_sendS, l_sendN, if_pos c_1, c_2, if_true, if_false, Bool.false_eq_true, Bool.true_eq_false, reduceIte, reduceCtorEq]; done) | (simp only [l_sendS, l_sendN, if_pos c_1, c_2, if_true, if_false, Bool.false_eq_true, Bool.true_eq_false, reduceIte, reduceCtorEq]; rfl) | (simp [l_sendS, l_sendN, if_pos c_1, c_2, if_true, if_false, Bool.false_eq_true, Bool.true_eq_false, reduceIte, reduceCtorEq]; done) | (simp [bI, l_sendS, l_sendN, c_1, c_2]; done))]; exact lv_sub hl [1, 2, 3, 0] rfl)
        · have c_2 := bI_nz c_2
          refine lv_iinc (v := (l_sendN G s ((p_ou (p_st S (f_put 5 (c_st S) s 1)) (f_put 5 (c_ou (p_st S (f_put 5 (c_st S) s 1))) s 0))) i) + 1) (lv' := [(2, .int ((l_sendN G s ((p_ou (p_st S (f_put 5 (c_st S) s 1)) (f_put 5 (c_ou (p_st S (f_put 5 (c_st S) s 1))) s 0))) i) + 1)), (0, .ref (A 0)), (1, .int s), (3, .int (nI i))]) hx hb dX0_sendOut_48 hl (k := 2) rfl rfl (by decide) rfl (fun ls hl => ?_)
          refine lv_iinc (v := nI (i + 1)) (lv' := [(3, .int (nI (i + 1))), (2, .int ((l_sendN G s ((p_ou (p_st S (f_put 5 (c_st S) s 1)) (f_put 5 (c_ou (p_st S (f_put 5 (c_st S) s 1))) s 0))) i) + 1)), (0, .ref (A 0)), (1, .int s)]) hx hb dX0_sendOut_51 hl (k := 3) rfl (nI_add i 1) (by decide) rfl (fun ls hl => ?_)
          refine lv_goto (tgt := 22) hx hb dX0_sendOut_54 (by decide) ?_
          exact ih_22 (i + 1) _ _ _ (by omega) (hw.to (by first | assumption | rfl | (simp only [l_sendS, l_sendN, if_pos c_1, c_2, if_true, if_false, Bool.false_eq_true, Bool.true_eq_false, reduceIte, reduceCtorEq]; done) | (simp only [l_sendS, l_sendN, if_pos c_1, c_2, if_true, if_false, Bool.false_eq_true, Bool.true_eq_false, reduceIte, reduceCtorEq]; rfl) | (simp [l_sendS, l_sendN, if_pos c_1, c_2, if_true, if_false, Bool.false_eq_true, Bool.true_eq_false, reduceIte, reduceCtorEq]; done) | (simp [bI, l_sendS, l_sendN, c_1, c_2]; done))) (by rw [show (.int (l_sendN G s ((p_ou (p_st S (f_put 5 (c_st S) s 1)) (f_put 5 (c_ou (p_st S (f_put 5 (c_st S) s 1))) s 0))) (i + 1)) : Value) = .int ((l_sendN G s ((p_ou (p_st S (f_put 5 (c_st S) s 1)) (f_put 5 (c_ou (p_st S (f_put 5 (c_st S) s 1))) s 0))) i) + 1) from (by first | assumption | rfl | (simp only [l_sendS, l_sendN, if_pos c_1, c_2, if_true, if_false, Bool.false_eq_true, Bool.true_eq_false, reduceIte, reduceCtorEq]; done) | (simp only [l_sendS, l_sendN, if_pos c_1, c_2, if_true, if_false, Bool.false_eq_true, Bool.true_eq_false, reduceIte, reduceCtorEq]; rfl) | (simp [l_sendS, l_sendN, if_pos c_1, c_2, if_true, if_false, Bool.false_eq_true, Bool.true_eq_false, reduceIte, reduceCtorEq]; done) | (simp [bI, l_sendS, l_sendN, c_1, c_2]; done))]; exact lv_sub hl [2, 3, 1, 0] rfl)
  exact L_22 (16 - 0) 0 _ _ _ (by omega) hw (lv_sub hl [2, 3, 1, 0] rfl)
abbrev rm_X0_endWaiting : Room := { frames := 1, cells := 0, slots := 0, locals := 22 }
set_option maxHeartbeats 4000000 in
set_option maxRecDepth 100000 in
theorem c_X0_endWaiting (l : Launch) (E : Ev) (A B : Nat → Nat) (S : CS) (G : HS) (s x : Int32) : MV l E yX0_endWaiting wsX0_endWaiting rm_X0_endWaiting [.ref (A 0), .int s, .int x] (wC E A (B 0) S ++ wG E B G) (wC E A (B 0) (f_end G S s x) ++ wG E B G) := by
  refine k_bV (cc := cX0_endWaiting) (maxL := 4) (ret := none) (by decide) rfl (by decide) ?_
  intro p e s m args below meth c A9 ls hC hl hw
  obtain ⟨hx, hb, hml, hr, hown, hts, hlocks, hK, hG, hA⟩ := hC
  have hinX0 : ∀ w ∈ wsX00, w ∈ wsX0_endWaiting := by decide +kernel
  have hinX1 : ∀ w ∈ wsX10, w ∈ wsX0_endWaiting := by decide +kernel
  have hf9 := hts (.fieldLink RX0 9 "SailorCandles$Chapel" "stay" "[I") (by decide +kernel)
  have hf18 := hts (.fieldLink RX0 18 "SailorCandles$Chapel" "rung" "[Z") (by decide +kernel)
  have hf28 := hts (.fieldLink RX0 28 "SailorCandles$Chapel" "sightingAge" "[I") (by decide +kernel)
  have hf31 := hts (.fieldLink RX0 31 "SailorCandles$Chapel" "harbour" "LSailorCandles$Harbour;") (by decide +kernel)
  have hf47 := hts (.fieldLink RX0 47 "SailorCandles$Chapel" "waxLeft" "I") (by decide +kernel)
  have hf22 := hts (.fieldLink RX0 22 "SailorCandles$Chapel" "candle" "[I") (by decide +kernel)
  have hl : lv_has ls 4 [(0, .ref (A 0)), (1, .int s), (2, .int x)] := hl
  refine lv_aload_n hx hb dX0_endWaiting_0 rfl (lv_at hl 0 rfl) ?_
  refine k_get (ci := 0) (v := .ref (A 1)) (C := RX0) (T := TX0) (N := 10) hx hb hown hK hw hts hinX0 0 rfl rfl 1 (by decide) hf9 rfl dX0_endWaiting_1 ?_
  refine lv_iload_n hx hb dX0_endWaiting_4 rfl (lv_at hl 1 rfl) ?_
  refine lv_iload_n hx hb dX0_endWaiting_5 rfl (lv_at hl 2 rfl) ?_
  refine kc_v (ws' := wC E A (B 0) (p_st S (f_put 5 (c_st S) s x)) ++ wG E B G) (va_runSN (As := [.ref (A 1), .int s, .int x]) (rest := []) ⟨hx, hb, hml, hown, hts⟩ (c_X2_put l E (A 1) 5 (c_st S) s x (by decide) _) ⟨va_cnB 3 hts ggX0_endWaiting_X2_put rfl rfl rfl (hG.nw 18 (w := .methodLinkNest RX0 57 yX2_put "SailorCandles") rfl) (hts (.initialized RX2) (by decide +kernel)) hd_X2_put ⟨Nat.le_of_ble_eq_true rfl, Nat.le_of_ble_eq_true rfl⟩, hts (.static yX2_put) (by decide +kernel), trivial⟩ (pwS (AV := [.ref (A 1), .int s, .int x]) hw hK hG [1] rfl rfl) rfl rfl hl.1 rfl (lv_room (Nat.le_of_ble_eq_true rfl)) dX0_endWaiting_6 ⟨Nat.le_of_ble_eq_true rfl, Nat.le_of_ble_eq_true rfl⟩) hw hA [1] rfl rfl rfl rfl (fun H locs hw => ?_)
  refine lv_aload_n hx hb dX0_endWaiting_9 rfl (lv_at hl 0 rfl) ?_
  refine k_get (ci := 0) (v := .ref (A 3)) (C := RX0) (T := TX0) (N := 10) hx hb hown hK hw hts hinX0 0 rfl rfl 3 (by decide) hf18 rfl dX0_endWaiting_10 ?_
  refine lv_iload_n hx hb dX0_endWaiting_13 rfl (lv_at hl 1 rfl) ?_
  refine lv_iconst (v := 0) hx hb dX0_endWaiting_14 (by decide) ?_
  refine kc_v (ws' := wC E A (B 0) (p_ru (p_st S (f_put 5 (c_st S) s x)) (f_mark 5 (c_ru (p_st S (f_put 5 (c_st S) s x))) s false)) ++ wG E B G) (va_runSN (As := [.ref (A 3), .int s, .int 0]) (rest := []) ⟨hx, hb, hml, hown, hts⟩ (c_X2_mark l E (A 3) 5 (c_ru (p_st S (f_put 5 (c_st S) s x))) s false (by decide) _) ⟨va_cnB 3 hts ggX0_endWaiting_X2_mark rfl rfl rfl (hG.nw 20 (w := .methodLinkNest RX0 71 yX2_mark "SailorCandles") rfl) (hts (.initialized RX2) (by decide +kernel)) hd_X2_mark ⟨Nat.le_of_ble_eq_true rfl, Nat.le_of_ble_eq_true rfl⟩, hts (.static yX2_mark) (by decide +kernel), trivial⟩ (pwS (AV := [.ref (A 3), .int s, .int 0]) hw hK hG [3] rfl rfl) rfl rfl hl.1 rfl (lv_room (Nat.le_of_ble_eq_true rfl)) dX0_endWaiting_15 ⟨Nat.le_of_ble_eq_true rfl, Nat.le_of_ble_eq_true rfl⟩) hw hA [3] rfl rfl rfl rfl (fun H locs hw => ?_)
  refine lv_iconst (v := 0) hx hb dX0_endWaiting_18 (by decide) ?_
  refine lv_istore_n (lv' := [(3, .int 0), (0, .ref (A 0)), (1, .int s), (2, .int x)]) hx hb dX0_endWaiting_19 rfl hl (by decide) rfl (fun ls hl => ?_)
  have L_20 : ∀ (n i : Nat) (H : Heap) (locs : List Loc) (ls : Array Slot), i + n = 4 → Wd E A9 s.heap (wC E A (B 0) (p_ag ((p_ru (p_st S (f_put 5 (c_st S) s x)) (f_mark 5 (c_ru (p_st S (f_put 5 (c_st S) s x))) s false))) (l_endA s (c_ag S) i)) ++ wG E B G) H locs → lv_has ls 4 [(0, .ref (A 0)), (1, .int s), (3, .int (nI i))] → W p l e rm_X0_endWaiting s m args below meth c H locs 0 0 (EndV E A9 (wC E A (B 0) (f_end G S s x) ++ wG E B G) below args s (rm_X0_endWaiting).cells (rm_X0_endWaiting).slots) (F0 m 20 ls []) := by
    intro n
    induction n with
    | zero =>
      intro i H locs ls hi hw hl
      have hi9 : 4 = i := by omega
      subst hi9
      refine lv_iload_n hx hb dX0_endWaiting_20 rfl (lv_at hl 2 rfl) ?_
      refine lv_iconst (v := 4) hx hb dX0_endWaiting_21 (by decide) ?_
      refine lv_icmp_ge (tgt := 44) hx hb dX0_endWaiting_22 (by decide) (fun _ => ?_) (fun q8 => absurd (by rw [hi9]; exact Int32.le_refl _) q8)
      refine lv_iconst (v := 0) hx hb dX0_endWaiting_44 (by decide) ?_
      refine lv_istore_n (lv' := [(3, .int 0), (0, .ref (A 0)), (1, .int s)]) hx hb dX0_endWaiting_45 rfl hl (by decide) rfl (fun ls hl => ?_)
      have L_46 : ∀ (n i : Nat) (H : Heap) (locs : List Loc) (ls : Array Slot), i + n = 16 → Wd E A9 s.heap (wC E A (B 0) (l_endC G s ((p_ag ((p_ru (p_st S (f_put 5 (c_st S) s x)) (f_mark 5 (c_ru (p_st S (f_put 5 (c_st S) s x))) s false))) (l_endA s (c_ag S) 4))) i) ++ wG E B G) H locs → lv_has ls 4 [(0, .ref (A 0)), (1, .int s), (3, .int (nI i))] → W p l e rm_X0_endWaiting s m args below meth c H locs 0 0 (EndV E A9 (wC E A (B 0) (f_end G S s x) ++ wG E B G) below args s (rm_X0_endWaiting).cells (rm_X0_endWaiting).slots) (F0 m 46 ls []) := by
        intro n
        induction n with
        | zero =>
          intro i H locs ls hi hw hl
          have hi9 : 16 = i := by omega
          subst hi9
          refine lv_iload_n hx hb dX0_endWaiting_46 rfl (lv_at hl 2 rfl) ?_
          refine lv_bipush (v := 16) hx hb dX0_endWaiting_47 (by decide) ?_
          refine lv_icmp_ge (tgt := 96) hx hb dX0_endWaiting_49 (by decide) (fun _ => ?_) (fun q8 => absurd (by rw [hi9]; exact Int32.le_refl _) q8)
          exact k_vret hx hb hr hlocks hK hw dX0_endWaiting_96 rfl
        | succ n ih_46 =>
          intro i H locs ls hi hw hl
          have hi9 : i < 16 := by omega
          refine lv_iload_n hx hb dX0_endWaiting_46 rfl (lv_at hl 2 rfl) ?_
          refine lv_bipush (v := 16) hx hb dX0_endWaiting_47 (by decide) ?_
          refine lv_icmp_ge (tgt := 96) hx hb dX0_endWaiting_49 (by decide) (fun q8 => absurd q8 (nI_ge (a := i) (b := 16) (by omega) (by omega))) (fun _ => ?_)
          refine lv_aload_n hx hb dX0_endWaiting_52 rfl (lv_at hl 0 rfl) ?_
          refine k_get (ci := 0) (v := .ref (B 0)) (C := RX0) (T := TX0) (N := 10) hx hb hown hK hw hts hinX0 0 rfl rfl 0 (by decide) hf31 rfl dX0_endWaiting_53 ?_
          refine lv_iload_n hx hb dX0_endWaiting_56 rfl (lv_at hl 2 rfl) ?_
          refine kc_i (ws' := wC E A (B 0) (l_endC G s ((p_ag ((p_ru (p_st S (f_put 5 (c_st S) s x)) (f_mark 5 (c_ru (p_st S (f_put 5 (c_st S) s x))) s false))) (l_endA s (c_ag S) 4))) i) ++ wG E B G) (va_runV (As := [.int (nI i)]) (rest := []) ⟨hx, hb, hml, hown, hts⟩ (c_X1_shipWith l E B G (nI i)  _) (cwV 1 hts gX0_endWaiting_X1_shipWith rfl rfl rfl ⟨rfl, hd_X1_shipWith⟩ ⟨Nat.le_of_ble_eq_true rfl, Nat.le_of_ble_eq_true rfl⟩) (pwV (ci := 1) (q0 := 7) (C := RX1) hw hK rfl rfl rfl (pwS (AV := [.ref (B 0), .int (nI i)]) hw hK hG [7, 8, 9, 10, 11, 12] rfl rfl)) rfl rfl hl.1 rfl (lv_room (Nat.le_of_ble_eq_true rfl)) dX0_endWaiting_57 ⟨Nat.le_of_ble_eq_true rfl, Nat.le_of_ble_eq_true rfl⟩) hw hA [7, 8, 9, 10, 11, 12] rfl rfl rfl rfl (fun H locs hw => ?_)
          refine lv_iload_n hx hb dX0_endWaiting_60 rfl (lv_at hl 1 rfl) ?_
          refine lv_icmp_ne (tgt := 90) hx hb dX0_endWaiting_61 (by decide) (fun c_1 => ?_) (fun c_1 => ?_)
          · refine lv_iinc (v := nI (i + 1)) (lv' := [(3, .int (nI (i + 1))), (0, .ref (A 0)), (1, .int s)]) hx hb dX0_endWaiting_90 hl (k := 2) rfl (nI_add i 1) (by decide) rfl (fun ls hl => ?_)
            refine lv_goto (tgt := 46) hx hb dX0_endWaiting_93 (by decide) ?_
            exact ih_46 (i + 1) _ _ _ (by omega) (hw.to (by first | assumption | rfl | (simp only [l_endA, l_endC, if_neg c_1, if_true, if_false, Bool.false_eq_true, Bool.true_eq_false, reduceIte, reduceCtorEq]; done) | (simp only [l_endA, l_endC, if_neg c_1, if_true, if_false, Bool.false_eq_true, Bool.true_eq_false, reduceIte, reduceCtorEq]; rfl) | (simp [l_endA, l_endC, if_neg c_1, if_true, if_false, Bool.false_eq_true, Bool.true_eq_false, reduceIte, reduceCtorEq]; done) | (simp [bI, l_endA, l_endC, c_1]; done))) (lv_sub hl [1, 2, 0] rfl)
          · refine lv_aload_n hx hb dX0_endWaiting_64 rfl (lv_at hl 0 rfl) ?_
            refine lv_dup hx hb dX0_endWaiting_65 rfl ?_
            refine k_get (ci := 0) (v := .int (c_wa (l_endC G s ((p_ag ((p_ru (p_st S (f_put 5 (c_st S) s x)) (f_mark 5 (c_ru (p_st S (f_put 5 (c_st S) s x))) s false))) (l_endA s (c_ag S) 4))) i))) (C := RX0) (T := TX0) (N := 10) hx hb hown hK hw hts hinX0 0 rfl rfl 8 (by decide) hf47 rfl dX0_endWaiting_66 ?_
            refine lv_aload_n hx hb dX0_endWaiting_69 rfl (lv_at hl 0 rfl) ?_
            refine k_get (ci := 0) (v := .ref (A 4)) (C := RX0) (T := TX0) (N := 10) hx hb hown hK hw hts hinX0 0 rfl rfl 4 (by decide) hf22 rfl dX0_endWaiting_70 ?_
            refine lv_iload_n hx hb dX0_endWaiting_73 rfl (lv_at hl 2 rfl) ?_
            refine kc_i (ws' := wC E A (B 0) (l_endC G s ((p_ag ((p_ru (p_st S (f_put 5 (c_st S) s x)) (f_mark 5 (c_ru (p_st S (f_put 5 (c_st S) s x))) s false))) (l_endA s (c_ag S) 4))) i) ++ wG E B G) (va_runSN (As := [.ref (A 4), .int (nI i)]) (rest := [.int (c_wa (l_endC G s ((p_ag ((p_ru (p_st S (f_put 5 (c_st S) s x)) (f_mark 5 (c_ru (p_st S (f_put 5 (c_st S) s x))) s false))) (l_endA s (c_ag S) 4))) i)), .ref (A 0)]) ⟨hx, hb, hml, hown, hts⟩ (c_X2_at l E (A 4) 16 (c_ca (l_endC G s ((p_ag ((p_ru (p_st S (f_put 5 (c_st S) s x)) (f_mark 5 (c_ru (p_st S (f_put 5 (c_st S) s x))) s false))) (l_endA s (c_ag S) 4))) i)) (nI i) (by decide) _) ⟨va_cnB 2 hts ggX0_endWaiting_X2_at rfl rfl rfl (hG.nw 15 (w := .methodLinkNest RX0 53 yX2_at "SailorCandles") rfl) (hts (.initialized RX2) (by decide +kernel)) hd_X2_at ⟨Nat.le_of_ble_eq_true rfl, Nat.le_of_ble_eq_true rfl⟩, hts (.static yX2_at) (by decide +kernel), trivial⟩ (pwS (AV := [.ref (A 4), .int (nI i)]) hw hK hG [4] rfl rfl) rfl rfl hl.1 rfl (lv_room (Nat.le_of_ble_eq_true rfl)) dX0_endWaiting_74 ⟨Nat.le_of_ble_eq_true rfl, Nat.le_of_ble_eq_true rfl⟩) hw hA [4] rfl rfl rfl rfl (fun H locs hw => ?_)
            refine lv_iadd hx hb dX0_endWaiting_77 ?_
            refine k_put (ci := 0) (C := RX0) (T := TX0) (N := 10) (ws' := wC E A (B 0) (p_wa (l_endC G s ((p_ag ((p_ru (p_st S (f_put 5 (c_st S) s x)) (f_mark 5 (c_ru (p_st S (f_put 5 (c_st S) s x))) s false))) (l_endA s (c_ag S) 4))) i) ((c_wa (l_endC G s ((p_ag ((p_ru (p_st S (f_put 5 (c_st S) s x)) (f_mark 5 (c_ru (p_st S (f_put 5 (c_st S) s x))) s false))) (l_endA s (c_ag S) 4))) i)) + (f_at 16 (c_ca (l_endC G s ((p_ag ((p_ru (p_st S (f_put 5 (c_st S) s x)) (f_mark 5 (c_ru (p_st S (f_put 5 (c_st S) s x))) s false))) (l_endA s (c_ag S) 4))) i)) (nI i)))) ++ wG E B G) hx hb hown hK hw hts hinX0 tyX0 tyX0_ok nmX0 0 rfl rfl 8 (by decide) hf47 rfl rfl (by decide) dX0_endWaiting_78 rfl (fun H locs hw => ?_)
            refine lv_aload_n hx hb dX0_endWaiting_81 rfl (lv_at hl 0 rfl) ?_
            refine k_get (ci := 0) (v := .ref (A 4)) (C := RX0) (T := TX0) (N := 10) hx hb hown hK hw hts hinX0 0 rfl rfl 4 (by decide) hf22 rfl dX0_endWaiting_82 ?_
            refine lv_iload_n hx hb dX0_endWaiting_85 rfl (lv_at hl 2 rfl) ?_
            refine lv_iconst (v := 0) hx hb dX0_endWaiting_86 (by decide) ?_
            refine kc_v (ws' := wC E A (B 0) (p_ca (p_wa (l_endC G s ((p_ag ((p_ru (p_st S (f_put 5 (c_st S) s x)) (f_mark 5 (c_ru (p_st S (f_put 5 (c_st S) s x))) s false))) (l_endA s (c_ag S) 4))) i) ((c_wa (l_endC G s ((p_ag ((p_ru (p_st S (f_put 5 (c_st S) s x)) (f_mark 5 (c_ru (p_st S (f_put 5 (c_st S) s x))) s false))) (l_endA s (c_ag S) 4))) i)) + (f_at 16 (c_ca (l_endC G s ((p_ag ((p_ru (p_st S (f_put 5 (c_st S) s x)) (f_mark 5 (c_ru (p_st S (f_put 5 (c_st S) s x))) s false))) (l_endA s (c_ag S) 4))) i)) (nI i)))) (f_put 16 (c_ca (p_wa (l_endC G s ((p_ag ((p_ru (p_st S (f_put 5 (c_st S) s x)) (f_mark 5 (c_ru (p_st S (f_put 5 (c_st S) s x))) s false))) (l_endA s (c_ag S) 4))) i) ((c_wa (l_endC G s ((p_ag ((p_ru (p_st S (f_put 5 (c_st S) s x)) (f_mark 5 (c_ru (p_st S (f_put 5 (c_st S) s x))) s false))) (l_endA s (c_ag S) 4))) i)) + (f_at 16 (c_ca (l_endC G s ((p_ag ((p_ru (p_st S (f_put 5 (c_st S) s x)) (f_mark 5 (c_ru (p_st S (f_put 5 (c_st S) s x))) s false))) (l_endA s (c_ag S) 4))) i)) (nI i))))) (nI i) 0)) ++ wG E B G) (va_runSN (As := [.ref (A 4), .int (nI i), .int 0]) (rest := []) ⟨hx, hb, hml, hown, hts⟩ (c_X2_put l E (A 4) 16 (c_ca (p_wa (l_endC G s ((p_ag ((p_ru (p_st S (f_put 5 (c_st S) s x)) (f_mark 5 (c_ru (p_st S (f_put 5 (c_st S) s x))) s false))) (l_endA s (c_ag S) 4))) i) ((c_wa (l_endC G s ((p_ag ((p_ru (p_st S (f_put 5 (c_st S) s x)) (f_mark 5 (c_ru (p_st S (f_put 5 (c_st S) s x))) s false))) (l_endA s (c_ag S) 4))) i)) + (f_at 16 (c_ca (l_endC G s ((p_ag ((p_ru (p_st S (f_put 5 (c_st S) s x)) (f_mark 5 (c_ru (p_st S (f_put 5 (c_st S) s x))) s false))) (l_endA s (c_ag S) 4))) i)) (nI i))))) (nI i) 0 (by decide) _) ⟨va_cnB 3 hts ggX0_endWaiting_X2_put rfl rfl rfl (hG.nw 18 (w := .methodLinkNest RX0 57 yX2_put "SailorCandles") rfl) (hts (.initialized RX2) (by decide +kernel)) hd_X2_put ⟨Nat.le_of_ble_eq_true rfl, Nat.le_of_ble_eq_true rfl⟩, hts (.static yX2_put) (by decide +kernel), trivial⟩ (pwS (AV := [.ref (A 4), .int (nI i), .int 0]) hw hK hG [4] rfl rfl) rfl rfl hl.1 rfl (lv_room (Nat.le_of_ble_eq_true rfl)) dX0_endWaiting_87 ⟨Nat.le_of_ble_eq_true rfl, Nat.le_of_ble_eq_true rfl⟩) hw hA [4] rfl rfl rfl rfl (fun H locs hw => ?_)
            refine lv_iinc (v := nI (i + 1)) (lv' := [(3, .int (nI (i + 1))), (0, .ref (A 0)), (1, .int s)]) hx hb dX0_endWaiting_90 hl (k := 2) rfl (nI_add i 1) (by decide) rfl (fun ls hl => ?_)
            refine lv_goto (tgt := 46) hx hb dX0_endWaiting_93 (by decide) ?_
            exact ih_46 (i + 1) _ _ _ (by omega) (hw.to (by first | assumption | rfl | (simp only [l_endA, l_endC, if_pos c_1, if_true, if_false, Bool.false_eq_true, Bool.true_eq_false, reduceIte, reduceCtorEq]; done) | (simp only [l_endA, l_endC, if_pos c_1, if_true, if_false, Bool.false_eq_true, Bool.true_eq_false, reduceIte, reduceCtorEq]; rfl) | (simp [l_endA, l_endC, if_pos c_1, if_true, if_false, Bool.false_eq_true, Bool.true_eq_false, reduceIte, reduceCtorEq]; done) | (simp [bI, l_endA, l_endC, c_1]; done))) (lv_sub hl [1, 2, 0] rfl)
      exact L_46 (16 - 0) 0 _ _ _ (by omega) hw (lv_sub hl [1, 2, 0] rfl)
    | succ n ih_20 =>
      intro i H locs ls hi hw hl
      have hi9 : i < 4 := by omega
      refine lv_iload_n hx hb dX0_endWaiting_20 rfl (lv_at hl 2 rfl) ?_
      refine lv_iconst (v := 4) hx hb dX0_endWaiting_21 (by decide) ?_
      refine lv_icmp_ge (tgt := 44) hx hb dX0_endWaiting_22 (by decide) (fun q8 => absurd q8 (nI_ge (a := i) (b := 4) (by omega) (by omega))) (fun _ => ?_)
      refine lv_aload_n hx hb dX0_endWaiting_25 rfl (lv_at hl 0 rfl) ?_
      refine k_get (ci := 0) (v := .ref (A 6)) (C := RX0) (T := TX0) (N := 10) hx hb hown hK hw hts hinX0 0 rfl rfl 6 (by decide) hf28 rfl dX0_endWaiting_26 ?_
      refine lv_iload_n hx hb dX0_endWaiting_29 rfl (lv_at hl 2 rfl) ?_
      refine lv_iload_n hx hb dX0_endWaiting_30 rfl (lv_at hl 1 rfl) ?_
      refine kc_i (ws' := wC E A (B 0) (p_ag ((p_ru (p_st S (f_put 5 (c_st S) s x)) (f_mark 5 (c_ru (p_st S (f_put 5 (c_st S) s x))) s false))) (l_endA s (c_ag S) i)) ++ wG E B G) (va_runS (As := [.int (nI i), .int s]) (rest := [.ref (A 6)]) ⟨hx, hb, hml, hown, hts⟩ (c_X0_placeOf l E (nI i) s  _) (va_cwS 2 hts gX0_endWaiting_X0_placeOf rfl rfl rfl hd_X0_placeOf ⟨Nat.le_of_ble_eq_true rfl, Nat.le_of_ble_eq_true rfl⟩) (pwS (AV := [.int (nI i), .int s]) hw hK hG [] rfl rfl) rfl rfl hl.1 rfl (lv_room (Nat.le_of_ble_eq_true rfl)) dX0_endWaiting_31 ⟨Nat.le_of_ble_eq_true rfl, Nat.le_of_ble_eq_true rfl⟩) hw hA [] rfl rfl rfl rfl (fun H locs hw => ?_)
      refine lv_iconst (v := (-1)) hx hb dX0_endWaiting_34 (by decide) ?_
      refine kc_v (ws' := wC E A (B 0) (p_ag (p_ag ((p_ru (p_st S (f_put 5 (c_st S) s x)) (f_mark 5 (c_ru (p_st S (f_put 5 (c_st S) s x))) s false))) (l_endA s (c_ag S) i)) (f_put 20 (c_ag (p_ag ((p_ru (p_st S (f_put 5 (c_st S) s x)) (f_mark 5 (c_ru (p_st S (f_put 5 (c_st S) s x))) s false))) (l_endA s (c_ag S) i))) (f_place (nI i) s) (-1))) ++ wG E B G) (va_runSN (As := [.ref (A 6), .int (f_place (nI i) s), .int (-1)]) (rest := []) ⟨hx, hb, hml, hown, hts⟩ (c_X2_put l E (A 6) 20 (c_ag (p_ag ((p_ru (p_st S (f_put 5 (c_st S) s x)) (f_mark 5 (c_ru (p_st S (f_put 5 (c_st S) s x))) s false))) (l_endA s (c_ag S) i))) (f_place (nI i) s) (-1) (by decide) _) ⟨va_cnB 3 hts ggX0_endWaiting_X2_put rfl rfl rfl (hG.nw 18 (w := .methodLinkNest RX0 57 yX2_put "SailorCandles") rfl) (hts (.initialized RX2) (by decide +kernel)) hd_X2_put ⟨Nat.le_of_ble_eq_true rfl, Nat.le_of_ble_eq_true rfl⟩, hts (.static yX2_put) (by decide +kernel), trivial⟩ (pwS (AV := [.ref (A 6), .int (f_place (nI i) s), .int (-1)]) hw hK hG [6] rfl rfl) rfl rfl hl.1 rfl (lv_room (Nat.le_of_ble_eq_true rfl)) dX0_endWaiting_35 ⟨Nat.le_of_ble_eq_true rfl, Nat.le_of_ble_eq_true rfl⟩) hw hA [6] rfl rfl rfl rfl (fun H locs hw => ?_)
      refine lv_iinc (v := nI (i + 1)) (lv' := [(3, .int (nI (i + 1))), (0, .ref (A 0)), (1, .int s)]) hx hb dX0_endWaiting_38 hl (k := 2) rfl (nI_add i 1) (by decide) rfl (fun ls hl => ?_)
      refine lv_goto (tgt := 20) hx hb dX0_endWaiting_41 (by decide) ?_
      exact ih_20 (i + 1) _ _ _ (by omega) (hw.to (by first | assumption | rfl | (simp only [l_endA, l_endC, if_true, if_false, Bool.false_eq_true, Bool.true_eq_false, reduceIte, reduceCtorEq]; done) | (simp only [l_endA, l_endC, if_true, if_false, Bool.false_eq_true, Bool.true_eq_false, reduceIte, reduceCtorEq]; rfl) | (simp [l_endA, l_endC, if_true, if_false, Bool.false_eq_true, Bool.true_eq_false, reduceIte, reduceCtorEq]; done) | (simp [bI, l_endA, l_endC]; done))) (lv_sub hl [1, 2, 0] rfl)
  exact L_20 (4 - 0) 0 _ _ _ (by omega) hw (lv_sub hl [1, 2, 0] rfl)
abbrev rm_X0_lostSailors : Room := { frames := 2, cells := 0, slots := 0, locals := 42 }
set_option maxHeartbeats 4000000 in
set_option maxRecDepth 100000 in
theorem c_X0_lostSailors (l : Launch) (E : Ev) (A B : Nat → Nat) (S : CS) (G : HS) : MI l E yX0_lostSailors wsX0_lostSailors rm_X0_lostSailors [.ref (A 0)] (wC E A (B 0) S ++ wG E B G) (l_lost G S 16) (wC E A (B 0) S ++ wG E B G) := by
  refine k_bI (cc := cX0_lostSailors) (maxL := 3) (ret := (some .int)) (by decide) rfl (by decide) ?_
  intro p e s m args below meth c A9 ls hC hl hw
  obtain ⟨hx, hb, hml, hr, hown, hts, hlocks, hK, hG, hA⟩ := hC
  have hinX0 : ∀ w ∈ wsX00, w ∈ wsX0_lostSailors := by decide +kernel
  have hinX1 : ∀ w ∈ wsX10, w ∈ wsX0_lostSailors := by decide +kernel
  have hf31 := hts (.fieldLink RX0 31 "SailorCandles$Chapel" "harbour" "LSailorCandles$Harbour;") (by decide +kernel)
  have hl : lv_has ls 3 [(0, .ref (A 0))] := hl
  refine lv_iconst (v := 0) hx hb dX0_lostSailors_0 (by decide) ?_
  refine lv_istore_n (lv' := [(1, .int 0), (0, .ref (A 0))]) hx hb dX0_lostSailors_1 rfl hl (by decide) rfl (fun ls hl => ?_)
  refine lv_iconst (v := 0) hx hb dX0_lostSailors_2 (by decide) ?_
  refine lv_istore_n (lv' := [(2, .int 0), (1, .int 0), (0, .ref (A 0))]) hx hb dX0_lostSailors_3 rfl hl (by decide) rfl (fun ls hl => ?_)
  have L_4 : ∀ (n i : Nat) (H : Heap) (locs : List Loc) (ls : Array Slot), i + n = 16 → Wd E A9 s.heap (wC E A (B 0) S ++ wG E B G) H locs → lv_has ls 3 [(0, .ref (A 0)), (1, .int (l_lost G S i)), (2, .int (nI i))] → W p l e rm_X0_lostSailors s m args below meth c H locs 0 0 (EndI E A9 (l_lost G S 16) (wC E A (B 0) S ++ wG E B G) below args s (rm_X0_lostSailors).cells (rm_X0_lostSailors).slots) (F0 m 4 ls []) := by
    intro n
    induction n with
    | zero =>
      intro i H locs ls hi hw hl
      have hi9 : 16 = i := by omega
      subst hi9
      refine lv_iload_n hx hb dX0_lostSailors_4 rfl (lv_at hl 2 rfl) ?_
      refine lv_bipush (v := 16) hx hb dX0_lostSailors_5 (by decide) ?_
      refine lv_icmp_ge (tgt := 35) hx hb dX0_lostSailors_7 (by decide) (fun _ => ?_) (fun q8 => absurd (by rw [hi9]; exact Int32.le_refl _) q8)
      refine lv_iload_n hx hb dX0_lostSailors_35 rfl (lv_at hl 1 rfl) ?_
      exact k_iret hx hb hr hlocks hK hw rfl dX0_lostSailors_36 rfl rfl
    | succ n ih_4 =>
      intro i H locs ls hi hw hl
      have hi9 : i < 16 := by omega
      refine lv_iload_n hx hb dX0_lostSailors_4 rfl (lv_at hl 2 rfl) ?_
      refine lv_bipush (v := 16) hx hb dX0_lostSailors_5 (by decide) ?_
      refine lv_icmp_ge (tgt := 35) hx hb dX0_lostSailors_7 (by decide) (fun q8 => absurd q8 (nI_ge (a := i) (b := 16) (by omega) (by omega))) (fun _ => ?_)
      refine lv_aload_n hx hb dX0_lostSailors_10 rfl (lv_at hl 0 rfl) ?_
      refine lv_aload_n hx hb dX0_lostSailors_11 rfl (lv_at hl 0 rfl) ?_
      refine k_get (ci := 0) (v := .ref (B 0)) (C := RX0) (T := TX0) (N := 10) hx hb hown hK hw hts hinX0 0 rfl rfl 0 (by decide) hf31 rfl dX0_lostSailors_12 ?_
      refine lv_iload_n hx hb dX0_lostSailors_15 rfl (lv_at hl 2 rfl) ?_
      refine kc_i (ws' := wC E A (B 0) S ++ wG E B G) (va_runV (As := [.int (nI i)]) (rest := [.ref (A 0)]) ⟨hx, hb, hml, hown, hts⟩ (c_X1_shipWith l E B G (nI i)  _) (cwV 1 hts gX0_lostSailors_X1_shipWith rfl rfl rfl ⟨rfl, hd_X1_shipWith⟩ ⟨Nat.le_of_ble_eq_true rfl, Nat.le_of_ble_eq_true rfl⟩) (pwV (ci := 1) (q0 := 7) (C := RX1) hw hK rfl rfl rfl (pwS (AV := [.ref (B 0), .int (nI i)]) hw hK hG [7, 8, 9, 10, 11, 12] rfl rfl)) rfl rfl hl.1 rfl (lv_room (Nat.le_of_ble_eq_true rfl)) dX0_lostSailors_16 ⟨Nat.le_of_ble_eq_true rfl, Nat.le_of_ble_eq_true rfl⟩) hw hA [7, 8, 9, 10, 11, 12] rfl rfl rfl rfl (fun H locs hw => ?_)
      refine kc_i (ws' := wC E A (B 0) S ++ wG E B G) (va_runV (As := [.int (f_ship G (nI i))]) (rest := []) ⟨hx, hb, hml, hown, hts⟩ (c_X0_stayOf l E A (B 0) S (f_ship G (nI i))  _) (cwV 1 hts gX0_lostSailors_X0_stayOf rfl rfl rfl ⟨rfl, hd_X0_stayOf⟩ ⟨Nat.le_of_ble_eq_true rfl, Nat.le_of_ble_eq_true rfl⟩) (pwV (ci := 0) (q0 := 0) (C := RX0) hw hK rfl rfl rfl (pwS (AV := [.ref (A 0), .int (f_ship G (nI i))]) hw hK hG [0, 1, 2, 3, 4, 5, 6] rfl rfl)) rfl rfl hl.1 rfl (lv_room (Nat.le_of_ble_eq_true rfl)) dX0_lostSailors_19 ⟨Nat.le_of_ble_eq_true rfl, Nat.le_of_ble_eq_true rfl⟩) hw hA [0, 1, 2, 3, 4, 5, 6] rfl rfl rfl rfl (fun H locs hw => ?_)
      refine lv_iconst (v := 2) hx hb dX0_lostSailors_22 (by decide) ?_
      refine lv_icmp_ne (tgt := 29) hx hb dX0_lostSailors_23 (by decide) (fun c_1 => ?_) (fun c_1 => ?_)
      · refine lv_iinc (v := nI (i + 1)) (lv' := [(2, .int (nI (i + 1))), (0, .ref (A 0)), (1, .int (l_lost G S i))]) hx hb dX0_lostSailors_29 hl (k := 2) rfl (nI_add i 1) (by decide) rfl (fun ls hl => ?_)
        refine lv_goto (tgt := 4) hx hb dX0_lostSailors_32 (by decide) ?_
        exact ih_4 (i + 1) _ _ _ (by omega) hw (by rw [show (.int (l_lost G S (i + 1)) : Value) = .int (l_lost G S i) from (by first | assumption | rfl | (simp only [l_lost, if_neg c_1, if_true, if_false, Bool.false_eq_true, Bool.true_eq_false, reduceIte, reduceCtorEq]; done) | (simp only [l_lost, if_neg c_1, if_true, if_false, Bool.false_eq_true, Bool.true_eq_false, reduceIte, reduceCtorEq]; rfl) | (simp [l_lost, if_neg c_1, if_true, if_false, Bool.false_eq_true, Bool.true_eq_false, reduceIte, reduceCtorEq]; done) | (simp [bI, l_lost, c_1]; done))]; exact lv_sub hl [1, 2, 0] rfl)
      · refine lv_iinc (v := (l_lost G S i) + 1) (lv' := [(1, .int ((l_lost G S i) + 1)), (0, .ref (A 0)), (2, .int (nI i))]) hx hb dX0_lostSailors_26 hl (k := 1) rfl rfl (by decide) rfl (fun ls hl => ?_)
        refine lv_iinc (v := nI (i + 1)) (lv' := [(2, .int (nI (i + 1))), (1, .int ((l_lost G S i) + 1)), (0, .ref (A 0))]) hx hb dX0_lostSailors_29 hl (k := 2) rfl (nI_add i 1) (by decide) rfl (fun ls hl => ?_)
        refine lv_goto (tgt := 4) hx hb dX0_lostSailors_32 (by decide) ?_
        exact ih_4 (i + 1) _ _ _ (by omega) hw (by rw [show (.int (l_lost G S (i + 1)) : Value) = .int ((l_lost G S i) + 1) from (by first | assumption | rfl | (simp only [l_lost, if_pos c_1, if_true, if_false, Bool.false_eq_true, Bool.true_eq_false, reduceIte, reduceCtorEq]; done) | (simp only [l_lost, if_pos c_1, if_true, if_false, Bool.false_eq_true, Bool.true_eq_false, reduceIte, reduceCtorEq]; rfl) | (simp [l_lost, if_pos c_1, if_true, if_false, Bool.false_eq_true, Bool.true_eq_false, reduceIte, reduceCtorEq]; done) | (simp [bI, l_lost, c_1]; done))]; exact lv_sub hl [2, 1, 0] rfl)
  exact L_4 (16 - 0) 0 _ _ _ (by omega) hw (lv_sub hl [2, 1, 0] rfl)
abbrev rm_X0_hasSighting : Room := { frames := 1, cells := 0, slots := 0, locals := 21 }
set_option maxHeartbeats 4000000 in
set_option maxRecDepth 100000 in
theorem c_X0_hasSighting (l : Launch) (E : Ev) (A : Nat → Nat) (hb : Nat) (S : CS) (w s : Int32) : MI l E yX0_hasSighting wsX0_hasSighting rm_X0_hasSighting [.ref (A 0), .int w, .int s] (wC E A hb S) (bI (f_hasS S w s)) (wC E A hb S) := by
  refine k_bI (cc := cX0_hasSighting) (maxL := 4) (ret := (some .boolean)) (by decide) rfl (by decide) ?_
  intro p e s m args below meth c A9 ls hC hl hw
  obtain ⟨hx, hb, hml, hr, hown, hts, hlocks, hK, hG, hA⟩ := hC
  have hinX0 : ∀ w ∈ wsX00, w ∈ wsX0_hasSighting := by decide +kernel
  have hf28 := hts (.fieldLink RX0 28 "SailorCandles$Chapel" "sightingAge" "[I") (by decide +kernel)
  have hl : lv_has ls 4 [(0, .ref (A 0)), (1, .int w), (2, .int s)] := hl
  refine lv_iload_n hx hb dX0_hasSighting_0 rfl (lv_at hl 1 rfl) ?_
  refine lv_iload_n hx hb dX0_hasSighting_1 rfl (lv_at hl 2 rfl) ?_
  refine kc_i (ws' := wC E A hb S) (va_runS (As := [.int w, .int s]) (rest := []) ⟨hx, hb, hml, hown, hts⟩ (c_X0_placeOf l E w s  _) (va_cwS 2 hts gX0_hasSighting_X0_placeOf rfl rfl rfl hd_X0_placeOf ⟨Nat.le_of_ble_eq_true rfl, Nat.le_of_ble_eq_true rfl⟩) (pwS (AV := [.int w, .int s]) hw hK hG [] rfl rfl) rfl rfl hl.1 rfl (lv_room (Nat.le_of_ble_eq_true rfl)) dX0_hasSighting_2 ⟨Nat.le_of_ble_eq_true rfl, Nat.le_of_ble_eq_true rfl⟩) hw hA [] rfl rfl rfl rfl (fun H locs hw => ?_)
  refine lv_istore_n (lv' := [(3, .int (f_place w s)), (0, .ref (A 0)), (1, .int w), (2, .int s)]) hx hb dX0_hasSighting_5 rfl hl (by decide) rfl (fun ls hl => ?_)
  refine lv_iload_n hx hb dX0_hasSighting_6 rfl (lv_at hl 0 rfl) ?_
  refine lv_if_lt (tgt := 33) hx hb dX0_hasSighting_7 (by decide) (fun c_1 => ?_) (fun c_1 => ?_)
  · refine lv_iconst (v := 0) hx hb dX0_hasSighting_33 (by decide) ?_
    exact k_iret hx hb hr hlocks hK hw rfl dX0_hasSighting_34 (by first | assumption | rfl | (simp only [f_hasS, bI_t, bI_f, if_pos c_1, if_true, if_false, Bool.false_eq_true, Bool.true_eq_false, reduceIte, reduceCtorEq]; done) | (simp only [f_hasS, bI_t, bI_f, if_pos c_1, if_true, if_false, Bool.false_eq_true, Bool.true_eq_false, reduceIte, reduceCtorEq]; rfl) | (simp [f_hasS, bI_t, bI_f, if_pos c_1, if_true, if_false, Bool.false_eq_true, Bool.true_eq_false, reduceIte, reduceCtorEq]; done) | (simp [bI, f_hasS, bI_t, bI_f, c_1]; done)) rfl
  · refine lv_iload_n hx hb dX0_hasSighting_10 rfl (lv_at hl 0 rfl) ?_
    refine lv_aload_n hx hb dX0_hasSighting_11 rfl (lv_at hl 1 rfl) ?_
    refine k_get (ci := 0) (v := .ref (A 6)) (C := RX0) (T := TX0) (N := 10) hx hb hown hK hw hts hinX0 0 rfl rfl 6 (by decide) hf28 rfl dX0_hasSighting_12 ?_
    refine k_lenI hx hb hK hw 6 rfl dX0_hasSighting_15 ?_
    refine lv_icmp_ge (tgt := 33) hx hb dX0_hasSighting_16 (by decide) (fun c_2 => ?_) (fun c_2 => ?_)
    · refine lv_iconst (v := 0) hx hb dX0_hasSighting_33 (by decide) ?_
      exact k_iret hx hb hr hlocks hK hw rfl dX0_hasSighting_34 (by first | assumption | rfl | (simp only [f_hasS, bI_t, bI_f, if_neg c_1, if_pos c_2, if_true, if_false, Bool.false_eq_true, Bool.true_eq_false, reduceIte, reduceCtorEq]; done) | (simp only [f_hasS, bI_t, bI_f, if_neg c_1, if_pos c_2, if_true, if_false, Bool.false_eq_true, Bool.true_eq_false, reduceIte, reduceCtorEq]; rfl) | (simp [f_hasS, bI_t, bI_f, if_neg c_1, if_pos c_2, if_true, if_false, Bool.false_eq_true, Bool.true_eq_false, reduceIte, reduceCtorEq]; done) | (simp [bI, f_hasS, bI_t, bI_f, c_1, c_2]; done)) rfl
    · refine lv_aload_n hx hb dX0_hasSighting_19 rfl (lv_at hl 1 rfl) ?_
      refine k_get (ci := 0) (v := .ref (A 6)) (C := RX0) (T := TX0) (N := 10) hx hb hown hK hw hts hinX0 0 rfl rfl 6 (by decide) hf28 rfl dX0_hasSighting_20 ?_
      refine lv_iload_n hx hb dX0_hasSighting_23 rfl (lv_at hl 0 rfl) ?_
      refine k_ild hx hb hK hw 6 rfl (vp_raw c_1 c_2 (by decide)) rfl dX0_hasSighting_24 ?_
      refine lv_iconst (v := (-1)) hx hb dX0_hasSighting_25 (by decide) ?_
      refine lv_icmp_eq (tgt := 33) hx hb dX0_hasSighting_26 (by decide) (fun c_3 => ?_) (fun c_3 => ?_)
      · refine lv_iconst (v := 0) hx hb dX0_hasSighting_33 (by decide) ?_
        exact k_iret hx hb hr hlocks hK hw rfl dX0_hasSighting_34 (by first | assumption | rfl | (simp only [f_hasS, bI_t, bI_f, if_neg c_1, if_neg c_2, if_pos c_3, if_true, if_false, Bool.false_eq_true, Bool.true_eq_false, reduceIte, reduceCtorEq]; done) | (simp only [f_hasS, bI_t, bI_f, if_neg c_1, if_neg c_2, if_pos c_3, if_true, if_false, Bool.false_eq_true, Bool.true_eq_false, reduceIte, reduceCtorEq]; rfl) | (simp [f_hasS, bI_t, bI_f, if_neg c_1, if_neg c_2, if_pos c_3, if_true, if_false, Bool.false_eq_true, Bool.true_eq_false, reduceIte, reduceCtorEq]; done) | (simp [bI, f_hasS, bI_t, bI_f, c_1, c_2, c_3]; done)) rfl
      · refine lv_iconst (v := 1) hx hb dX0_hasSighting_29 (by decide) ?_
        refine lv_goto (tgt := 34) hx hb dX0_hasSighting_30 (by decide) ?_
        exact k_iret hx hb hr hlocks hK hw rfl dX0_hasSighting_34 (by first | assumption | rfl | (simp only [f_hasS, bI_t, bI_f, if_neg c_1, if_neg c_2, if_neg c_3, if_true, if_false, Bool.false_eq_true, Bool.true_eq_false, reduceIte, reduceCtorEq]; done) | (simp only [f_hasS, bI_t, bI_f, if_neg c_1, if_neg c_2, if_neg c_3, if_true, if_false, Bool.false_eq_true, Bool.true_eq_false, reduceIte, reduceCtorEq]; rfl) | (simp [f_hasS, bI_t, bI_f, if_neg c_1, if_neg c_2, if_neg c_3, if_true, if_false, Bool.false_eq_true, Bool.true_eq_false, reduceIte, reduceCtorEq]; done) | (simp [bI, f_hasS, bI_t, bI_f, c_1, c_2, c_3]; done)) rfl
abbrev rm_X0_trustSum : Room := { frames := 2, cells := 0, slots := 0, locals := 44 }
set_option maxHeartbeats 4000000 in
set_option maxRecDepth 100000 in
theorem c_X0_trustSum (l : Launch) (E : Ev) (A : Nat → Nat) (hb : Nat) (S : CS) (s : Int32) : MI l E yX0_trustSum wsX0_trustSum rm_X0_trustSum [.ref (A 0), .int s] (wC E A hb S) (f_trust S s) (wC E A hb S) := by
  refine k_bI (cc := cX0_trustSum) (maxL := 4) (ret := (some .int)) (by decide) rfl (by decide) ?_
  intro p e s m args below meth c A9 ls hC hl hw
  obtain ⟨hx, hb, hml, hr, hown, hts, hlocks, hK, hG, hA⟩ := hC
  have hinX0 : ∀ w ∈ wsX00, w ∈ wsX0_trustSum := by decide +kernel
  have hf25 := hts (.fieldLink RX0 25 "SailorCandles$Chapel" "trust" "[I") (by decide +kernel)
  have hl : lv_has ls 4 [(0, .ref (A 0)), (1, .int s)] := hl
  refine lv_iconst (v := 0) hx hb dX0_trustSum_0 (by decide) ?_
  refine lv_istore_n (lv' := [(2, .int 0), (0, .ref (A 0)), (1, .int s)]) hx hb dX0_trustSum_1 rfl hl (by decide) rfl (fun ls hl => ?_)
  refine lv_iconst (v := 0) hx hb dX0_trustSum_2 (by decide) ?_
  refine lv_istore_n (lv' := [(3, .int 0), (2, .int 0), (0, .ref (A 0)), (1, .int s)]) hx hb dX0_trustSum_3 rfl hl (by decide) rfl (fun ls hl => ?_)
  have L_4 : ∀ (n i : Nat) (H : Heap) (locs : List Loc) (ls : Array Slot), i + n = 4 → Wd E A9 s.heap (wC E A hb S) H locs → lv_has ls 4 [(0, .ref (A 0)), (1, .int s), (2, .int (l_trust S s i)), (3, .int (nI i))] → W p l e rm_X0_trustSum s m args below meth c H locs 0 0 (EndI E A9 (f_trust S s) (wC E A hb S) below args s (rm_X0_trustSum).cells (rm_X0_trustSum).slots) (F0 m 4 ls []) := by
    intro n
    induction n with
    | zero =>
      intro i H locs ls hi hw hl
      have hi9 : 4 = i := by omega
      subst hi9
      refine lv_iload_n hx hb dX0_trustSum_4 rfl (lv_at hl 3 rfl) ?_
      refine lv_iconst (v := 4) hx hb dX0_trustSum_5 (by decide) ?_
      refine lv_icmp_ge (tgt := 35) hx hb dX0_trustSum_6 (by decide) (fun _ => ?_) (fun q8 => absurd (by rw [hi9]; exact Int32.le_refl _) q8)
      refine lv_iload_n hx hb dX0_trustSum_35 rfl (lv_at hl 2 rfl) ?_
      exact k_iret hx hb hr hlocks hK hw rfl dX0_trustSum_36 (by first | assumption | rfl | (simp only [l_trust, if_true, if_false, Bool.false_eq_true, Bool.true_eq_false, reduceIte, reduceCtorEq]; done) | (simp only [l_trust, if_true, if_false, Bool.false_eq_true, Bool.true_eq_false, reduceIte, reduceCtorEq]; rfl) | (simp [l_trust, if_true, if_false, Bool.false_eq_true, Bool.true_eq_false, reduceIte, reduceCtorEq]; done) | (simp [bI, l_trust]; done)) rfl
    | succ n ih_4 =>
      intro i H locs ls hi hw hl
      have hi9 : i < 4 := by omega
      refine lv_iload_n hx hb dX0_trustSum_4 rfl (lv_at hl 3 rfl) ?_
      refine lv_iconst (v := 4) hx hb dX0_trustSum_5 (by decide) ?_
      refine lv_icmp_ge (tgt := 35) hx hb dX0_trustSum_6 (by decide) (fun q8 => absurd q8 (nI_ge (a := i) (b := 4) (by omega) (by omega))) (fun _ => ?_)
      refine lv_aload_n hx hb dX0_trustSum_9 rfl (lv_at hl 0 rfl) ?_
      refine lv_iload_n hx hb dX0_trustSum_10 rfl (lv_at hl 3 rfl) ?_
      refine lv_iload_n hx hb dX0_trustSum_11 rfl (lv_at hl 1 rfl) ?_
      refine kc_i (ws' := wC E A hb S) (va_runV (As := [.int (nI i), .int s]) (rest := []) ⟨hx, hb, hml, hown, hts⟩ (c_X0_hasSighting l E A hb S (nI i) s  _) (cwV 2 hts gX0_trustSum_X0_hasSighting rfl rfl rfl ⟨rfl, hd_X0_hasSighting⟩ ⟨Nat.le_of_ble_eq_true rfl, Nat.le_of_ble_eq_true rfl⟩) (pwV (ci := 0) (q0 := 0) (C := RX0) hw hK rfl rfl rfl (pwS (AV := [.ref (A 0), .int (nI i), .int s]) hw hK hG [0, 1, 2, 3, 4, 5, 6] rfl rfl)) rfl rfl hl.1 rfl (lv_room (Nat.le_of_ble_eq_true rfl)) dX0_trustSum_12 ⟨Nat.le_of_ble_eq_true rfl, Nat.le_of_ble_eq_true rfl⟩) hw hA [0, 1, 2, 3, 4, 5, 6] rfl rfl rfl rfl (fun H locs hw => ?_)
      refine lv_if_eq (tgt := 29) hx hb dX0_trustSum_15 (by decide) (fun c_1 => ?_) (fun c_1 => ?_)
      · have c_1 := bI_z c_1
        refine lv_iinc (v := nI (i + 1)) (lv' := [(3, .int (nI (i + 1))), (0, .ref (A 0)), (1, .int s), (2, .int (l_trust S s i))]) hx hb dX0_trustSum_29 hl (k := 3) rfl (nI_add i 1) (by decide) rfl (fun ls hl => ?_)
        refine lv_goto (tgt := 4) hx hb dX0_trustSum_32 (by decide) ?_
        exact ih_4 (i + 1) _ _ _ (by omega) hw (by rw [show (.int (l_trust S s (i + 1)) : Value) = .int (l_trust S s i) from (by first | assumption | rfl | (simp only [l_trust, c_1, if_true, if_false, Bool.false_eq_true, Bool.true_eq_false, reduceIte, reduceCtorEq]; done) | (simp only [l_trust, c_1, if_true, if_false, Bool.false_eq_true, Bool.true_eq_false, reduceIte, reduceCtorEq]; rfl) | (simp [l_trust, c_1, if_true, if_false, Bool.false_eq_true, Bool.true_eq_false, reduceIte, reduceCtorEq]; done) | (simp [bI, l_trust, c_1]; done))]; exact lv_sub hl [1, 2, 3, 0] rfl)
      · have c_1 := bI_nz c_1
        refine lv_iload_n hx hb dX0_trustSum_18 rfl (lv_at hl 2 rfl) ?_
        refine lv_aload_n hx hb dX0_trustSum_19 rfl (lv_at hl 0 rfl) ?_
        refine k_get (ci := 0) (v := .ref (A 5)) (C := RX0) (T := TX0) (N := 10) hx hb hown hK hw hts hinX0 0 rfl rfl 5 (by decide) hf25 rfl dX0_trustSum_20 ?_
        refine lv_iload_n hx hb dX0_trustSum_23 rfl (lv_at hl 3 rfl) ?_
        refine kc_i (ws' := wC E A hb S) (va_runSN (As := [.ref (A 5), .int (nI i)]) (rest := [.int (l_trust S s i)]) ⟨hx, hb, hml, hown, hts⟩ (c_X2_at l E (A 5) 4 (c_tr S) (nI i) (by decide) _) ⟨va_cnB 2 hts ggX0_trustSum_X2_at rfl rfl rfl (hG.nw 15 (w := .methodLinkNest RX0 53 yX2_at "SailorCandles") rfl) (hts (.initialized RX2) (by decide +kernel)) hd_X2_at ⟨Nat.le_of_ble_eq_true rfl, Nat.le_of_ble_eq_true rfl⟩, hts (.static yX2_at) (by decide +kernel), trivial⟩ (pwS (AV := [.ref (A 5), .int (nI i)]) hw hK hG [5] rfl rfl) rfl rfl hl.1 rfl (lv_room (Nat.le_of_ble_eq_true rfl)) dX0_trustSum_24 ⟨Nat.le_of_ble_eq_true rfl, Nat.le_of_ble_eq_true rfl⟩) hw hA [5] rfl rfl rfl rfl (fun H locs hw => ?_)
        refine lv_iadd hx hb dX0_trustSum_27 ?_
        refine lv_istore_n (lv' := [(2, .int ((l_trust S s i) + (f_at 4 (c_tr S) (nI i)))), (0, .ref (A 0)), (1, .int s), (3, .int (nI i))]) hx hb dX0_trustSum_28 rfl hl (by decide) rfl (fun ls hl => ?_)
        refine lv_iinc (v := nI (i + 1)) (lv' := [(3, .int (nI (i + 1))), (2, .int ((l_trust S s i) + (f_at 4 (c_tr S) (nI i)))), (0, .ref (A 0)), (1, .int s)]) hx hb dX0_trustSum_29 hl (k := 3) rfl (nI_add i 1) (by decide) rfl (fun ls hl => ?_)
        refine lv_goto (tgt := 4) hx hb dX0_trustSum_32 (by decide) ?_
        exact ih_4 (i + 1) _ _ _ (by omega) hw (by rw [show (.int (l_trust S s (i + 1)) : Value) = .int ((l_trust S s i) + (f_at 4 (c_tr S) (nI i))) from (by first | assumption | rfl | (simp only [l_trust, c_1, if_true, if_false, Bool.false_eq_true, Bool.true_eq_false, reduceIte, reduceCtorEq]; done) | (simp only [l_trust, c_1, if_true, if_false, Bool.false_eq_true, Bool.true_eq_false, reduceIte, reduceCtorEq]; rfl) | (simp [l_trust, c_1, if_true, if_false, Bool.false_eq_true, Bool.true_eq_false, reduceIte, reduceCtorEq]; done) | (simp [bI, l_trust, c_1]; done))]; exact lv_sub hl [2, 3, 1, 0] rfl)
  exact L_4 (4 - 0) 0 _ _ _ (by omega) hw (lv_sub hl [2, 3, 1, 0] rfl)
abbrev rm_X0_enterSighting : Room := { frames := 3, cells := 0, slots := 0, locals := 67 }
set_option maxHeartbeats 4000000 in
set_option maxRecDepth 100000 in
theorem c_X0_enterSighting (l : Launch) (E : Ev) (A : Nat → Nat) (hb : Nat) (S : CS) (w s : Int32) : MV l E yX0_enterSighting wsX0_enterSighting rm_X0_enterSighting [.ref (A 0), .int w, .int s] (wC E A hb S) (wC E A hb (f_enter S w s)) := by
  refine k_bV (cc := cX0_enterSighting) (maxL := 3) (ret := none) (by decide) rfl (by decide) ?_
  intro p e s m args below meth c A9 ls hC hl hw
  obtain ⟨hx, hb, hml, hr, hown, hts, hlocks, hK, hG, hA⟩ := hC
  have hinX0 : ∀ w ∈ wsX00, w ∈ wsX0_enterSighting := by decide +kernel
  have hf28 := hts (.fieldLink RX0 28 "SailorCandles$Chapel" "sightingAge" "[I") (by decide +kernel)
  have hf18 := hts (.fieldLink RX0 18 "SailorCandles$Chapel" "rung" "[Z") (by decide +kernel)
  have hl : lv_has ls 3 [(0, .ref (A 0)), (1, .int w), (2, .int s)] := hl
  refine lv_aload_n hx hb dX0_enterSighting_0 rfl (lv_at hl 0 rfl) ?_
  refine k_get (ci := 0) (v := .ref (A 6)) (C := RX0) (T := TX0) (N := 10) hx hb hown hK hw hts hinX0 0 rfl rfl 6 (by decide) hf28 rfl dX0_enterSighting_1 ?_
  refine lv_iload_n hx hb dX0_enterSighting_4 rfl (lv_at hl 1 rfl) ?_
  refine lv_iload_n hx hb dX0_enterSighting_5 rfl (lv_at hl 2 rfl) ?_
  refine kc_i (ws' := wC E A hb S) (va_runS (As := [.int w, .int s]) (rest := [.ref (A 6)]) ⟨hx, hb, hml, hown, hts⟩ (c_X0_placeOf l E w s  _) (va_cwS 2 hts gX0_enterSighting_X0_placeOf rfl rfl rfl hd_X0_placeOf ⟨Nat.le_of_ble_eq_true rfl, Nat.le_of_ble_eq_true rfl⟩) (pwS (AV := [.int w, .int s]) hw hK hG [] rfl rfl) rfl rfl hl.1 rfl (lv_room (Nat.le_of_ble_eq_true rfl)) dX0_enterSighting_6 ⟨Nat.le_of_ble_eq_true rfl, Nat.le_of_ble_eq_true rfl⟩) hw hA [] rfl rfl rfl rfl (fun H locs hw => ?_)
  refine lv_iconst (v := 0) hx hb dX0_enterSighting_9 (by decide) ?_
  refine kc_v (ws' := wC E A hb (p_ag S (f_put 20 (c_ag S) (f_place w s) 0))) (va_runSN (As := [.ref (A 6), .int (f_place w s), .int 0]) (rest := []) ⟨hx, hb, hml, hown, hts⟩ (c_X2_put l E (A 6) 20 (c_ag S) (f_place w s) 0 (by decide) _) ⟨va_cnB 3 hts ggX0_enterSighting_X2_put rfl rfl rfl (hG.nw 18 (w := .methodLinkNest RX0 57 yX2_put "SailorCandles") rfl) (hts (.initialized RX2) (by decide +kernel)) hd_X2_put ⟨Nat.le_of_ble_eq_true rfl, Nat.le_of_ble_eq_true rfl⟩, hts (.static yX2_put) (by decide +kernel), trivial⟩ (pwS (AV := [.ref (A 6), .int (f_place w s), .int 0]) hw hK hG [6] rfl rfl) rfl rfl hl.1 rfl (lv_room (Nat.le_of_ble_eq_true rfl)) dX0_enterSighting_10 ⟨Nat.le_of_ble_eq_true rfl, Nat.le_of_ble_eq_true rfl⟩) hw hA [6] rfl rfl rfl rfl (fun H locs hw => ?_)
  refine lv_aload_n hx hb dX0_enterSighting_13 rfl (lv_at hl 0 rfl) ?_
  refine lv_iload_n hx hb dX0_enterSighting_14 rfl (lv_at hl 2 rfl) ?_
  refine kc_i (ws' := wC E A hb (p_ag S (f_put 20 (c_ag S) (f_place w s) 0))) (va_runV (As := [.int s]) (rest := []) ⟨hx, hb, hml, hown, hts⟩ (c_X0_trustSum l E A hb (p_ag S (f_put 20 (c_ag S) (f_place w s) 0)) s  _) (cwV 1 hts gX0_enterSighting_X0_trustSum rfl rfl rfl ⟨rfl, hd_X0_trustSum⟩ ⟨Nat.le_of_ble_eq_true rfl, Nat.le_of_ble_eq_true rfl⟩) (pwV (ci := 0) (q0 := 0) (C := RX0) hw hK rfl rfl rfl (pwS (AV := [.ref (A 0), .int s]) hw hK hG [0, 1, 2, 3, 4, 5, 6] rfl rfl)) rfl rfl hl.1 rfl (lv_room (Nat.le_of_ble_eq_true rfl)) dX0_enterSighting_15 ⟨Nat.le_of_ble_eq_true rfl, Nat.le_of_ble_eq_true rfl⟩) hw hA [0, 1, 2, 3, 4, 5, 6] rfl rfl rfl rfl (fun H locs hw => ?_)
  refine lv_bipush (v := 6) hx hb dX0_enterSighting_18 (by decide) ?_
  refine lv_icmp_lt (tgt := 32) hx hb dX0_enterSighting_20 (by decide) (fun c_1 => ?_) (fun c_1 => ?_)
  · exact k_vret hx hb hr hlocks hK hw dX0_enterSighting_32 (by first | (rw [f_enter, if_pos c_1]; rfl) | (rw [f_enter, if_neg c_1]; rfl))
  · refine lv_aload_n hx hb dX0_enterSighting_23 rfl (lv_at hl 0 rfl) ?_
    refine k_get (ci := 0) (v := .ref (A 3)) (C := RX0) (T := TX0) (N := 10) hx hb hown hK hw hts hinX0 0 rfl rfl 3 (by decide) hf18 rfl dX0_enterSighting_24 ?_
    refine lv_iload_n hx hb dX0_enterSighting_27 rfl (lv_at hl 2 rfl) ?_
    refine lv_iconst (v := 1) hx hb dX0_enterSighting_28 (by decide) ?_
    refine kc_v (ws' := wC E A hb (p_ru (p_ag S (f_put 20 (c_ag S) (f_place w s) 0)) (f_mark 5 (c_ru (p_ag S (f_put 20 (c_ag S) (f_place w s) 0))) s true))) (va_runSN (As := [.ref (A 3), .int s, .int 1]) (rest := []) ⟨hx, hb, hml, hown, hts⟩ (c_X2_mark l E (A 3) 5 (c_ru (p_ag S (f_put 20 (c_ag S) (f_place w s) 0))) s true (by decide) _) ⟨va_cnB 3 hts ggX0_enterSighting_X2_mark rfl rfl rfl (hG.nw 20 (w := .methodLinkNest RX0 71 yX2_mark "SailorCandles") rfl) (hts (.initialized RX2) (by decide +kernel)) hd_X2_mark ⟨Nat.le_of_ble_eq_true rfl, Nat.le_of_ble_eq_true rfl⟩, hts (.static yX2_mark) (by decide +kernel), trivial⟩ (pwS (AV := [.ref (A 3), .int s, .int 1]) hw hK hG [3] rfl rfl) rfl rfl hl.1 rfl (lv_room (Nat.le_of_ble_eq_true rfl)) dX0_enterSighting_29 ⟨Nat.le_of_ble_eq_true rfl, Nat.le_of_ble_eq_true rfl⟩) hw hA [3] rfl rfl rfl rfl (fun H locs hw => ?_)
    exact k_vret hx hb hr hlocks hK hw dX0_enterSighting_32 (by first | (rw [f_enter, if_pos c_1]; rfl) | (rw [f_enter, if_neg c_1]; rfl))
abbrev rm_X0_sightingCount : Room := { frames := 0, cells := 0, slots := 0, locals := 0 }
set_option maxHeartbeats 4000000 in
set_option maxRecDepth 100000 in
theorem c_X0_sightingCount (l : Launch) (E : Ev) (A : Nat → Nat) (hb : Nat) (S : CS) : MI l E yX0_sightingCount wsX0_sightingCount rm_X0_sightingCount [.ref (A 0)] (wC E A hb S) (l_scnt (c_ag S) 20) (wC E A hb S) := by
  refine k_bI (cc := cX0_sightingCount) (maxL := 3) (ret := (some .int)) (by decide) rfl (by decide) ?_
  intro p e s m args below meth c A9 ls hC hl hw
  obtain ⟨hx, hb, hml, hr, hown, hts, hlocks, hK, hG, hA⟩ := hC
  have hinX0 : ∀ w ∈ wsX00, w ∈ wsX0_sightingCount := by decide +kernel
  have hf28 := hts (.fieldLink RX0 28 "SailorCandles$Chapel" "sightingAge" "[I") (by decide +kernel)
  have hl : lv_has ls 3 [(0, .ref (A 0))] := hl
  refine lv_iconst (v := 0) hx hb dX0_sightingCount_0 (by decide) ?_
  refine lv_istore_n (lv' := [(1, .int 0), (0, .ref (A 0))]) hx hb dX0_sightingCount_1 rfl hl (by decide) rfl (fun ls hl => ?_)
  refine lv_iconst (v := 0) hx hb dX0_sightingCount_2 (by decide) ?_
  refine lv_istore_n (lv' := [(2, .int 0), (1, .int 0), (0, .ref (A 0))]) hx hb dX0_sightingCount_3 rfl hl (by decide) rfl (fun ls hl => ?_)
  have L_4 : ∀ (n i : Nat) (H : Heap) (locs : List Loc) (ls : Array Slot), i + n = 20 → Wd E A9 s.heap (wC E A hb S) H locs → lv_has ls 3 [(0, .ref (A 0)), (1, .int (l_scnt (c_ag S) i)), (2, .int (nI i))] → W p l e rm_X0_sightingCount s m args below meth c H locs 0 0 (EndI E A9 (l_scnt (c_ag S) 20) (wC E A hb S) below args s (rm_X0_sightingCount).cells (rm_X0_sightingCount).slots) (F0 m 4 ls []) := by
    intro n
    induction n with
    | zero =>
      intro i H locs ls hi hw hl
      have hi9 : 20 = i := by omega
      subst hi9
      refine lv_iload_n hx hb dX0_sightingCount_4 rfl (lv_at hl 2 rfl) ?_
      refine lv_aload_n hx hb dX0_sightingCount_5 rfl (lv_at hl 0 rfl) ?_
      refine k_get (ci := 0) (v := .ref (A 6)) (C := RX0) (T := TX0) (N := 10) hx hb hown hK hw hts hinX0 0 rfl rfl 6 (by decide) hf28 rfl dX0_sightingCount_6 ?_
      refine k_lenI hx hb hK hw 6 rfl dX0_sightingCount_9 ?_
      refine lv_icmp_ge (tgt := 32) hx hb dX0_sightingCount_10 (by decide) (fun _ => ?_) (fun q8 => absurd (by rw [hi9]; exact Int32.le_refl _) q8)
      refine lv_iload_n hx hb dX0_sightingCount_32 rfl (lv_at hl 1 rfl) ?_
      exact k_iret hx hb hr hlocks hK hw rfl dX0_sightingCount_33 rfl rfl
    | succ n ih_4 =>
      intro i H locs ls hi hw hl
      have hi9 : i < 20 := by omega
      refine lv_iload_n hx hb dX0_sightingCount_4 rfl (lv_at hl 2 rfl) ?_
      refine lv_aload_n hx hb dX0_sightingCount_5 rfl (lv_at hl 0 rfl) ?_
      refine k_get (ci := 0) (v := .ref (A 6)) (C := RX0) (T := TX0) (N := 10) hx hb hown hK hw hts hinX0 0 rfl rfl 6 (by decide) hf28 rfl dX0_sightingCount_6 ?_
      refine k_lenI hx hb hK hw 6 rfl dX0_sightingCount_9 ?_
      refine lv_icmp_ge (tgt := 32) hx hb dX0_sightingCount_10 (by decide) (fun q8 => absurd q8 (nI_ge (a := i) (b := 20) (by omega) (by omega))) (fun _ => ?_)
      refine lv_aload_n hx hb dX0_sightingCount_13 rfl (lv_at hl 0 rfl) ?_
      refine k_get (ci := 0) (v := .ref (A 6)) (C := RX0) (T := TX0) (N := 10) hx hb hown hK hw hts hinX0 0 rfl rfl 6 (by decide) hf28 rfl dX0_sightingCount_14 ?_
      refine lv_iload_n hx hb dX0_sightingCount_17 rfl (lv_at hl 2 rfl) ?_
      refine k_ildN (i := i) hx hb hK hw 6 rfl (by omega) (by omega) dX0_sightingCount_18 ?_
      refine lv_iconst (v := (-1)) hx hb dX0_sightingCount_19 (by decide) ?_
      refine lv_icmp_eq (tgt := 26) hx hb dX0_sightingCount_20 (by decide) (fun c_1 => ?_) (fun c_1 => ?_)
      · refine lv_iinc (v := nI (i + 1)) (lv' := [(2, .int (nI (i + 1))), (0, .ref (A 0)), (1, .int (l_scnt (c_ag S) i))]) hx hb dX0_sightingCount_26 hl (k := 2) rfl (nI_add i 1) (by decide) rfl (fun ls hl => ?_)
        refine lv_goto (tgt := 4) hx hb dX0_sightingCount_29 (by decide) ?_
        exact ih_4 (i + 1) _ _ _ (by omega) hw (by rw [show (.int (l_scnt (c_ag S) (i + 1)) : Value) = .int (l_scnt (c_ag S) i) from (by first | assumption | rfl | (simp only [l_scnt, if_pos c_1, if_true, if_false, Bool.false_eq_true, Bool.true_eq_false, reduceIte, reduceCtorEq]; done) | (simp only [l_scnt, if_pos c_1, if_true, if_false, Bool.false_eq_true, Bool.true_eq_false, reduceIte, reduceCtorEq]; rfl) | (simp [l_scnt, if_pos c_1, if_true, if_false, Bool.false_eq_true, Bool.true_eq_false, reduceIte, reduceCtorEq]; done) | (simp [bI, l_scnt, c_1]; done))]; exact lv_sub hl [1, 2, 0] rfl)
      · refine lv_iinc (v := (l_scnt (c_ag S) i) + 1) (lv' := [(1, .int ((l_scnt (c_ag S) i) + 1)), (0, .ref (A 0)), (2, .int (nI i))]) hx hb dX0_sightingCount_23 hl (k := 1) rfl rfl (by decide) rfl (fun ls hl => ?_)
        refine lv_iinc (v := nI (i + 1)) (lv' := [(2, .int (nI (i + 1))), (1, .int ((l_scnt (c_ag S) i) + 1)), (0, .ref (A 0))]) hx hb dX0_sightingCount_26 hl (k := 2) rfl (nI_add i 1) (by decide) rfl (fun ls hl => ?_)
        refine lv_goto (tgt := 4) hx hb dX0_sightingCount_29 (by decide) ?_
        exact ih_4 (i + 1) _ _ _ (by omega) hw (by rw [show (.int (l_scnt (c_ag S) (i + 1)) : Value) = .int ((l_scnt (c_ag S) i) + 1) from (by first | assumption | rfl | (simp only [l_scnt, if_neg c_1, if_true, if_false, Bool.false_eq_true, Bool.true_eq_false, reduceIte, reduceCtorEq]; done) | (simp only [l_scnt, if_neg c_1, if_true, if_false, Bool.false_eq_true, Bool.true_eq_false, reduceIte, reduceCtorEq]; rfl) | (simp [l_scnt, if_neg c_1, if_true, if_false, Bool.false_eq_true, Bool.true_eq_false, reduceIte, reduceCtorEq]; done) | (simp [bI, l_scnt, c_1]; done))]; exact lv_sub hl [2, 1, 0] rfl)
  exact L_4 (20 - 0) 0 _ _ _ (by omega) hw (lv_sub hl [2, 1, 0] rfl)
abbrev rm_X0_believeWatchersOf : Room := { frames := 2, cells := 0, slots := 0, locals := 44 }
set_option maxHeartbeats 4000000 in
set_option maxRecDepth 100000 in
theorem c_X0_believeWatchersOf (l : Launch) (E : Ev) (A : Nat → Nat) (hb : Nat) (S : CS) (s : Int32) : MV l E yX0_believeWatchersOf wsX0_believeWatchersOf rm_X0_believeWatchersOf [.ref (A 0), .int s] (wC E A hb S) (wC E A hb (l_bel s S 4)) := by
  refine k_bV (cc := cX0_believeWatchersOf) (maxL := 3) (ret := none) (by decide) rfl (by decide) ?_
  intro p e s m args below meth c A9 ls hC hl hw
  obtain ⟨hx, hb, hml, hr, hown, hts, hlocks, hK, hG, hA⟩ := hC
  have hinX0 : ∀ w ∈ wsX00, w ∈ wsX0_believeWatchersOf := by decide +kernel
  have hf25 := hts (.fieldLink RX0 25 "SailorCandles$Chapel" "trust" "[I") (by decide +kernel)
  have hl : lv_has ls 3 [(0, .ref (A 0)), (1, .int s)] := hl
  refine lv_iconst (v := 0) hx hb dX0_believeWatchersOf_0 (by decide) ?_
  refine lv_istore_n (lv' := [(2, .int 0), (0, .ref (A 0)), (1, .int s)]) hx hb dX0_believeWatchersOf_1 rfl hl (by decide) rfl (fun ls hl => ?_)
  have L_2 : ∀ (n i : Nat) (H : Heap) (locs : List Loc) (ls : Array Slot), i + n = 4 → Wd E A9 s.heap (wC E A hb (l_bel s S i)) H locs → lv_has ls 3 [(0, .ref (A 0)), (1, .int s), (2, .int (nI i))] → W p l e rm_X0_believeWatchersOf s m args below meth c H locs 0 0 (EndV E A9 (wC E A hb (l_bel s S 4)) below args s (rm_X0_believeWatchersOf).cells (rm_X0_believeWatchersOf).slots) (F0 m 2 ls []) := by
    intro n
    induction n with
    | zero =>
      intro i H locs ls hi hw hl
      have hi9 : 4 = i := by omega
      subst hi9
      refine lv_iload_n hx hb dX0_believeWatchersOf_2 rfl (lv_at hl 2 rfl) ?_
      refine lv_iconst (v := 4) hx hb dX0_believeWatchersOf_3 (by decide) ?_
      refine lv_icmp_ge (tgt := 45) hx hb dX0_believeWatchersOf_4 (by decide) (fun _ => ?_) (fun q8 => absurd (by rw [hi9]; exact Int32.le_refl _) q8)
      exact k_vret hx hb hr hlocks hK hw dX0_believeWatchersOf_45 rfl
    | succ n ih_2 =>
      intro i H locs ls hi hw hl
      have hi9 : i < 4 := by omega
      refine lv_iload_n hx hb dX0_believeWatchersOf_2 rfl (lv_at hl 2 rfl) ?_
      refine lv_iconst (v := 4) hx hb dX0_believeWatchersOf_3 (by decide) ?_
      refine lv_icmp_ge (tgt := 45) hx hb dX0_believeWatchersOf_4 (by decide) (fun q8 => absurd q8 (nI_ge (a := i) (b := 4) (by omega) (by omega))) (fun _ => ?_)
      refine lv_aload_n hx hb dX0_believeWatchersOf_7 rfl (lv_at hl 0 rfl) ?_
      refine lv_iload_n hx hb dX0_believeWatchersOf_8 rfl (lv_at hl 2 rfl) ?_
      refine lv_iload_n hx hb dX0_believeWatchersOf_9 rfl (lv_at hl 1 rfl) ?_
      refine kc_i (ws' := wC E A hb (l_bel s S i)) (va_runV (As := [.int (nI i), .int s]) (rest := []) ⟨hx, hb, hml, hown, hts⟩ (c_X0_hasSighting l E A hb (l_bel s S i) (nI i) s  _) (cwV 2 hts gX0_believeWatchersOf_X0_hasSighting rfl rfl rfl ⟨rfl, hd_X0_hasSighting⟩ ⟨Nat.le_of_ble_eq_true rfl, Nat.le_of_ble_eq_true rfl⟩) (pwV (ci := 0) (q0 := 0) (C := RX0) hw hK rfl rfl rfl (pwS (AV := [.ref (A 0), .int (nI i), .int s]) hw hK hG [0, 1, 2, 3, 4, 5, 6] rfl rfl)) rfl rfl hl.1 rfl (lv_room (Nat.le_of_ble_eq_true rfl)) dX0_believeWatchersOf_10 ⟨Nat.le_of_ble_eq_true rfl, Nat.le_of_ble_eq_true rfl⟩) hw hA [0, 1, 2, 3, 4, 5, 6] rfl rfl rfl rfl (fun H locs hw => ?_)
      refine lv_if_eq (tgt := 39) hx hb dX0_believeWatchersOf_13 (by decide) (fun c_1 => ?_) (fun c_1 => ?_)
      · have c_1 := bI_z c_1
        refine lv_iinc (v := nI (i + 1)) (lv' := [(2, .int (nI (i + 1))), (0, .ref (A 0)), (1, .int s)]) hx hb dX0_believeWatchersOf_39 hl (k := 2) rfl (nI_add i 1) (by decide) rfl (fun ls hl => ?_)
        refine lv_goto (tgt := 2) hx hb dX0_believeWatchersOf_42 (by decide) ?_
        exact ih_2 (i + 1) _ _ _ (by omega) (hw.to (by first | assumption | rfl | (simp only [l_bel, c_1, if_true, if_false, Bool.false_eq_true, Bool.true_eq_false, reduceIte, reduceCtorEq]; done) | (simp only [l_bel, c_1, if_true, if_false, Bool.false_eq_true, Bool.true_eq_false, reduceIte, reduceCtorEq]; rfl) | (simp [l_bel, c_1, if_true, if_false, Bool.false_eq_true, Bool.true_eq_false, reduceIte, reduceCtorEq]; done) | (simp [bI, l_bel, c_1]; done))) (lv_sub hl [1, 2, 0] rfl)
      · have c_1 := bI_nz c_1
        refine lv_aload_n hx hb dX0_believeWatchersOf_16 rfl (lv_at hl 0 rfl) ?_
        refine k_get (ci := 0) (v := .ref (A 5)) (C := RX0) (T := TX0) (N := 10) hx hb hown hK hw hts hinX0 0 rfl rfl 5 (by decide) hf25 rfl dX0_believeWatchersOf_17 ?_
        refine lv_iload_n hx hb dX0_believeWatchersOf_20 rfl (lv_at hl 2 rfl) ?_
        refine lv_bipush (v := 9) hx hb dX0_believeWatchersOf_21 (by decide) ?_
        refine lv_aload_n hx hb dX0_believeWatchersOf_23 rfl (lv_at hl 0 rfl) ?_
        refine k_get (ci := 0) (v := .ref (A 5)) (C := RX0) (T := TX0) (N := 10) hx hb hown hK hw hts hinX0 0 rfl rfl 5 (by decide) hf25 rfl dX0_believeWatchersOf_24 ?_
        refine lv_iload_n hx hb dX0_believeWatchersOf_27 rfl (lv_at hl 2 rfl) ?_
        refine kc_i (ws' := wC E A hb (l_bel s S i)) (va_runSN (As := [.ref (A 5), .int (nI i)]) (rest := [.int 9, .int (nI i), .ref (A 5)]) ⟨hx, hb, hml, hown, hts⟩ (c_X2_at l E (A 5) 4 (c_tr (l_bel s S i)) (nI i) (by decide) _) ⟨va_cnB 2 hts ggX0_believeWatchersOf_X2_at rfl rfl rfl (hG.nw 15 (w := .methodLinkNest RX0 53 yX2_at "SailorCandles") rfl) (hts (.initialized RX2) (by decide +kernel)) hd_X2_at ⟨Nat.le_of_ble_eq_true rfl, Nat.le_of_ble_eq_true rfl⟩, hts (.static yX2_at) (by decide +kernel), trivial⟩ (pwS (AV := [.ref (A 5), .int (nI i)]) hw hK hG [5] rfl rfl) rfl rfl hl.1 rfl (lv_room (Nat.le_of_ble_eq_true rfl)) dX0_believeWatchersOf_28 ⟨Nat.le_of_ble_eq_true rfl, Nat.le_of_ble_eq_true rfl⟩) hw hA [5] rfl rfl rfl rfl (fun H locs hw => ?_)
        refine lv_iconst (v := 1) hx hb dX0_believeWatchersOf_31 (by decide) ?_
        refine lv_iadd hx hb dX0_believeWatchersOf_32 ?_
        refine va_mmin hx hb (by rw [hml]; exact hl.1.symm) hown (hts (.methodLink RX0 89 Lib.Math.min.name) (by decide +kernel)) (hts (.static Lib.Math.min.name) (by decide +kernel)) (hts (.initialized "java/lang/Math") (by decide +kernel)) (hts (.code Lib.Math.min.name Lib.Math.min.code 2 (some .int)) (by decide +kernel)) (Nat.le_of_ble_eq_true rfl) (Nat.le_of_ble_eq_true rfl) (Nat.le_of_ble_eq_true rfl) (Nat.le_of_ble_eq_true rfl) dX0_believeWatchersOf_33 ?_
        refine kc_v (ws' := wC E A hb (p_tr (l_bel s S i) (f_put 4 (c_tr (l_bel s S i)) (nI i) (if ((f_at 4 (c_tr (l_bel s S i)) (nI i)) + 1) < 9 then (f_at 4 (c_tr (l_bel s S i)) (nI i)) + 1 else 9)))) (va_runSN (As := [.ref (A 5), .int (nI i), .int (if ((f_at 4 (c_tr (l_bel s S i)) (nI i)) + 1) < 9 then (f_at 4 (c_tr (l_bel s S i)) (nI i)) + 1 else 9)]) (rest := []) ⟨hx, hb, hml, hown, hts⟩ (c_X2_put l E (A 5) 4 (c_tr (l_bel s S i)) (nI i) (if ((f_at 4 (c_tr (l_bel s S i)) (nI i)) + 1) < 9 then (f_at 4 (c_tr (l_bel s S i)) (nI i)) + 1 else 9) (by decide) _) ⟨va_cnB 3 hts ggX0_believeWatchersOf_X2_put rfl rfl rfl (hG.nw 18 (w := .methodLinkNest RX0 57 yX2_put "SailorCandles") rfl) (hts (.initialized RX2) (by decide +kernel)) hd_X2_put ⟨Nat.le_of_ble_eq_true rfl, Nat.le_of_ble_eq_true rfl⟩, hts (.static yX2_put) (by decide +kernel), trivial⟩ (pwS (AV := [.ref (A 5), .int (nI i), .int (if ((f_at 4 (c_tr (l_bel s S i)) (nI i)) + 1) < 9 then (f_at 4 (c_tr (l_bel s S i)) (nI i)) + 1 else 9)]) hw hK hG [5] rfl rfl) rfl rfl hl.1 rfl (lv_room (Nat.le_of_ble_eq_true rfl)) dX0_believeWatchersOf_36 ⟨Nat.le_of_ble_eq_true rfl, Nat.le_of_ble_eq_true rfl⟩) hw hA [5] rfl rfl rfl rfl (fun H locs hw => ?_)
        refine lv_iinc (v := nI (i + 1)) (lv' := [(2, .int (nI (i + 1))), (0, .ref (A 0)), (1, .int s)]) hx hb dX0_believeWatchersOf_39 hl (k := 2) rfl (nI_add i 1) (by decide) rfl (fun ls hl => ?_)
        refine lv_goto (tgt := 2) hx hb dX0_believeWatchersOf_42 (by decide) ?_
        exact ih_2 (i + 1) _ _ _ (by omega) (hw.to (by first | assumption | rfl | (simp only [l_bel, c_1, if_true, if_false, Bool.false_eq_true, Bool.true_eq_false, reduceIte, reduceCtorEq]; done) | (simp only [l_bel, c_1, if_true, if_false, Bool.false_eq_true, Bool.true_eq_false, reduceIte, reduceCtorEq]; rfl) | (simp [l_bel, c_1, if_true, if_false, Bool.false_eq_true, Bool.true_eq_false, reduceIte, reduceCtorEq]; done) | (simp [bI, l_bel, c_1]; done))) (lv_sub hl [1, 2, 0] rfl)
  exact L_2 (4 - 0) 0 _ _ _ (by omega) hw (lv_sub hl [1, 2, 0] rfl)
abbrev rm_X0_darkFor : Room := { frames := 2, cells := 0, slots := 0, locals := 42 }
set_option maxHeartbeats 4000000 in
set_option maxRecDepth 100000 in
theorem c_X0_darkFor (l : Launch) (E : Ev) (A B : Nat → Nat) (S : CS) (G : HS) (p : Int32) : MI l E yX0_darkFor wsX0_darkFor rm_X0_darkFor [.ref (A 0), .int p] (wC E A (B 0) S ++ wG E B G) (bI (f_dark G S p)) (wC E A (B 0) S ++ wG E B G) := by
  refine k_bI (cc := cX0_darkFor) (maxL := 2) (ret := (some .boolean)) (by decide) rfl (by decide) ?_
  intro p e s m args below meth c A9 ls hC hl hw
  obtain ⟨hx, hb, hml, hr, hown, hts, hlocks, hK, hG, hA⟩ := hC
  have hinX0 : ∀ w ∈ wsX00, w ∈ wsX0_darkFor := by decide +kernel
  have hinX1 : ∀ w ∈ wsX10, w ∈ wsX0_darkFor := by decide +kernel
  have hf31 := hts (.fieldLink RX0 31 "SailorCandles$Chapel" "harbour" "LSailorCandles$Harbour;") (by decide +kernel)
  have hf22 := hts (.fieldLink RX0 22 "SailorCandles$Chapel" "candle" "[I") (by decide +kernel)
  have hl : lv_has ls 2 [(0, .ref (A 0)), (1, .int p)] := hl
  refine lv_aload_n hx hb dX0_darkFor_0 rfl (lv_at hl 0 rfl) ?_
  refine lv_aload_n hx hb dX0_darkFor_1 rfl (lv_at hl 0 rfl) ?_
  refine k_get (ci := 0) (v := .ref (B 0)) (C := RX0) (T := TX0) (N := 10) hx hb hown hK hw hts hinX0 0 rfl rfl 0 (by decide) hf31 rfl dX0_darkFor_2 ?_
  refine lv_iload_n hx hb dX0_darkFor_5 rfl (lv_at hl 1 rfl) ?_
  refine kc_i (ws' := wC E A (B 0) S ++ wG E B G) (va_runV (As := [.int p]) (rest := [.ref (A 0)]) ⟨hx, hb, hml, hown, hts⟩ (c_X1_shipWith l E B G p  _) (cwV 1 hts gX0_darkFor_X1_shipWith rfl rfl rfl ⟨rfl, hd_X1_shipWith⟩ ⟨Nat.le_of_ble_eq_true rfl, Nat.le_of_ble_eq_true rfl⟩) (pwV (ci := 1) (q0 := 7) (C := RX1) hw hK rfl rfl rfl (pwS (AV := [.ref (B 0), .int p]) hw hK hG [7, 8, 9, 10, 11, 12] rfl rfl)) rfl rfl hl.1 rfl (lv_room (Nat.le_of_ble_eq_true rfl)) dX0_darkFor_6 ⟨Nat.le_of_ble_eq_true rfl, Nat.le_of_ble_eq_true rfl⟩) hw hA [7, 8, 9, 10, 11, 12] rfl rfl rfl rfl (fun H locs hw => ?_)
  refine kc_i (ws' := wC E A (B 0) S ++ wG E B G) (va_runV (As := [.int (f_ship G p)]) (rest := []) ⟨hx, hb, hml, hown, hts⟩ (c_X0_stayOf l E A (B 0) S (f_ship G p)  _) (cwV 1 hts gX0_darkFor_X0_stayOf rfl rfl rfl ⟨rfl, hd_X0_stayOf⟩ ⟨Nat.le_of_ble_eq_true rfl, Nat.le_of_ble_eq_true rfl⟩) (pwV (ci := 0) (q0 := 0) (C := RX0) hw hK rfl rfl rfl (pwS (AV := [.ref (A 0), .int (f_ship G p)]) hw hK hG [0, 1, 2, 3, 4, 5, 6] rfl rfl)) rfl rfl hl.1 rfl (lv_room (Nat.le_of_ble_eq_true rfl)) dX0_darkFor_9 ⟨Nat.le_of_ble_eq_true rfl, Nat.le_of_ble_eq_true rfl⟩) hw hA [0, 1, 2, 3, 4, 5, 6] rfl rfl rfl rfl (fun H locs hw => ?_)
  refine lv_iconst (v := 1) hx hb dX0_darkFor_12 (by decide) ?_
  refine lv_icmp_ne (tgt := 31) hx hb dX0_darkFor_13 (by decide) (fun c_1 => ?_) (fun c_1 => ?_)
  · refine lv_iconst (v := 0) hx hb dX0_darkFor_31 (by decide) ?_
    exact k_iret hx hb hr hlocks hK hw rfl dX0_darkFor_32 (by first | assumption | rfl | (simp only [f_dark, bI_t, bI_f, if_neg c_1, if_true, if_false, Bool.false_eq_true, Bool.true_eq_false, reduceIte, reduceCtorEq]; done) | (simp only [f_dark, bI_t, bI_f, if_neg c_1, if_true, if_false, Bool.false_eq_true, Bool.true_eq_false, reduceIte, reduceCtorEq]; rfl) | (simp [f_dark, bI_t, bI_f, if_neg c_1, if_true, if_false, Bool.false_eq_true, Bool.true_eq_false, reduceIte, reduceCtorEq]; done) | (simp [bI, f_dark, bI_t, bI_f, c_1]; done)) rfl
  · refine lv_aload_n hx hb dX0_darkFor_16 rfl (lv_at hl 0 rfl) ?_
    refine k_get (ci := 0) (v := .ref (A 4)) (C := RX0) (T := TX0) (N := 10) hx hb hown hK hw hts hinX0 0 rfl rfl 4 (by decide) hf22 rfl dX0_darkFor_17 ?_
    refine lv_iload_n hx hb dX0_darkFor_20 rfl (lv_at hl 1 rfl) ?_
    refine kc_i (ws' := wC E A (B 0) S ++ wG E B G) (va_runSN (As := [.ref (A 4), .int p]) (rest := []) ⟨hx, hb, hml, hown, hts⟩ (c_X2_at l E (A 4) 16 (c_ca S) p (by decide) _) ⟨va_cnB 2 hts ggX0_darkFor_X2_at rfl rfl rfl (hG.nw 15 (w := .methodLinkNest RX0 53 yX2_at "SailorCandles") rfl) (hts (.initialized RX2) (by decide +kernel)) hd_X2_at ⟨Nat.le_of_ble_eq_true rfl, Nat.le_of_ble_eq_true rfl⟩, hts (.static yX2_at) (by decide +kernel), trivial⟩ (pwS (AV := [.ref (A 4), .int p]) hw hK hG [4] rfl rfl) rfl rfl hl.1 rfl (lv_room (Nat.le_of_ble_eq_true rfl)) dX0_darkFor_21 ⟨Nat.le_of_ble_eq_true rfl, Nat.le_of_ble_eq_true rfl⟩) hw hA [4] rfl rfl rfl rfl (fun H locs hw => ?_)
    refine lv_if_ne (tgt := 31) hx hb dX0_darkFor_24 (by decide) (fun c_2 => ?_) (fun c_2 => ?_)
    · refine lv_iconst (v := 0) hx hb dX0_darkFor_31 (by decide) ?_
      exact k_iret hx hb hr hlocks hK hw rfl dX0_darkFor_32 (by first | assumption | rfl | (simp only [f_dark, bI_t, bI_f, if_pos c_1, if_neg c_2, if_true, if_false, Bool.false_eq_true, Bool.true_eq_false, reduceIte, reduceCtorEq]; done) | (simp only [f_dark, bI_t, bI_f, if_pos c_1, if_neg c_2, if_true, if_false, Bool.false_eq_true, Bool.true_eq_false, reduceIte, reduceCtorEq]; rfl) | (simp [f_dark, bI_t, bI_f, if_pos c_1, if_neg c_2, if_true, if_false, Bool.false_eq_true, Bool.true_eq_false, reduceIte, reduceCtorEq]; done) | (simp [bI, f_dark, bI_t, bI_f, c_1, c_2]; done)) rfl
    · refine lv_iconst (v := 1) hx hb dX0_darkFor_27 (by decide) ?_
      refine lv_goto (tgt := 32) hx hb dX0_darkFor_28 (by decide) ?_
      exact k_iret hx hb hr hlocks hK hw rfl dX0_darkFor_32 (by first | assumption | rfl | (simp only [f_dark, bI_t, bI_f, if_pos c_1, if_pos c_2, if_true, if_false, Bool.false_eq_true, Bool.true_eq_false, reduceIte, reduceCtorEq]; done) | (simp only [f_dark, bI_t, bI_f, if_pos c_1, if_pos c_2, if_true, if_false, Bool.false_eq_true, Bool.true_eq_false, reduceIte, reduceCtorEq]; rfl) | (simp [f_dark, bI_t, bI_f, if_pos c_1, if_pos c_2, if_true, if_false, Bool.false_eq_true, Bool.true_eq_false, reduceIte, reduceCtorEq]; done) | (simp [bI, f_dark, bI_t, bI_f, c_1, c_2]; done)) rfl
abbrev rm_X0_darkCount : Room := { frames := 3, cells := 0, slots := 0, locals := 63 }
set_option maxHeartbeats 4000000 in
set_option maxRecDepth 100000 in
theorem c_X0_darkCount (l : Launch) (E : Ev) (A B : Nat → Nat) (S : CS) (G : HS) : MI l E yX0_darkCount wsX0_darkCount rm_X0_darkCount [.ref (A 0)] (wC E A (B 0) S ++ wG E B G) (l_dark G S 16) (wC E A (B 0) S ++ wG E B G) := by
  refine k_bI (cc := cX0_darkCount) (maxL := 3) (ret := (some .int)) (by decide) rfl (by decide) ?_
  intro p e s m args below meth c A9 ls hC hl hw
  obtain ⟨hx, hb, hml, hr, hown, hts, hlocks, hK, hG, hA⟩ := hC
  have hinX0 : ∀ w ∈ wsX00, w ∈ wsX0_darkCount := by decide +kernel
  have hinX1 : ∀ w ∈ wsX10, w ∈ wsX0_darkCount := by decide +kernel
  have hl : lv_has ls 3 [(0, .ref (A 0))] := hl
  refine lv_iconst (v := 0) hx hb dX0_darkCount_0 (by decide) ?_
  refine lv_istore_n (lv' := [(1, .int 0), (0, .ref (A 0))]) hx hb dX0_darkCount_1 rfl hl (by decide) rfl (fun ls hl => ?_)
  refine lv_iconst (v := 0) hx hb dX0_darkCount_2 (by decide) ?_
  refine lv_istore_n (lv' := [(2, .int 0), (1, .int 0), (0, .ref (A 0))]) hx hb dX0_darkCount_3 rfl hl (by decide) rfl (fun ls hl => ?_)
  have L_4 : ∀ (n i : Nat) (H : Heap) (locs : List Loc) (ls : Array Slot), i + n = 16 → Wd E A9 s.heap (wC E A (B 0) S ++ wG E B G) H locs → lv_has ls 3 [(0, .ref (A 0)), (1, .int (l_dark G S i)), (2, .int (nI i))] → W p l e rm_X0_darkCount s m args below meth c H locs 0 0 (EndI E A9 (l_dark G S 16) (wC E A (B 0) S ++ wG E B G) below args s (rm_X0_darkCount).cells (rm_X0_darkCount).slots) (F0 m 4 ls []) := by
    intro n
    induction n with
    | zero =>
      intro i H locs ls hi hw hl
      have hi9 : 16 = i := by omega
      subst hi9
      refine lv_iload_n hx hb dX0_darkCount_4 rfl (lv_at hl 2 rfl) ?_
      refine lv_bipush (v := 16) hx hb dX0_darkCount_5 (by decide) ?_
      refine lv_icmp_ge (tgt := 27) hx hb dX0_darkCount_7 (by decide) (fun _ => ?_) (fun q8 => absurd (by rw [hi9]; exact Int32.le_refl _) q8)
      refine lv_iload_n hx hb dX0_darkCount_27 rfl (lv_at hl 1 rfl) ?_
      exact k_iret hx hb hr hlocks hK hw rfl dX0_darkCount_28 rfl rfl
    | succ n ih_4 =>
      intro i H locs ls hi hw hl
      have hi9 : i < 16 := by omega
      refine lv_iload_n hx hb dX0_darkCount_4 rfl (lv_at hl 2 rfl) ?_
      refine lv_bipush (v := 16) hx hb dX0_darkCount_5 (by decide) ?_
      refine lv_icmp_ge (tgt := 27) hx hb dX0_darkCount_7 (by decide) (fun q8 => absurd q8 (nI_ge (a := i) (b := 16) (by omega) (by omega))) (fun _ => ?_)
      refine lv_aload_n hx hb dX0_darkCount_10 rfl (lv_at hl 0 rfl) ?_
      refine lv_iload_n hx hb dX0_darkCount_11 rfl (lv_at hl 2 rfl) ?_
      refine kc_i (ws' := wC E A (B 0) S ++ wG E B G) (va_runV (As := [.int (nI i)]) (rest := []) ⟨hx, hb, hml, hown, hts⟩ (c_X0_darkFor l E A B S G (nI i)  _) (cwV 1 hts gX0_darkCount_X0_darkFor rfl rfl rfl ⟨rfl, hd_X0_darkFor⟩ ⟨Nat.le_of_ble_eq_true rfl, Nat.le_of_ble_eq_true rfl⟩) (pwV (ci := 0) (q0 := 0) (C := RX0) hw hK rfl rfl rfl (pwS (AV := [.ref (A 0), .int (nI i)]) hw hK hG [0, 1, 2, 3, 4, 5, 6, 7, 8, 9, 10, 11, 12] rfl rfl)) rfl rfl hl.1 rfl (lv_room (Nat.le_of_ble_eq_true rfl)) dX0_darkCount_12 ⟨Nat.le_of_ble_eq_true rfl, Nat.le_of_ble_eq_true rfl⟩) hw hA [0, 1, 2, 3, 4, 5, 6, 7, 8, 9, 10, 11, 12] rfl rfl rfl rfl (fun H locs hw => ?_)
      refine lv_if_eq (tgt := 21) hx hb dX0_darkCount_15 (by decide) (fun c_1 => ?_) (fun c_1 => ?_)
      · have c_1 := bI_z c_1
        refine lv_iinc (v := nI (i + 1)) (lv' := [(2, .int (nI (i + 1))), (0, .ref (A 0)), (1, .int (l_dark G S i))]) hx hb dX0_darkCount_21 hl (k := 2) rfl (nI_add i 1) (by decide) rfl (fun ls hl => ?_)
        refine lv_goto (tgt := 4) hx hb dX0_darkCount_24 (by decide) ?_
        exact ih_4 (i + 1) _ _ _ (by omega) hw (by rw [show (.int (l_dark G S (i + 1)) : Value) = .int (l_dark G S i) from (by first | assumption | rfl | (simp only [l_dark, c_1, if_true, if_false, Bool.false_eq_true, Bool.true_eq_false, reduceIte, reduceCtorEq]; done) | (simp only [l_dark, c_1, if_true, if_false, Bool.false_eq_true, Bool.true_eq_false, reduceIte, reduceCtorEq]; rfl) | (simp [l_dark, c_1, if_true, if_false, Bool.false_eq_true, Bool.true_eq_false, reduceIte, reduceCtorEq]; done) | (simp [bI, l_dark, c_1]; done))]; exact lv_sub hl [1, 2, 0] rfl)
      · have c_1 := bI_nz c_1
        refine lv_iinc (v := (l_dark G S i) + 1) (lv' := [(1, .int ((l_dark G S i) + 1)), (0, .ref (A 0)), (2, .int (nI i))]) hx hb dX0_darkCount_18 hl (k := 1) rfl rfl (by decide) rfl (fun ls hl => ?_)
        refine lv_iinc (v := nI (i + 1)) (lv' := [(2, .int (nI (i + 1))), (1, .int ((l_dark G S i) + 1)), (0, .ref (A 0))]) hx hb dX0_darkCount_21 hl (k := 2) rfl (nI_add i 1) (by decide) rfl (fun ls hl => ?_)
        refine lv_goto (tgt := 4) hx hb dX0_darkCount_24 (by decide) ?_
        exact ih_4 (i + 1) _ _ _ (by omega) hw (by rw [show (.int (l_dark G S (i + 1)) : Value) = .int ((l_dark G S i) + 1) from (by first | assumption | rfl | (simp only [l_dark, c_1, if_true, if_false, Bool.false_eq_true, Bool.true_eq_false, reduceIte, reduceCtorEq]; done) | (simp only [l_dark, c_1, if_true, if_false, Bool.false_eq_true, Bool.true_eq_false, reduceIte, reduceCtorEq]; rfl) | (simp [l_dark, c_1, if_true, if_false, Bool.false_eq_true, Bool.true_eq_false, reduceIte, reduceCtorEq]; done) | (simp [bI, l_dark, c_1]; done))]; exact lv_sub hl [2, 1, 0] rfl)
  exact L_4 (16 - 0) 0 _ _ _ (by omega) hw (lv_sub hl [2, 1, 0] rfl)
abbrev rm_X0_doubt : Room := { frames := 1, cells := 0, slots := 0, locals := 22 }
set_option maxHeartbeats 4000000 in
set_option maxRecDepth 100000 in
theorem c_X0_doubt (l : Launch) (E : Ev) (A : Nat → Nat) (hb : Nat) (S : CS) (w : Int32) : MV l E yX0_doubt wsX0_doubt rm_X0_doubt [.ref (A 0), .int w] (wC E A hb S) (wC E A hb (f_doubt S w)) := by
  refine k_bV (cc := cX0_doubt) (maxL := 2) (ret := none) (by decide) rfl (by decide) ?_
  intro p e s m args below meth c A9 ls hC hl hw
  obtain ⟨hx, hb, hml, hr, hown, hts, hlocks, hK, hG, hA⟩ := hC
  have hinX0 : ∀ w ∈ wsX00, w ∈ wsX0_doubt := by decide +kernel
  have hf25 := hts (.fieldLink RX0 25 "SailorCandles$Chapel" "trust" "[I") (by decide +kernel)
  have hl : lv_has ls 2 [(0, .ref (A 0)), (1, .int w)] := hl
  refine lv_aload_n hx hb dX0_doubt_0 rfl (lv_at hl 0 rfl) ?_
  refine k_get (ci := 0) (v := .ref (A 5)) (C := RX0) (T := TX0) (N := 10) hx hb hown hK hw hts hinX0 0 rfl rfl 5 (by decide) hf25 rfl dX0_doubt_1 ?_
  refine lv_iload_n hx hb dX0_doubt_4 rfl (lv_at hl 1 rfl) ?_
  refine lv_iconst (v := 0) hx hb dX0_doubt_5 (by decide) ?_
  refine lv_aload_n hx hb dX0_doubt_6 rfl (lv_at hl 0 rfl) ?_
  refine k_get (ci := 0) (v := .ref (A 5)) (C := RX0) (T := TX0) (N := 10) hx hb hown hK hw hts hinX0 0 rfl rfl 5 (by decide) hf25 rfl dX0_doubt_7 ?_
  refine lv_iload_n hx hb dX0_doubt_10 rfl (lv_at hl 1 rfl) ?_
  refine kc_i (ws' := wC E A hb S) (va_runSN (As := [.ref (A 5), .int w]) (rest := [.int 0, .int w, .ref (A 5)]) ⟨hx, hb, hml, hown, hts⟩ (c_X2_at l E (A 5) 4 (c_tr S) w (by decide) _) ⟨va_cnB 2 hts ggX0_doubt_X2_at rfl rfl rfl (hG.nw 15 (w := .methodLinkNest RX0 53 yX2_at "SailorCandles") rfl) (hts (.initialized RX2) (by decide +kernel)) hd_X2_at ⟨Nat.le_of_ble_eq_true rfl, Nat.le_of_ble_eq_true rfl⟩, hts (.static yX2_at) (by decide +kernel), trivial⟩ (pwS (AV := [.ref (A 5), .int w]) hw hK hG [5] rfl rfl) rfl rfl hl.1 rfl (lv_room (Nat.le_of_ble_eq_true rfl)) dX0_doubt_11 ⟨Nat.le_of_ble_eq_true rfl, Nat.le_of_ble_eq_true rfl⟩) hw hA [5] rfl rfl rfl rfl (fun H locs hw => ?_)
  refine lv_iconst (v := 2) hx hb dX0_doubt_14 (by decide) ?_
  refine lv_isub hx hb dX0_doubt_15 ?_
  refine va_mmax hx hb (by rw [hml]; exact hl.1.symm) hown (hts (.methodLink RX0 120 Lib.Math.max.name) (by decide +kernel)) (hts (.static Lib.Math.max.name) (by decide +kernel)) (hts (.initialized "java/lang/Math") (by decide +kernel)) (hts (.code Lib.Math.max.name Lib.Math.max.code 2 (some .int)) (by decide +kernel)) (Nat.le_of_ble_eq_true rfl) (Nat.le_of_ble_eq_true rfl) (Nat.le_of_ble_eq_true rfl) (Nat.le_of_ble_eq_true rfl) dX0_doubt_16 ?_
  refine kc_v (ws' := wC E A hb (p_tr S (f_put 4 (c_tr S) w (if 0 < ((f_at 4 (c_tr S) w) - 2) then (f_at 4 (c_tr S) w) - 2 else 0)))) (va_runSN (As := [.ref (A 5), .int w, .int (if 0 < ((f_at 4 (c_tr S) w) - 2) then (f_at 4 (c_tr S) w) - 2 else 0)]) (rest := []) ⟨hx, hb, hml, hown, hts⟩ (c_X2_put l E (A 5) 4 (c_tr S) w (if 0 < ((f_at 4 (c_tr S) w) - 2) then (f_at 4 (c_tr S) w) - 2 else 0) (by decide) _) ⟨va_cnB 3 hts ggX0_doubt_X2_put rfl rfl rfl (hG.nw 18 (w := .methodLinkNest RX0 57 yX2_put "SailorCandles") rfl) (hts (.initialized RX2) (by decide +kernel)) hd_X2_put ⟨Nat.le_of_ble_eq_true rfl, Nat.le_of_ble_eq_true rfl⟩, hts (.static yX2_put) (by decide +kernel), trivial⟩ (pwS (AV := [.ref (A 5), .int w, .int (if 0 < ((f_at 4 (c_tr S) w) - 2) then (f_at 4 (c_tr S) w) - 2 else 0)]) hw hK hG [5] rfl rfl) rfl rfl hl.1 rfl (lv_room (Nat.le_of_ble_eq_true rfl)) dX0_doubt_19 ⟨Nat.le_of_ble_eq_true rfl, Nat.le_of_ble_eq_true rfl⟩) hw hA [5] rfl rfl rfl rfl (fun H locs hw => ?_)
  exact k_vret hx hb hr hlocks hK hw dX0_doubt_22 rfl
abbrev rm_X0_ageSightings : Room := { frames := 2, cells := 0, slots := 0, locals := 43 }
set_option maxHeartbeats 4000000 in
set_option maxRecDepth 100000 in
theorem c_X0_ageSightings (l : Launch) (E : Ev) (A : Nat → Nat) (hb : Nat) (S : CS) : MV l E yX0_ageSightings wsX0_ageSightings rm_X0_ageSightings [.ref (A 0)] (wC E A hb S) (wC E A hb (l_age S 20)) := by
  refine k_bV (cc := cX0_ageSightings) (maxL := 2) (ret := none) (by decide) rfl (by decide) ?_
  intro p e s m args below meth c A9 ls hC hl hw
  obtain ⟨hx, hb, hml, hr, hown, hts, hlocks, hK, hG, hA⟩ := hC
  have hinX0 : ∀ w ∈ wsX00, w ∈ wsX0_ageSightings := by decide +kernel
  have hf28 := hts (.fieldLink RX0 28 "SailorCandles$Chapel" "sightingAge" "[I") (by decide +kernel)
  have hl : lv_has ls 2 [(0, .ref (A 0))] := hl
  refine lv_iconst (v := 0) hx hb dX0_ageSightings_0 (by decide) ?_
  refine lv_istore_n (lv' := [(1, .int 0), (0, .ref (A 0))]) hx hb dX0_ageSightings_1 rfl hl (by decide) rfl (fun ls hl => ?_)
  have L_2 : ∀ (n i : Nat) (H : Heap) (locs : List Loc) (ls : Array Slot), i + n = 20 → Wd E A9 s.heap (wC E A hb (l_age S i)) H locs → lv_has ls 2 [(0, .ref (A 0)), (1, .int (nI i))] → W p l e rm_X0_ageSightings s m args below meth c H locs 0 0 (EndV E A9 (wC E A hb (l_age S 20)) below args s (rm_X0_ageSightings).cells (rm_X0_ageSightings).slots) (F0 m 2 ls []) := by
    intro n
    induction n with
    | zero =>
      intro i H locs ls hi hw hl
      have hi9 : 20 = i := by omega
      subst hi9
      refine lv_iload_n hx hb dX0_ageSightings_2 rfl (lv_at hl 1 rfl) ?_
      refine lv_aload_n hx hb dX0_ageSightings_3 rfl (lv_at hl 0 rfl) ?_
      refine k_get (ci := 0) (v := .ref (A 6)) (C := RX0) (T := TX0) (N := 10) hx hb hown hK hw hts hinX0 0 rfl rfl 6 (by decide) hf28 rfl dX0_ageSightings_4 ?_
      refine k_lenI hx hb hK hw 6 rfl dX0_ageSightings_7 ?_
      refine lv_icmp_ge (tgt := 62) hx hb dX0_ageSightings_8 (by decide) (fun _ => ?_) (fun q8 => absurd (by rw [hi9]; exact Int32.le_refl _) q8)
      exact k_vret hx hb hr hlocks hK hw dX0_ageSightings_62 rfl
    | succ n ih_2 =>
      intro i H locs ls hi hw hl
      have hi9 : i < 20 := by omega
      refine lv_iload_n hx hb dX0_ageSightings_2 rfl (lv_at hl 1 rfl) ?_
      refine lv_aload_n hx hb dX0_ageSightings_3 rfl (lv_at hl 0 rfl) ?_
      refine k_get (ci := 0) (v := .ref (A 6)) (C := RX0) (T := TX0) (N := 10) hx hb hown hK hw hts hinX0 0 rfl rfl 6 (by decide) hf28 rfl dX0_ageSightings_4 ?_
      refine k_lenI hx hb hK hw 6 rfl dX0_ageSightings_7 ?_
      refine lv_icmp_ge (tgt := 62) hx hb dX0_ageSightings_8 (by decide) (fun q8 => absurd q8 (nI_ge (a := i) (b := 20) (by omega) (by omega))) (fun _ => ?_)
      refine lv_aload_n hx hb dX0_ageSightings_11 rfl (lv_at hl 0 rfl) ?_
      refine k_get (ci := 0) (v := .ref (A 6)) (C := RX0) (T := TX0) (N := 10) hx hb hown hK hw hts hinX0 0 rfl rfl 6 (by decide) hf28 rfl dX0_ageSightings_12 ?_
      refine lv_iload_n hx hb dX0_ageSightings_15 rfl (lv_at hl 1 rfl) ?_
      refine k_ildN (i := i) hx hb hK hw 6 rfl (by omega) (by omega) dX0_ageSightings_16 ?_
      refine lv_iconst (v := (-1)) hx hb dX0_ageSightings_17 (by decide) ?_
      refine lv_icmp_eq (tgt := 56) hx hb dX0_ageSightings_18 (by decide) (fun c_1 => ?_) (fun c_1 => ?_)
      · refine lv_iinc (v := nI (i + 1)) (lv' := [(1, .int (nI (i + 1))), (0, .ref (A 0))]) hx hb dX0_ageSightings_56 hl (k := 1) rfl (nI_add i 1) (by decide) rfl (fun ls hl => ?_)
        refine lv_goto (tgt := 2) hx hb dX0_ageSightings_59 (by decide) ?_
        exact ih_2 (i + 1) _ _ _ (by omega) (hw.to (by first | rfl | (rw [l_age, if_pos c_1]; done) | (rw [l_age, if_neg c_1, f_age1, if_pos c_2]; done) | (rw [l_age, if_neg c_1, if_pos c_2]; rfl) | (rw [l_age, if_neg c_1, if_neg c_2]; rfl))) (lv_sub hl [1, 0] rfl)
      · refine lv_aload_n hx hb dX0_ageSightings_21 rfl (lv_at hl 0 rfl) ?_
        refine k_get (ci := 0) (v := .ref (A 6)) (C := RX0) (T := TX0) (N := 10) hx hb hown hK hw hts hinX0 0 rfl rfl 6 (by decide) hf28 rfl dX0_ageSightings_22 ?_
        refine lv_iload_n hx hb dX0_ageSightings_25 rfl (lv_at hl 1 rfl) ?_
        refine lv_dup2_11 hx hb dX0_ageSightings_26 rfl rfl ?_
        refine k_ildN (i := i) hx hb hK hw 6 rfl (by omega) (by omega) dX0_ageSightings_27 ?_
        refine lv_iconst (v := 1) hx hb dX0_ageSightings_28 (by decide) ?_
        refine lv_iadd hx hb dX0_ageSightings_29 ?_
        refine k_istN (i := i) (ws' := wC E A hb (p_ag (l_age S i) (upd (c_ag (l_age S i)) i (((c_ag (l_age S i)) i) + 1)))) hx hb hK hw 6 rfl (by omega) (by omega) dX0_ageSightings_30 rfl (fun H locs hw => ?_)
        refine lv_aload_n hx hb dX0_ageSightings_31 rfl (lv_at hl 0 rfl) ?_
        refine k_get (ci := 0) (v := .ref (A 6)) (C := RX0) (T := TX0) (N := 10) hx hb hown hK hw hts hinX0 0 rfl rfl 6 (by decide) hf28 rfl dX0_ageSightings_32 ?_
        refine lv_iload_n hx hb dX0_ageSightings_35 rfl (lv_at hl 1 rfl) ?_
        refine k_ildN (i := i) hx hb hK hw 6 rfl (by omega) (by omega) dX0_ageSightings_36 ?_
        refine lv_iconst (v := 3) hx hb dX0_ageSightings_37 (by decide) ?_
        refine lv_icmp_lt (tgt := 56) hx hb dX0_ageSightings_38 (by decide) (fun c_2 => ?_) (fun c_2 => ?_)
        · refine lv_iinc (v := nI (i + 1)) (lv' := [(1, .int (nI (i + 1))), (0, .ref (A 0))]) hx hb dX0_ageSightings_56 hl (k := 1) rfl (nI_add i 1) (by decide) rfl (fun ls hl => ?_)
          refine lv_goto (tgt := 2) hx hb dX0_ageSightings_59 (by decide) ?_
          exact ih_2 (i + 1) _ _ _ (by omega) (hw.to (by first | rfl | (rw [l_age, if_pos c_1]; done) | (rw [l_age, if_neg c_1, f_age1, if_pos c_2]; done) | (rw [l_age, if_neg c_1, if_pos c_2]; rfl) | (rw [l_age, if_neg c_1, if_neg c_2]; rfl))) (lv_sub hl [1, 0] rfl)
        · refine lv_aload_n hx hb dX0_ageSightings_41 rfl (lv_at hl 0 rfl) ?_
          refine k_get (ci := 0) (v := .ref (A 6)) (C := RX0) (T := TX0) (N := 10) hx hb hown hK hw hts hinX0 0 rfl rfl 6 (by decide) hf28 rfl dX0_ageSightings_42 ?_
          refine lv_iload_n hx hb dX0_ageSightings_45 rfl (lv_at hl 1 rfl) ?_
          refine lv_iconst (v := (-1)) hx hb dX0_ageSightings_46 (by decide) ?_
          refine k_istN (i := i) (ws' := wC E A hb (p_ag (p_ag (l_age S i) (upd (c_ag (l_age S i)) i (((c_ag (l_age S i)) i) + 1))) (upd (c_ag (p_ag (l_age S i) (upd (c_ag (l_age S i)) i (((c_ag (l_age S i)) i) + 1)))) i (-1)))) hx hb hK hw 6 rfl (by omega) (by omega) dX0_ageSightings_47 rfl (fun H locs hw => ?_)
          refine lv_aload_n hx hb dX0_ageSightings_48 rfl (lv_at hl 0 rfl) ?_
          refine lv_iload_n hx hb dX0_ageSightings_49 rfl (lv_at hl 1 rfl) ?_
          refine kc_i (ws' := wC E A hb (p_ag (p_ag (l_age S i) (upd (c_ag (l_age S i)) i (((c_ag (l_age S i)) i) + 1))) (upd (c_ag (p_ag (l_age S i) (upd (c_ag (l_age S i)) i (((c_ag (l_age S i)) i) + 1)))) i (-1)))) (va_runS (As := [.int (nI i)]) (rest := [.ref (A 0)]) ⟨hx, hb, hml, hown, hts⟩ (c_X0_watcherAt l E (nI i)  _) (va_cwS 1 hts gX0_ageSightings_X0_watcherAt rfl rfl rfl hd_X0_watcherAt ⟨Nat.le_of_ble_eq_true rfl, Nat.le_of_ble_eq_true rfl⟩) (pwS (AV := [.int (nI i)]) hw hK hG [] rfl rfl) rfl rfl hl.1 rfl (lv_room (Nat.le_of_ble_eq_true rfl)) dX0_ageSightings_50 ⟨Nat.le_of_ble_eq_true rfl, Nat.le_of_ble_eq_true rfl⟩) hw hA [] rfl rfl rfl rfl (fun H locs hw => ?_)
          refine kc_v (ws' := wC E A hb (f_doubt (p_ag (p_ag (l_age S i) (upd (c_ag (l_age S i)) i (((c_ag (l_age S i)) i) + 1))) (upd (c_ag (p_ag (l_age S i) (upd (c_ag (l_age S i)) i (((c_ag (l_age S i)) i) + 1)))) i (-1))) ((nI i) / 5))) (va_runV (As := [.int ((nI i) / 5)]) (rest := []) ⟨hx, hb, hml, hown, hts⟩ (c_X0_doubt l E A hb (p_ag (p_ag (l_age S i) (upd (c_ag (l_age S i)) i (((c_ag (l_age S i)) i) + 1))) (upd (c_ag (p_ag (l_age S i) (upd (c_ag (l_age S i)) i (((c_ag (l_age S i)) i) + 1)))) i (-1))) ((nI i) / 5)  _) (cwV 1 hts gX0_ageSightings_X0_doubt rfl rfl rfl ⟨rfl, hd_X0_doubt⟩ ⟨Nat.le_of_ble_eq_true rfl, Nat.le_of_ble_eq_true rfl⟩) (pwV (ci := 0) (q0 := 0) (C := RX0) hw hK rfl rfl rfl (pwS (AV := [.ref (A 0), .int ((nI i) / 5)]) hw hK hG [0, 1, 2, 3, 4, 5, 6] rfl rfl)) rfl rfl hl.1 rfl (lv_room (Nat.le_of_ble_eq_true rfl)) dX0_ageSightings_53 ⟨Nat.le_of_ble_eq_true rfl, Nat.le_of_ble_eq_true rfl⟩) hw hA [0, 1, 2, 3, 4, 5, 6] rfl rfl rfl rfl (fun H locs hw => ?_)
          refine lv_iinc (v := nI (i + 1)) (lv' := [(1, .int (nI (i + 1))), (0, .ref (A 0))]) hx hb dX0_ageSightings_56 hl (k := 1) rfl (nI_add i 1) (by decide) rfl (fun ls hl => ?_)
          refine lv_goto (tgt := 2) hx hb dX0_ageSightings_59 (by decide) ?_
          exact ih_2 (i + 1) _ _ _ (by omega) (hw.to (by first | rfl | (rw [l_age, if_pos c_1]; done) | (rw [l_age, if_neg c_1, f_age1, if_pos c_2]; done) | (rw [l_age, if_neg c_1, if_pos c_2]; rfl) | (rw [l_age, if_neg c_1, if_neg c_2]; rfl))) (lv_sub hl [1, 0] rfl)
  exact L_2 (20 - 0) 0 _ _ _ (by omega) hw (lv_sub hl [1, 0] rfl)
abbrev rm_X0_unringBells : Room := { frames := 3, cells := 0, slots := 0, locals := 67 }
set_option maxHeartbeats 4000000 in
set_option maxRecDepth 100000 in
theorem c_X0_unringBells (l : Launch) (E : Ev) (A : Nat → Nat) (hb : Nat) (S : CS) : MV l E yX0_unringBells wsX0_unringBells rm_X0_unringBells [.ref (A 0)] (wC E A hb S) (wC E A hb (l_unr S 5)) := by
  refine k_bV (cc := cX0_unringBells) (maxL := 2) (ret := none) (by decide) rfl (by decide) ?_
  intro p e s m args below meth c A9 ls hC hl hw
  obtain ⟨hx, hb, hml, hr, hown, hts, hlocks, hK, hG, hA⟩ := hC
  have hinX0 : ∀ w ∈ wsX00, w ∈ wsX0_unringBells := by decide +kernel
  have hf18 := hts (.fieldLink RX0 18 "SailorCandles$Chapel" "rung" "[Z") (by decide +kernel)
  have hf50 := hts (.fieldLink RX0 50 "SailorCandles$Chapel" "unringings" "I") (by decide +kernel)
  have hl : lv_has ls 2 [(0, .ref (A 0))] := hl
  refine lv_iconst (v := 0) hx hb dX0_unringBells_0 (by decide) ?_
  refine lv_istore_n (lv' := [(1, .int 0), (0, .ref (A 0))]) hx hb dX0_unringBells_1 rfl hl (by decide) rfl (fun ls hl => ?_)
  have L_2 : ∀ (n i : Nat) (H : Heap) (locs : List Loc) (ls : Array Slot), i + n = 5 → Wd E A9 s.heap (wC E A hb (l_unr S i)) H locs → lv_has ls 2 [(0, .ref (A 0)), (1, .int (nI i))] → W p l e rm_X0_unringBells s m args below meth c H locs 0 0 (EndV E A9 (wC E A hb (l_unr S 5)) below args s (rm_X0_unringBells).cells (rm_X0_unringBells).slots) (F0 m 2 ls []) := by
    intro n
    induction n with
    | zero =>
      intro i H locs ls hi hw hl
      have hi9 : 5 = i := by omega
      subst hi9
      refine lv_iload_n hx hb dX0_unringBells_2 rfl (lv_at hl 1 rfl) ?_
      refine lv_iconst (v := 5) hx hb dX0_unringBells_3 (by decide) ?_
      refine lv_icmp_ge (tgt := 53) hx hb dX0_unringBells_4 (by decide) (fun _ => ?_) (fun q8 => absurd (by rw [hi9]; exact Int32.le_refl _) q8)
      exact k_vret hx hb hr hlocks hK hw dX0_unringBells_53 rfl
    | succ n ih_2 =>
      intro i H locs ls hi hw hl
      have hi9 : i < 5 := by omega
      refine lv_iload_n hx hb dX0_unringBells_2 rfl (lv_at hl 1 rfl) ?_
      refine lv_iconst (v := 5) hx hb dX0_unringBells_3 (by decide) ?_
      refine lv_icmp_ge (tgt := 53) hx hb dX0_unringBells_4 (by decide) (fun q8 => absurd q8 (nI_ge (a := i) (b := 5) (by omega) (by omega))) (fun _ => ?_)
      refine lv_aload_n hx hb dX0_unringBells_7 rfl (lv_at hl 0 rfl) ?_
      refine k_get (ci := 0) (v := .ref (A 3)) (C := RX0) (T := TX0) (N := 10) hx hb hown hK hw hts hinX0 0 rfl rfl 3 (by decide) hf18 rfl dX0_unringBells_8 ?_
      refine lv_iload_n hx hb dX0_unringBells_11 rfl (lv_at hl 1 rfl) ?_
      refine kc_i (ws' := wC E A hb (l_unr S i)) (va_runSN (As := [.ref (A 3), .int (nI i)]) (rest := []) ⟨hx, hb, hml, hown, hts⟩ (c_X2_is l E (A 3) 5 (c_ru (l_unr S i)) (nI i) (by decide) _) ⟨va_cnB 2 hts ggX0_unringBells_X2_is rfl rfl rfl (hG.nw 19 (w := .methodLinkNest RX0 123 yX2_is "SailorCandles") rfl) (hts (.initialized RX2) (by decide +kernel)) hd_X2_is ⟨Nat.le_of_ble_eq_true rfl, Nat.le_of_ble_eq_true rfl⟩, hts (.static yX2_is) (by decide +kernel), trivial⟩ (pwS (AV := [.ref (A 3), .int (nI i)]) hw hK hG [3] rfl rfl) rfl rfl hl.1 rfl (lv_room (Nat.le_of_ble_eq_true rfl)) dX0_unringBells_12 ⟨Nat.le_of_ble_eq_true rfl, Nat.le_of_ble_eq_true rfl⟩) hw hA [3] rfl rfl rfl rfl (fun H locs hw => ?_)
      refine lv_if_eq (tgt := 47) hx hb dX0_unringBells_15 (by decide) (fun c_1 => ?_) (fun c_1 => ?_)
      · have c_1 := bI_z c_1
        refine lv_iinc (v := nI (i + 1)) (lv' := [(1, .int (nI (i + 1))), (0, .ref (A 0))]) hx hb dX0_unringBells_47 hl (k := 1) rfl (nI_add i 1) (by decide) rfl (fun ls hl => ?_)
        refine lv_goto (tgt := 2) hx hb dX0_unringBells_50 (by decide) ?_
        exact ih_2 (i + 1) _ _ _ (by omega) (hw.to (by first | assumption | rfl | (simp only [l_unr, c_1, if_true, if_false, Bool.false_eq_true, Bool.true_eq_false, reduceIte, reduceCtorEq]; done) | (simp only [l_unr, c_1, if_true, if_false, Bool.false_eq_true, Bool.true_eq_false, reduceIte, reduceCtorEq]; rfl) | (simp [l_unr, c_1, if_true, if_false, Bool.false_eq_true, Bool.true_eq_false, reduceIte, reduceCtorEq]; done) | (simp [bI, l_unr, c_1]; done))) (lv_sub hl [1, 0] rfl)
      · have c_1 := bI_nz c_1
        refine lv_aload_n hx hb dX0_unringBells_18 rfl (lv_at hl 0 rfl) ?_
        refine lv_iload_n hx hb dX0_unringBells_19 rfl (lv_at hl 1 rfl) ?_
        refine kc_i (ws' := wC E A hb (l_unr S i)) (va_runV (As := [.int (nI i)]) (rest := []) ⟨hx, hb, hml, hown, hts⟩ (c_X0_trustSum l E A hb (l_unr S i) (nI i)  _) (cwV 1 hts gX0_unringBells_X0_trustSum rfl rfl rfl ⟨rfl, hd_X0_trustSum⟩ ⟨Nat.le_of_ble_eq_true rfl, Nat.le_of_ble_eq_true rfl⟩) (pwV (ci := 0) (q0 := 0) (C := RX0) hw hK rfl rfl rfl (pwS (AV := [.ref (A 0), .int (nI i)]) hw hK hG [0, 1, 2, 3, 4, 5, 6] rfl rfl)) rfl rfl hl.1 rfl (lv_room (Nat.le_of_ble_eq_true rfl)) dX0_unringBells_20 ⟨Nat.le_of_ble_eq_true rfl, Nat.le_of_ble_eq_true rfl⟩) hw hA [0, 1, 2, 3, 4, 5, 6] rfl rfl rfl rfl (fun H locs hw => ?_)
        refine lv_bipush (v := 6) hx hb dX0_unringBells_23 (by decide) ?_
        refine lv_icmp_ge (tgt := 47) hx hb dX0_unringBells_25 (by decide) (fun c_2 => ?_) (fun c_2 => ?_)
        · refine lv_iinc (v := nI (i + 1)) (lv' := [(1, .int (nI (i + 1))), (0, .ref (A 0))]) hx hb dX0_unringBells_47 hl (k := 1) rfl (nI_add i 1) (by decide) rfl (fun ls hl => ?_)
          refine lv_goto (tgt := 2) hx hb dX0_unringBells_50 (by decide) ?_
          exact ih_2 (i + 1) _ _ _ (by omega) (hw.to (by first | assumption | rfl | (simp only [l_unr, c_1, if_pos c_2, if_true, if_false, Bool.false_eq_true, Bool.true_eq_false, reduceIte, reduceCtorEq]; done) | (simp only [l_unr, c_1, if_pos c_2, if_true, if_false, Bool.false_eq_true, Bool.true_eq_false, reduceIte, reduceCtorEq]; rfl) | (simp [l_unr, c_1, if_pos c_2, if_true, if_false, Bool.false_eq_true, Bool.true_eq_false, reduceIte, reduceCtorEq]; done) | (simp [bI, l_unr, c_1, c_2]; done))) (lv_sub hl [1, 0] rfl)
        · refine lv_aload_n hx hb dX0_unringBells_28 rfl (lv_at hl 0 rfl) ?_
          refine k_get (ci := 0) (v := .ref (A 3)) (C := RX0) (T := TX0) (N := 10) hx hb hown hK hw hts hinX0 0 rfl rfl 3 (by decide) hf18 rfl dX0_unringBells_29 ?_
          refine lv_iload_n hx hb dX0_unringBells_32 rfl (lv_at hl 1 rfl) ?_
          refine lv_iconst (v := 0) hx hb dX0_unringBells_33 (by decide) ?_
          refine kc_v (ws' := wC E A hb (p_ru (l_unr S i) (f_mark 5 (c_ru (l_unr S i)) (nI i) false))) (va_runSN (As := [.ref (A 3), .int (nI i), .int 0]) (rest := []) ⟨hx, hb, hml, hown, hts⟩ (c_X2_mark l E (A 3) 5 (c_ru (l_unr S i)) (nI i) false (by decide) _) ⟨va_cnB 3 hts ggX0_unringBells_X2_mark rfl rfl rfl (hG.nw 20 (w := .methodLinkNest RX0 71 yX2_mark "SailorCandles") rfl) (hts (.initialized RX2) (by decide +kernel)) hd_X2_mark ⟨Nat.le_of_ble_eq_true rfl, Nat.le_of_ble_eq_true rfl⟩, hts (.static yX2_mark) (by decide +kernel), trivial⟩ (pwS (AV := [.ref (A 3), .int (nI i), .int 0]) hw hK hG [3] rfl rfl) rfl rfl hl.1 rfl (lv_room (Nat.le_of_ble_eq_true rfl)) dX0_unringBells_34 ⟨Nat.le_of_ble_eq_true rfl, Nat.le_of_ble_eq_true rfl⟩) hw hA [3] rfl rfl rfl rfl (fun H locs hw => ?_)
          refine lv_aload_n hx hb dX0_unringBells_37 rfl (lv_at hl 0 rfl) ?_
          refine lv_dup hx hb dX0_unringBells_38 rfl ?_
          refine k_get (ci := 0) (v := .int (c_un (p_ru (l_unr S i) (f_mark 5 (c_ru (l_unr S i)) (nI i) false)))) (C := RX0) (T := TX0) (N := 10) hx hb hown hK hw hts hinX0 0 rfl rfl 9 (by decide) hf50 rfl dX0_unringBells_39 ?_
          refine lv_iconst (v := 1) hx hb dX0_unringBells_42 (by decide) ?_
          refine lv_iadd hx hb dX0_unringBells_43 ?_
          refine k_put (ci := 0) (C := RX0) (T := TX0) (N := 10) (ws' := wC E A hb (p_un (p_ru (l_unr S i) (f_mark 5 (c_ru (l_unr S i)) (nI i) false)) ((c_un (p_ru (l_unr S i) (f_mark 5 (c_ru (l_unr S i)) (nI i) false))) + 1))) hx hb hown hK hw hts hinX0 tyX0 tyX0_ok nmX0 0 rfl rfl 9 (by decide) hf50 rfl rfl (by decide) dX0_unringBells_44 rfl (fun H locs hw => ?_)
          refine lv_iinc (v := nI (i + 1)) (lv' := [(1, .int (nI (i + 1))), (0, .ref (A 0))]) hx hb dX0_unringBells_47 hl (k := 1) rfl (nI_add i 1) (by decide) rfl (fun ls hl => ?_)
          refine lv_goto (tgt := 2) hx hb dX0_unringBells_50 (by decide) ?_
          exact ih_2 (i + 1) _ _ _ (by omega) (hw.to (by first | assumption | rfl | (simp only [l_unr, c_1, if_neg c_2, if_true, if_false, Bool.false_eq_true, Bool.true_eq_false, reduceIte, reduceCtorEq]; done) | (simp only [l_unr, c_1, if_neg c_2, if_true, if_false, Bool.false_eq_true, Bool.true_eq_false, reduceIte, reduceCtorEq]; rfl) | (simp [l_unr, c_1, if_neg c_2, if_true, if_false, Bool.false_eq_true, Bool.true_eq_false, reduceIte, reduceCtorEq]; done) | (simp [bI, l_unr, c_1, c_2]; done))) (lv_sub hl [1, 0] rfl)
  exact L_2 (5 - 0) 0 _ _ _ (by omega) hw (lv_sub hl [1, 0] rfl)
abbrev rm_X0_burnCandle : Room := { frames := 1, cells := 0, slots := 0, locals := 22 }
set_option maxHeartbeats 4000000 in
set_option maxRecDepth 100000 in
theorem c_X0_burnCandle (l : Launch) (E : Ev) (A B : Nat → Nat) (S : CS) (G : HS) (p : Int32) : MV l E yX0_burnCandle wsX0_burnCandle rm_X0_burnCandle [.ref (A 0), .int p] (wC E A (B 0) S ++ wG E B G) (wC E A (B 0) (f_burn1 G S p) ++ wG E B G) := by
  refine k_bV (cc := cX0_burnCandle) (maxL := 3) (ret := none) (by decide) rfl (by decide) ?_
  intro p e s m args below meth c A9 ls hC hl hw
  obtain ⟨hx, hb, hml, hr, hown, hts, hlocks, hK, hG, hA⟩ := hC
  have hinX0 : ∀ w ∈ wsX00, w ∈ wsX0_burnCandle := by decide +kernel
  have hinX1 : ∀ w ∈ wsX10, w ∈ wsX0_burnCandle := by decide +kernel
  have hf31 := hts (.fieldLink RX0 31 "SailorCandles$Chapel" "harbour" "LSailorCandles$Harbour;") (by decide +kernel)
  have hf130 := hG.nw 4 (w := .fieldLinkNest RX0 130 "SailorCandles$Harbour" "mast" "[I" "SailorCandles") rfl
  have hf22 := hts (.fieldLink RX0 22 "SailorCandles$Chapel" "candle" "[I") (by decide +kernel)
  have hl : lv_has ls 3 [(0, .ref (A 0)), (1, .int p)] := hl
  refine lv_iconst (v := 1) hx hb dX0_burnCandle_0 (by decide) ?_
  refine lv_aload_n hx hb dX0_burnCandle_1 rfl (lv_at hl 0 rfl) ?_
  refine k_get (ci := 0) (v := .ref (B 0)) (C := RX0) (T := TX0) (N := 10) hx hb hown hK hw hts hinX0 0 rfl rfl 0 (by decide) hf31 rfl dX0_burnCandle_2 ?_
  refine k_getN (ci := 1) (v := .ref (B 3)) (C := RX1) (T := TX1) (N := 8) hx hb hown hK hw hts hinX1 7 rfl rfl 5 (by decide) hf130 rfl dX0_burnCandle_5 ?_
  refine lv_iload_n hx hb dX0_burnCandle_8 rfl (lv_at hl 1 rfl) ?_
  refine kc_i (ws' := wC E A (B 0) S ++ wG E B G) (va_runSN (As := [.ref (B 3), .int p]) (rest := [.int 1]) ⟨hx, hb, hml, hown, hts⟩ (c_X2_at l E (B 3) 16 (g_mt G) p (by decide) _) ⟨va_cnB 2 hts ggX0_burnCandle_X2_at rfl rfl rfl (hG.nw 15 (w := .methodLinkNest RX0 53 yX2_at "SailorCandles") rfl) (hts (.initialized RX2) (by decide +kernel)) hd_X2_at ⟨Nat.le_of_ble_eq_true rfl, Nat.le_of_ble_eq_true rfl⟩, hts (.static yX2_at) (by decide +kernel), trivial⟩ (pwS (AV := [.ref (B 3), .int p]) hw hK hG [10] rfl rfl) rfl rfl hl.1 rfl (lv_room (Nat.le_of_ble_eq_true rfl)) dX0_burnCandle_9 ⟨Nat.le_of_ble_eq_true rfl, Nat.le_of_ble_eq_true rfl⟩) hw hA [10] rfl rfl rfl rfl (fun H locs hw => ?_)
  refine lv_iadd hx hb dX0_burnCandle_12 ?_
  refine lv_istore_n (lv' := [(2, .int (1 + (f_at 16 (g_mt G) p))), (0, .ref (A 0)), (1, .int p)]) hx hb dX0_burnCandle_13 rfl hl (by decide) rfl (fun ls hl => ?_)
  refine lv_aload_n hx hb dX0_burnCandle_14 rfl (lv_at hl 1 rfl) ?_
  refine k_get (ci := 0) (v := .ref (A 4)) (C := RX0) (T := TX0) (N := 10) hx hb hown hK hw hts hinX0 0 rfl rfl 4 (by decide) hf22 rfl dX0_burnCandle_15 ?_
  refine lv_iload_n hx hb dX0_burnCandle_18 rfl (lv_at hl 2 rfl) ?_
  refine lv_iconst (v := 0) hx hb dX0_burnCandle_19 (by decide) ?_
  refine lv_aload_n hx hb dX0_burnCandle_20 rfl (lv_at hl 1 rfl) ?_
  refine k_get (ci := 0) (v := .ref (A 4)) (C := RX0) (T := TX0) (N := 10) hx hb hown hK hw hts hinX0 0 rfl rfl 4 (by decide) hf22 rfl dX0_burnCandle_21 ?_
  refine lv_iload_n hx hb dX0_burnCandle_24 rfl (lv_at hl 2 rfl) ?_
  refine kc_i (ws' := wC E A (B 0) S ++ wG E B G) (va_runSN (As := [.ref (A 4), .int p]) (rest := [.int 0, .int p, .ref (A 4)]) ⟨hx, hb, hml, hown, hts⟩ (c_X2_at l E (A 4) 16 (c_ca S) p (by decide) _) ⟨va_cnB 2 hts ggX0_burnCandle_X2_at rfl rfl rfl (hG.nw 15 (w := .methodLinkNest RX0 53 yX2_at "SailorCandles") rfl) (hts (.initialized RX2) (by decide +kernel)) hd_X2_at ⟨Nat.le_of_ble_eq_true rfl, Nat.le_of_ble_eq_true rfl⟩, hts (.static yX2_at) (by decide +kernel), trivial⟩ (pwS (AV := [.ref (A 4), .int p]) hw hK hG [4] rfl rfl) rfl rfl hl.1 rfl (lv_room (Nat.le_of_ble_eq_true rfl)) dX0_burnCandle_25 ⟨Nat.le_of_ble_eq_true rfl, Nat.le_of_ble_eq_true rfl⟩) hw hA [4] rfl rfl rfl rfl (fun H locs hw => ?_)
  refine lv_iload_n hx hb dX0_burnCandle_28 rfl (lv_at hl 0 rfl) ?_
  refine lv_isub hx hb dX0_burnCandle_29 ?_
  refine va_mmax hx hb (by rw [hml]; exact hl.1.symm) hown (hts (.methodLink RX0 120 Lib.Math.max.name) (by decide +kernel)) (hts (.static Lib.Math.max.name) (by decide +kernel)) (hts (.initialized "java/lang/Math") (by decide +kernel)) (hts (.code Lib.Math.max.name Lib.Math.max.code 2 (some .int)) (by decide +kernel)) (Nat.le_of_ble_eq_true rfl) (Nat.le_of_ble_eq_true rfl) (Nat.le_of_ble_eq_true rfl) (Nat.le_of_ble_eq_true rfl) dX0_burnCandle_30 ?_
  refine kc_v (ws' := wC E A (B 0) (p_ca S (f_put 16 (c_ca S) p (if 0 < ((f_at 16 (c_ca S) p) - (1 + (f_at 16 (g_mt G) p))) then (f_at 16 (c_ca S) p) - (1 + (f_at 16 (g_mt G) p)) else 0))) ++ wG E B G) (va_runSN (As := [.ref (A 4), .int p, .int (if 0 < ((f_at 16 (c_ca S) p) - (1 + (f_at 16 (g_mt G) p))) then (f_at 16 (c_ca S) p) - (1 + (f_at 16 (g_mt G) p)) else 0)]) (rest := []) ⟨hx, hb, hml, hown, hts⟩ (c_X2_put l E (A 4) 16 (c_ca S) p (if 0 < ((f_at 16 (c_ca S) p) - (1 + (f_at 16 (g_mt G) p))) then (f_at 16 (c_ca S) p) - (1 + (f_at 16 (g_mt G) p)) else 0) (by decide) _) ⟨va_cnB 3 hts ggX0_burnCandle_X2_put rfl rfl rfl (hG.nw 18 (w := .methodLinkNest RX0 57 yX2_put "SailorCandles") rfl) (hts (.initialized RX2) (by decide +kernel)) hd_X2_put ⟨Nat.le_of_ble_eq_true rfl, Nat.le_of_ble_eq_true rfl⟩, hts (.static yX2_put) (by decide +kernel), trivial⟩ (pwS (AV := [.ref (A 4), .int p, .int (if 0 < ((f_at 16 (c_ca S) p) - (1 + (f_at 16 (g_mt G) p))) then (f_at 16 (c_ca S) p) - (1 + (f_at 16 (g_mt G) p)) else 0)]) hw hK hG [4] rfl rfl) rfl rfl hl.1 rfl (lv_room (Nat.le_of_ble_eq_true rfl)) dX0_burnCandle_33 ⟨Nat.le_of_ble_eq_true rfl, Nat.le_of_ble_eq_true rfl⟩) hw hA [4] rfl rfl rfl rfl (fun H locs hw => ?_)
  exact k_vret hx hb hr hlocks hK hw dX0_burnCandle_36 rfl
abbrev rm_X0_burnCandles : Room := { frames := 2, cells := 0, slots := 0, locals := 44 }
set_option maxHeartbeats 4000000 in
set_option maxRecDepth 100000 in
theorem c_X0_burnCandles (l : Launch) (E : Ev) (A B : Nat → Nat) (S : CS) (G : HS) : MI l E yX0_burnCandles wsX0_burnCandles rm_X0_burnCandles [.ref (A 0)] (wC E A (B 0) S ++ wG E B G) (l_burnN G S 16) (wC E A (B 0) (l_burnS G S 16) ++ wG E B G) := by
  refine k_bI (cc := cX0_burnCandles) (maxL := 4) (ret := (some .int)) (by decide) rfl (by decide) ?_
  intro p e s m args below meth c A9 ls hC hl hw
  obtain ⟨hx, hb, hml, hr, hown, hts, hlocks, hK, hG, hA⟩ := hC
  have hinX0 : ∀ w ∈ wsX00, w ∈ wsX0_burnCandles := by decide +kernel
  have hinX1 : ∀ w ∈ wsX10, w ∈ wsX0_burnCandles := by decide +kernel
  have hf31 := hts (.fieldLink RX0 31 "SailorCandles$Chapel" "harbour" "LSailorCandles$Harbour;") (by decide +kernel)
  have hf18 := hts (.fieldLink RX0 18 "SailorCandles$Chapel" "rung" "[Z") (by decide +kernel)
  have hf22 := hts (.fieldLink RX0 22 "SailorCandles$Chapel" "candle" "[I") (by decide +kernel)
  have hl : lv_has ls 4 [(0, .ref (A 0))] := hl
  refine lv_iconst (v := 0) hx hb dX0_burnCandles_0 (by decide) ?_
  refine lv_istore_n (lv' := [(1, .int 0), (0, .ref (A 0))]) hx hb dX0_burnCandles_1 rfl hl (by decide) rfl (fun ls hl => ?_)
  refine lv_iconst (v := 0) hx hb dX0_burnCandles_2 (by decide) ?_
  refine lv_istore_n (lv' := [(2, .int 0), (1, .int 0), (0, .ref (A 0))]) hx hb dX0_burnCandles_3 rfl hl (by decide) rfl (fun ls hl => ?_)
  have L_4 : ∀ (n i : Nat) (H : Heap) (locs : List Loc) (ls : Array Slot), i + n = 16 → Wd E A9 s.heap (wC E A (B 0) (l_burnS G S i) ++ wG E B G) H locs → lv_has ls 4 [(0, .ref (A 0)), (1, .int (l_burnN G S i)), (2, .int (nI i))] → W p l e rm_X0_burnCandles s m args below meth c H locs 0 0 (EndI E A9 (l_burnN G S 16) (wC E A (B 0) (l_burnS G S 16) ++ wG E B G) below args s (rm_X0_burnCandles).cells (rm_X0_burnCandles).slots) (F0 m 4 ls []) := by
    intro n
    induction n with
    | zero =>
      intro i H locs ls hi hw hl
      have hi9 : 16 = i := by omega
      subst hi9
      refine lv_iload_n hx hb dX0_burnCandles_4 rfl (lv_at hl 2 rfl) ?_
      refine lv_bipush (v := 16) hx hb dX0_burnCandles_5 (by decide) ?_
      refine lv_icmp_ge (tgt := 72) hx hb dX0_burnCandles_7 (by decide) (fun _ => ?_) (fun q8 => absurd (by rw [hi9]; exact Int32.le_refl _) q8)
      refine lv_iload_n hx hb dX0_burnCandles_72 rfl (lv_at hl 1 rfl) ?_
      exact k_iret hx hb hr hlocks hK hw rfl dX0_burnCandles_73 rfl rfl
    | succ n ih_4 =>
      intro i H locs ls hi hw hl
      have hi9 : i < 16 := by omega
      refine lv_iload_n hx hb dX0_burnCandles_4 rfl (lv_at hl 2 rfl) ?_
      refine lv_bipush (v := 16) hx hb dX0_burnCandles_5 (by decide) ?_
      refine lv_icmp_ge (tgt := 72) hx hb dX0_burnCandles_7 (by decide) (fun q8 => absurd q8 (nI_ge (a := i) (b := 16) (by omega) (by omega))) (fun _ => ?_)
      refine lv_aload_n hx hb dX0_burnCandles_10 rfl (lv_at hl 0 rfl) ?_
      refine k_get (ci := 0) (v := .ref (B 0)) (C := RX0) (T := TX0) (N := 10) hx hb hown hK hw hts hinX0 0 rfl rfl 0 (by decide) hf31 rfl dX0_burnCandles_11 ?_
      refine lv_iload_n hx hb dX0_burnCandles_14 rfl (lv_at hl 2 rfl) ?_
      refine kc_i (ws' := wC E A (B 0) (l_burnS G S i) ++ wG E B G) (va_runV (As := [.int (nI i)]) (rest := []) ⟨hx, hb, hml, hown, hts⟩ (c_X1_shipWith l E B G (nI i)  _) (cwV 1 hts gX0_burnCandles_X1_shipWith rfl rfl rfl ⟨rfl, hd_X1_shipWith⟩ ⟨Nat.le_of_ble_eq_true rfl, Nat.le_of_ble_eq_true rfl⟩) (pwV (ci := 1) (q0 := 7) (C := RX1) hw hK rfl rfl rfl (pwS (AV := [.ref (B 0), .int (nI i)]) hw hK hG [7, 8, 9, 10, 11, 12] rfl rfl)) rfl rfl hl.1 rfl (lv_room (Nat.le_of_ble_eq_true rfl)) dX0_burnCandles_15 ⟨Nat.le_of_ble_eq_true rfl, Nat.le_of_ble_eq_true rfl⟩) hw hA [7, 8, 9, 10, 11, 12] rfl rfl rfl rfl (fun H locs hw => ?_)
      refine lv_istore_n (lv' := [(3, .int (f_ship G (nI i))), (0, .ref (A 0)), (1, .int (l_burnN G S i)), (2, .int (nI i))]) hx hb dX0_burnCandles_18 rfl hl (by decide) rfl (fun ls hl => ?_)
      refine lv_aload_n hx hb dX0_burnCandles_19 rfl (lv_at hl 1 rfl) ?_
      refine lv_iload_n hx hb dX0_burnCandles_20 rfl (lv_at hl 0 rfl) ?_
      refine kc_i (ws' := wC E A (B 0) (l_burnS G S i) ++ wG E B G) (va_runV (As := [.int (f_ship G (nI i))]) (rest := []) ⟨hx, hb, hml, hown, hts⟩ (c_X0_stayOf l E A (B 0) (l_burnS G S i) (f_ship G (nI i))  _) (cwV 1 hts gX0_burnCandles_X0_stayOf rfl rfl rfl ⟨rfl, hd_X0_stayOf⟩ ⟨Nat.le_of_ble_eq_true rfl, Nat.le_of_ble_eq_true rfl⟩) (pwV (ci := 0) (q0 := 0) (C := RX0) hw hK rfl rfl rfl (pwS (AV := [.ref (A 0), .int (f_ship G (nI i))]) hw hK hG [0, 1, 2, 3, 4, 5, 6] rfl rfl)) rfl rfl hl.1 rfl (lv_room (Nat.le_of_ble_eq_true rfl)) dX0_burnCandles_21 ⟨Nat.le_of_ble_eq_true rfl, Nat.le_of_ble_eq_true rfl⟩) hw hA [0, 1, 2, 3, 4, 5, 6] rfl rfl rfl rfl (fun H locs hw => ?_)
      refine lv_iconst (v := 1) hx hb dX0_burnCandles_24 (by decide) ?_
      refine lv_icmp_ne (tgt := 66) hx hb dX0_burnCandles_25 (by decide) (fun c_1 => ?_) (fun c_1 => ?_)
      · refine lv_iinc (v := nI (i + 1)) (lv' := [(2, .int (nI (i + 1))), (3, .int (f_ship G (nI i))), (0, .ref (A 0)), (1, .int (l_burnN G S i))]) hx hb dX0_burnCandles_66 hl (k := 3) rfl (nI_add i 1) (by decide) rfl (fun ls hl => ?_)
        refine lv_goto (tgt := 4) hx hb dX0_burnCandles_69 (by decide) ?_
        exact ih_4 (i + 1) _ _ _ (by omega) (hw.to (by first | assumption | rfl | (simp only [l_burnN, l_burnS, if_neg c_1, if_true, if_false, Bool.false_eq_true, Bool.true_eq_false, reduceIte, reduceCtorEq]; done) | (simp only [l_burnN, l_burnS, if_neg c_1, if_true, if_false, Bool.false_eq_true, Bool.true_eq_false, reduceIte, reduceCtorEq]; rfl) | (simp [l_burnN, l_burnS, if_neg c_1, if_true, if_false, Bool.false_eq_true, Bool.true_eq_false, reduceIte, reduceCtorEq]; done) | (simp [bI, l_burnN, l_burnS, c_1]; done))) (by rw [show (.int (l_burnN G S (i + 1)) : Value) = .int (l_burnN G S i) from (by first | assumption | rfl | (simp only [l_burnN, l_burnS, if_neg c_1, if_true, if_false, Bool.false_eq_true, Bool.true_eq_false, reduceIte, reduceCtorEq]; done) | (simp only [l_burnN, l_burnS, if_neg c_1, if_true, if_false, Bool.false_eq_true, Bool.true_eq_false, reduceIte, reduceCtorEq]; rfl) | (simp [l_burnN, l_burnS, if_neg c_1, if_true, if_false, Bool.false_eq_true, Bool.true_eq_false, reduceIte, reduceCtorEq]; done) | (simp [bI, l_burnN, l_burnS, c_1]; done))]; exact lv_sub hl [2, 3, 0] rfl)
      · refine lv_aload_n hx hb dX0_burnCandles_28 rfl (lv_at hl 1 rfl) ?_
        refine k_get (ci := 0) (v := .ref (A 3)) (C := RX0) (T := TX0) (N := 10) hx hb hown hK hw hts hinX0 0 rfl rfl 3 (by decide) hf18 rfl dX0_burnCandles_29 ?_
        refine lv_iload_n hx hb dX0_burnCandles_32 rfl (lv_at hl 0 rfl) ?_
        refine kc_i (ws' := wC E A (B 0) (l_burnS G S i) ++ wG E B G) (va_runSN (As := [.ref (A 3), .int (f_ship G (nI i))]) (rest := []) ⟨hx, hb, hml, hown, hts⟩ (c_X2_is l E (A 3) 5 (c_ru (l_burnS G S i)) (f_ship G (nI i)) (by decide) _) ⟨va_cnB 2 hts ggX0_burnCandles_X2_is rfl rfl rfl (hG.nw 19 (w := .methodLinkNest RX0 123 yX2_is "SailorCandles") rfl) (hts (.initialized RX2) (by decide +kernel)) hd_X2_is ⟨Nat.le_of_ble_eq_true rfl, Nat.le_of_ble_eq_true rfl⟩, hts (.static yX2_is) (by decide +kernel), trivial⟩ (pwS (AV := [.ref (A 3), .int (f_ship G (nI i))]) hw hK hG [3] rfl rfl) rfl rfl hl.1 rfl (lv_room (Nat.le_of_ble_eq_true rfl)) dX0_burnCandles_33 ⟨Nat.le_of_ble_eq_true rfl, Nat.le_of_ble_eq_true rfl⟩) hw hA [3] rfl rfl rfl rfl (fun H locs hw => ?_)
        refine lv_if_ne (tgt := 66) hx hb dX0_burnCandles_36 (by decide) (fun c_2 => ?_) (fun c_2 => ?_)
        · have c_2 := bI_nz c_2
          refine lv_iinc (v := nI (i + 1)) (lv' := [(2, .int (nI (i + 1))), (3, .int (f_ship G (nI i))), (0, .ref (A 0)), (1, .int (l_burnN G S i))]) hx hb dX0_burnCandles_66 hl (k := 3) rfl (nI_add i 1) (by decide) rfl (fun ls hl => ?_)
          refine lv_goto (tgt := 4) hx hb dX0_burnCandles_69 (by decide) ?_
          exact ih_4 (i + 1) _ _ _ (by omega) (hw.to (by first | assumption | rfl | (simp only [l_burnN, l_burnS, if_pos c_1, c_2, if_true, if_false, Bool.false_eq_true, Bool.true_eq_false, reduceIte, reduceCtorEq]; done) | (simp only [l_burnN, l_burnS, if_pos c_1, c_2, if_true, if_false, Bool.false_eq_true, Bool.true_eq_false, reduceIte, reduceCtorEq]; rfl) | (simp [l_burnN, l_burnS, if_pos c_1, c_2, if_true, if_false, Bool.false_eq_true, Bool.true_eq_false, reduceIte, reduceCtorEq]; done) | (simp [bI, l_burnN, l_burnS, c_1, c_2]; done))) (by rw [show (.int (l_burnN G S (i + 1)) : Value) = .int (l_burnN G S i) from (by first | assumption | rfl | (simp only [l_burnN, l_burnS, if_pos c_1, c_2, if_true, if_false, Bool.false_eq_true, Bool.true_eq_false, reduceIte, reduceCtorEq]; done) | (simp only [l_burnN, l_burnS, if_pos c_1, c_2, if_true, if_false, Bool.false_eq_true, Bool.true_eq_false, reduceIte, reduceCtorEq]; rfl) | (simp [l_burnN, l_burnS, if_pos c_1, c_2, if_true, if_false, Bool.false_eq_true, Bool.true_eq_false, reduceIte, reduceCtorEq]; done) | (simp [bI, l_burnN, l_burnS, c_1, c_2]; done))]; exact lv_sub hl [2, 3, 0] rfl)
        · have c_2 := bI_z c_2
          refine lv_aload_n hx hb dX0_burnCandles_39 rfl (lv_at hl 1 rfl) ?_
          refine lv_iload_n hx hb dX0_burnCandles_40 rfl (lv_at hl 3 rfl) ?_
          refine kc_v (ws' := wC E A (B 0) (f_burn1 G (l_burnS G S i) (nI i)) ++ wG E B G) (va_runV (As := [.int (nI i)]) (rest := []) ⟨hx, hb, hml, hown, hts⟩ (c_X0_burnCandle l E A B (l_burnS G S i) G (nI i)  _) (cwV 1 hts gX0_burnCandles_X0_burnCandle rfl rfl rfl ⟨rfl, hd_X0_burnCandle⟩ ⟨Nat.le_of_ble_eq_true rfl, Nat.le_of_ble_eq_true rfl⟩) (pwV (ci := 0) (q0 := 0) (C := RX0) hw hK rfl rfl rfl (pwS (AV := [.ref (A 0), .int (nI i)]) hw hK hG [0, 1, 2, 3, 4, 5, 6, 7, 8, 9, 10, 11, 12] rfl rfl)) rfl rfl hl.1 rfl (lv_room (Nat.le_of_ble_eq_true rfl)) dX0_burnCandles_41 ⟨Nat.le_of_ble_eq_true rfl, Nat.le_of_ble_eq_true rfl⟩) hw hA [0, 1, 2, 3, 4, 5, 6, 7, 8, 9, 10, 11, 12] rfl rfl rfl rfl (fun H locs hw => ?_)
          refine lv_aload_n hx hb dX0_burnCandles_44 rfl (lv_at hl 1 rfl) ?_
          refine k_get (ci := 0) (v := .ref (A 4)) (C := RX0) (T := TX0) (N := 10) hx hb hown hK hw hts hinX0 0 rfl rfl 4 (by decide) hf22 rfl dX0_burnCandles_45 ?_
          refine lv_iload_n hx hb dX0_burnCandles_48 rfl (lv_at hl 3 rfl) ?_
          refine kc_i (ws' := wC E A (B 0) (f_burn1 G (l_burnS G S i) (nI i)) ++ wG E B G) (va_runSN (As := [.ref (A 4), .int (nI i)]) (rest := []) ⟨hx, hb, hml, hown, hts⟩ (c_X2_at l E (A 4) 16 (c_ca (f_burn1 G (l_burnS G S i) (nI i))) (nI i) (by decide) _) ⟨va_cnB 2 hts ggX0_burnCandles_X2_at rfl rfl rfl (hG.nw 15 (w := .methodLinkNest RX0 53 yX2_at "SailorCandles") rfl) (hts (.initialized RX2) (by decide +kernel)) hd_X2_at ⟨Nat.le_of_ble_eq_true rfl, Nat.le_of_ble_eq_true rfl⟩, hts (.static yX2_at) (by decide +kernel), trivial⟩ (pwS (AV := [.ref (A 4), .int (nI i)]) hw hK hG [4] rfl rfl) rfl rfl hl.1 rfl (lv_room (Nat.le_of_ble_eq_true rfl)) dX0_burnCandles_49 ⟨Nat.le_of_ble_eq_true rfl, Nat.le_of_ble_eq_true rfl⟩) hw hA [4] rfl rfl rfl rfl (fun H locs hw => ?_)
          refine lv_if_ne (tgt := 66) hx hb dX0_burnCandles_52 (by decide) (fun c_3 => ?_) (fun c_3 => ?_)
          · refine lv_iinc (v := nI (i + 1)) (lv' := [(2, .int (nI (i + 1))), (3, .int (f_ship G (nI i))), (0, .ref (A 0)), (1, .int (l_burnN G S i))]) hx hb dX0_burnCandles_66 hl (k := 3) rfl (nI_add i 1) (by decide) rfl (fun ls hl => ?_)
            refine lv_goto (tgt := 4) hx hb dX0_burnCandles_69 (by decide) ?_
            exact ih_4 (i + 1) _ _ _ (by omega) (hw.to (by first | assumption | rfl | (simp only [l_burnN, l_burnS, if_pos c_1, c_2, if_neg c_3, if_true, if_false, Bool.false_eq_true, Bool.true_eq_false, reduceIte, reduceCtorEq]; done) | (simp only [l_burnN, l_burnS, if_pos c_1, c_2, if_neg c_3, if_true, if_false, Bool.false_eq_true, Bool.true_eq_false, reduceIte, reduceCtorEq]; rfl) | (simp [l_burnN, l_burnS, if_pos c_1, c_2, if_neg c_3, if_true, if_false, Bool.false_eq_true, Bool.true_eq_false, reduceIte, reduceCtorEq]; done) | (simp [bI, l_burnN, l_burnS, c_1, c_2, c_3]; done))) (by rw [show (.int (l_burnN G S (i + 1)) : Value) = .int (l_burnN G S i) from (by first | assumption | rfl | (simp only [l_burnN, l_burnS, if_pos c_1, c_2, if_neg c_3, if_true, if_false, Bool.false_eq_true, Bool.true_eq_false, reduceIte, reduceCtorEq]; done) | (simp only [l_burnN, l_burnS, if_pos c_1, c_2, if_neg c_3, if_true, if_false, Bool.false_eq_true, Bool.true_eq_false, reduceIte, reduceCtorEq]; rfl) | (simp [l_burnN, l_burnS, if_pos c_1, c_2, if_neg c_3, if_true, if_false, Bool.false_eq_true, Bool.true_eq_false, reduceIte, reduceCtorEq]; done) | (simp [bI, l_burnN, l_burnS, c_1, c_2, c_3]; done))]; exact lv_sub hl [2, 3, 0] rfl)
          · refine lv_aload_n hx hb dX0_burnCandles_55 rfl (lv_at hl 1 rfl) ?_
            refine lv_iload_n hx hb dX0_burnCandles_56 rfl (lv_at hl 3 rfl) ?_
            refine kc_i (ws' := wC E A (B 0) (f_light (f_burn1 G (l_burnS G S i) (nI i)) (nI i)) ++ wG E B G) (va_runV (As := [.int (nI i)]) (rest := []) ⟨hx, hb, hml, hown, hts⟩ (c_X0_lightCandle l E A (B 0) (f_burn1 G (l_burnS G S i) (nI i)) (nI i)  _) (cwV 1 hts gX0_burnCandles_X0_lightCandle rfl rfl rfl ⟨rfl, hd_X0_lightCandle⟩ ⟨Nat.le_of_ble_eq_true rfl, Nat.le_of_ble_eq_true rfl⟩) (pwV (ci := 0) (q0 := 0) (C := RX0) hw hK rfl rfl rfl (pwS (AV := [.ref (A 0), .int (nI i)]) hw hK hG [0, 1, 2, 3, 4, 5, 6] rfl rfl)) rfl rfl hl.1 rfl (lv_room (Nat.le_of_ble_eq_true rfl)) dX0_burnCandles_57 ⟨Nat.le_of_ble_eq_true rfl, Nat.le_of_ble_eq_true rfl⟩) hw hA [0, 1, 2, 3, 4, 5, 6] rfl rfl rfl rfl (fun H locs hw => ?_)
            refine lv_if_eq (tgt := 66) hx hb dX0_burnCandles_60 (by decide) (fun c_4 => ?_) (fun c_4 => ?_)
            · have c_4 := bI_z c_4
              refine lv_iinc (v := nI (i + 1)) (lv' := [(2, .int (nI (i + 1))), (3, .int (f_ship G (nI i))), (0, .ref (A 0)), (1, .int (l_burnN G S i))]) hx hb dX0_burnCandles_66 hl (k := 3) rfl (nI_add i 1) (by decide) rfl (fun ls hl => ?_)
              refine lv_goto (tgt := 4) hx hb dX0_burnCandles_69 (by decide) ?_
              exact ih_4 (i + 1) _ _ _ (by omega) (hw.to (by first | assumption | rfl | (simp only [l_burnN, l_burnS, if_pos c_1, c_2, if_pos c_3, c_4, if_true, if_false, Bool.false_eq_true, Bool.true_eq_false, reduceIte, reduceCtorEq]; done) | (simp only [l_burnN, l_burnS, if_pos c_1, c_2, if_pos c_3, c_4, if_true, if_false, Bool.false_eq_true, Bool.true_eq_false, reduceIte, reduceCtorEq]; rfl) | (simp [l_burnN, l_burnS, if_pos c_1, c_2, if_pos c_3, c_4, if_true, if_false, Bool.false_eq_true, Bool.true_eq_false, reduceIte, reduceCtorEq]; done) | (simp [bI, l_burnN, l_burnS, c_1, c_2, c_3, c_4]; done))) (by rw [show (.int (l_burnN G S (i + 1)) : Value) = .int (l_burnN G S i) from (by first | assumption | rfl | (simp only [l_burnN, l_burnS, if_pos c_1, c_2, if_pos c_3, c_4, if_true, if_false, Bool.false_eq_true, Bool.true_eq_false, reduceIte, reduceCtorEq]; done) | (simp only [l_burnN, l_burnS, if_pos c_1, c_2, if_pos c_3, c_4, if_true, if_false, Bool.false_eq_true, Bool.true_eq_false, reduceIte, reduceCtorEq]; rfl) | (simp [l_burnN, l_burnS, if_pos c_1, c_2, if_pos c_3, c_4, if_true, if_false, Bool.false_eq_true, Bool.true_eq_false, reduceIte, reduceCtorEq]; done) | (simp [bI, l_burnN, l_burnS, c_1, c_2, c_3, c_4]; done))]; exact lv_sub hl [2, 3, 0] rfl)
            · have c_4 := bI_nz c_4
              refine lv_iinc (v := (l_burnN G S i) + 1) (lv' := [(1, .int ((l_burnN G S i) + 1)), (3, .int (f_ship G (nI i))), (0, .ref (A 0)), (2, .int (nI i))]) hx hb dX0_burnCandles_63 hl (k := 2) rfl rfl (by decide) rfl (fun ls hl => ?_)
              refine lv_iinc (v := nI (i + 1)) (lv' := [(2, .int (nI (i + 1))), (1, .int ((l_burnN G S i) + 1)), (3, .int (f_ship G (nI i))), (0, .ref (A 0))]) hx hb dX0_burnCandles_66 hl (k := 3) rfl (nI_add i 1) (by decide) rfl (fun ls hl => ?_)
              refine lv_goto (tgt := 4) hx hb dX0_burnCandles_69 (by decide) ?_
              exact ih_4 (i + 1) _ _ _ (by omega) (hw.to (by first | assumption | rfl | (simp only [l_burnN, l_burnS, if_pos c_1, c_2, if_pos c_3, c_4, if_true, if_false, Bool.false_eq_true, Bool.true_eq_false, reduceIte, reduceCtorEq]; done) | (simp only [l_burnN, l_burnS, if_pos c_1, c_2, if_pos c_3, c_4, if_true, if_false, Bool.false_eq_true, Bool.true_eq_false, reduceIte, reduceCtorEq]; rfl) | (simp [l_burnN, l_burnS, if_pos c_1, c_2, if_pos c_3, c_4, if_true, if_false, Bool.false_eq_true, Bool.true_eq_false, reduceIte, reduceCtorEq]; done) | (simp [bI, l_burnN, l_burnS, c_1, c_2, c_3, c_4]; done))) (by rw [show (.int (l_burnN G S (i + 1)) : Value) = .int ((l_burnN G S i) + 1) from (by first | assumption | rfl | (simp only [l_burnN, l_burnS, if_pos c_1, c_2, if_pos c_3, c_4, if_true, if_false, Bool.false_eq_true, Bool.true_eq_false, reduceIte, reduceCtorEq]; done) | (simp only [l_burnN, l_burnS, if_pos c_1, c_2, if_pos c_3, c_4, if_true, if_false, Bool.false_eq_true, Bool.true_eq_false, reduceIte, reduceCtorEq]; rfl) | (simp [l_burnN, l_burnS, if_pos c_1, c_2, if_pos c_3, c_4, if_true, if_false, Bool.false_eq_true, Bool.true_eq_false, reduceIte, reduceCtorEq]; done) | (simp [bI, l_burnN, l_burnS, c_1, c_2, c_3, c_4]; done))]; exact lv_sub hl [3, 1, 0] rfl)
  exact L_4 (16 - 0) 0 _ _ _ (by omega) hw (lv_sub hl [2, 1, 0] rfl)
abbrev rm_X0_countNightOut : Room := { frames := 3, cells := 0, slots := 0, locals := 67 }
set_option maxHeartbeats 4000000 in
set_option maxRecDepth 100000 in
theorem c_X0_countNightOut (l : Launch) (E : Ev) (A B : Nat → Nat) (S : CS) (G : HS) : MV l E yX0_countNightOut wsX0_countNightOut rm_X0_countNightOut [.ref (A 0)] (wC E A (B 0) S ++ wG E B G) (wC E A (B 0) (l_loss G S 5) ++ wG E B G) := by
  refine k_bV (cc := cX0_countNightOut) (maxL := 3) (ret := none) (by decide) rfl (by decide) ?_
  intro p e s m args below meth c A9 ls hC hl hw
  obtain ⟨hx, hb, hml, hr, hown, hts, hlocks, hK, hG, hA⟩ := hC
  have hinX0 : ∀ w ∈ wsX00, w ∈ wsX0_countNightOut := by decide +kernel
  have hinX1 : ∀ w ∈ wsX10, w ∈ wsX0_countNightOut := by decide +kernel
  have hf15 := hts (.fieldLink RX0 15 "SailorCandles$Chapel" "outFor" "[I") (by decide +kernel)
  have hf31 := hts (.fieldLink RX0 31 "SailorCandles$Chapel" "harbour" "LSailorCandles$Harbour;") (by decide +kernel)
  have hl : lv_has ls 3 [(0, .ref (A 0))] := hl
  refine lv_iconst (v := 0) hx hb dX0_countNightOut_0 (by decide) ?_
  refine lv_istore_n (lv' := [(1, .int 0), (0, .ref (A 0))]) hx hb dX0_countNightOut_1 rfl hl (by decide) rfl (fun ls hl => ?_)
  have L_2 : ∀ (n i : Nat) (H : Heap) (locs : List Loc) (ls : Array Slot), i + n = 5 → Wd E A9 s.heap (wC E A (B 0) (l_loss G S i) ++ wG E B G) H locs → lv_has ls 3 [(0, .ref (A 0)), (1, .int (nI i))] → W p l e rm_X0_countNightOut s m args below meth c H locs 0 0 (EndV E A9 (wC E A (B 0) (l_loss G S 5) ++ wG E B G) below args s (rm_X0_countNightOut).cells (rm_X0_countNightOut).slots) (F0 m 2 ls []) := by
    intro n
    induction n with
    | zero =>
      intro i H locs ls hi hw hl
      have hi9 : 5 = i := by omega
      subst hi9
      refine lv_iload_n hx hb dX0_countNightOut_2 rfl (lv_at hl 1 rfl) ?_
      refine lv_iconst (v := 5) hx hb dX0_countNightOut_3 (by decide) ?_
      refine lv_icmp_ge (tgt := 65) hx hb dX0_countNightOut_4 (by decide) (fun _ => ?_) (fun q8 => absurd (by rw [hi9]; exact Int32.le_refl _) q8)
      exact k_vret hx hb hr hlocks hK hw dX0_countNightOut_65 rfl
    | succ n ih_2 =>
      intro i H locs ls hi hw hl
      have hi9 : i < 5 := by omega
      refine lv_iload_n hx hb dX0_countNightOut_2 rfl (lv_at hl 1 rfl) ?_
      refine lv_iconst (v := 5) hx hb dX0_countNightOut_3 (by decide) ?_
      refine lv_icmp_ge (tgt := 65) hx hb dX0_countNightOut_4 (by decide) (fun q8 => absurd q8 (nI_ge (a := i) (b := 5) (by omega) (by omega))) (fun _ => ?_)
      refine lv_aload_n hx hb dX0_countNightOut_7 rfl (lv_at hl 0 rfl) ?_
      refine lv_iload_n hx hb dX0_countNightOut_8 rfl (lv_at hl 1 rfl) ?_
      refine kc_i (ws' := wC E A (B 0) (l_loss G S i) ++ wG E B G) (va_runV (As := [.int (nI i)]) (rest := []) ⟨hx, hb, hml, hown, hts⟩ (c_X0_stayOf l E A (B 0) (l_loss G S i) (nI i)  _) (cwV 1 hts gX0_countNightOut_X0_stayOf rfl rfl rfl ⟨rfl, hd_X0_stayOf⟩ ⟨Nat.le_of_ble_eq_true rfl, Nat.le_of_ble_eq_true rfl⟩) (pwV (ci := 0) (q0 := 0) (C := RX0) hw hK rfl rfl rfl (pwS (AV := [.ref (A 0), .int (nI i)]) hw hK hG [0, 1, 2, 3, 4, 5, 6] rfl rfl)) rfl rfl hl.1 rfl (lv_room (Nat.le_of_ble_eq_true rfl)) dX0_countNightOut_9 ⟨Nat.le_of_ble_eq_true rfl, Nat.le_of_ble_eq_true rfl⟩) hw hA [0, 1, 2, 3, 4, 5, 6] rfl rfl rfl rfl (fun H locs hw => ?_)
      refine lv_iconst (v := 1) hx hb dX0_countNightOut_12 (by decide) ?_
      refine lv_icmp_ne (tgt := 59) hx hb dX0_countNightOut_13 (by decide) (fun c_1 => ?_) (fun c_1 => ?_)
      · refine lv_iinc (v := nI (i + 1)) (lv' := [(1, .int (nI (i + 1))), (0, .ref (A 0))]) hx hb dX0_countNightOut_59 hl (k := 1) rfl (nI_add i 1) (by decide) rfl (fun ls hl => ?_)
        refine lv_goto (tgt := 2) hx hb dX0_countNightOut_62 (by decide) ?_
        exact ih_2 (i + 1) _ _ _ (by omega) (hw.to (by first | assumption | rfl | (simp only [l_loss, if_neg c_1, if_true, if_false, Bool.false_eq_true, Bool.true_eq_false, reduceIte, reduceCtorEq]; done) | (simp only [l_loss, if_neg c_1, if_true, if_false, Bool.false_eq_true, Bool.true_eq_false, reduceIte, reduceCtorEq]; rfl) | (simp [l_loss, if_neg c_1, if_true, if_false, Bool.false_eq_true, Bool.true_eq_false, reduceIte, reduceCtorEq]; done) | (simp [bI, l_loss, c_1]; done))) (lv_sub hl [1, 0] rfl)
      · refine lv_aload_n hx hb dX0_countNightOut_16 rfl (lv_at hl 0 rfl) ?_
        refine k_get (ci := 0) (v := .ref (A 2)) (C := RX0) (T := TX0) (N := 10) hx hb hown hK hw hts hinX0 0 rfl rfl 2 (by decide) hf15 rfl dX0_countNightOut_17 ?_
        refine lv_iload_n hx hb dX0_countNightOut_20 rfl (lv_at hl 1 rfl) ?_
        refine kc_i (ws' := wC E A (B 0) (l_loss G S i) ++ wG E B G) (va_runSN (As := [.ref (A 2), .int (nI i)]) (rest := []) ⟨hx, hb, hml, hown, hts⟩ (c_X2_at l E (A 2) 5 (c_ou (l_loss G S i)) (nI i) (by decide) _) ⟨va_cnB 2 hts ggX0_countNightOut_X2_at rfl rfl rfl (hG.nw 15 (w := .methodLinkNest RX0 53 yX2_at "SailorCandles") rfl) (hts (.initialized RX2) (by decide +kernel)) hd_X2_at ⟨Nat.le_of_ble_eq_true rfl, Nat.le_of_ble_eq_true rfl⟩, hts (.static yX2_at) (by decide +kernel), trivial⟩ (pwS (AV := [.ref (A 2), .int (nI i)]) hw hK hG [2] rfl rfl) rfl rfl hl.1 rfl (lv_room (Nat.le_of_ble_eq_true rfl)) dX0_countNightOut_21 ⟨Nat.le_of_ble_eq_true rfl, Nat.le_of_ble_eq_true rfl⟩) hw hA [2] rfl rfl rfl rfl (fun H locs hw => ?_)
        refine lv_iconst (v := 1) hx hb dX0_countNightOut_24 (by decide) ?_
        refine lv_iadd hx hb dX0_countNightOut_25 ?_
        refine lv_istore_n (lv' := [(2, .int ((f_at 5 (c_ou (l_loss G S i)) (nI i)) + 1)), (0, .ref (A 0)), (1, .int (nI i))]) hx hb dX0_countNightOut_26 rfl hl (by decide) rfl (fun ls hl => ?_)
        refine lv_aload_n hx hb dX0_countNightOut_27 rfl (lv_at hl 1 rfl) ?_
        refine k_get (ci := 0) (v := .ref (A 2)) (C := RX0) (T := TX0) (N := 10) hx hb hown hK hw hts hinX0 0 rfl rfl 2 (by decide) hf15 rfl dX0_countNightOut_28 ?_
        refine lv_iload_n hx hb dX0_countNightOut_31 rfl (lv_at hl 2 rfl) ?_
        refine lv_iload_n hx hb dX0_countNightOut_32 rfl (lv_at hl 0 rfl) ?_
        refine kc_v (ws' := wC E A (B 0) (p_ou (l_loss G S i) (f_put 5 (c_ou (l_loss G S i)) (nI i) ((f_at 5 (c_ou (l_loss G S i)) (nI i)) + 1))) ++ wG E B G) (va_runSN (As := [.ref (A 2), .int (nI i), .int ((f_at 5 (c_ou (l_loss G S i)) (nI i)) + 1)]) (rest := []) ⟨hx, hb, hml, hown, hts⟩ (c_X2_put l E (A 2) 5 (c_ou (l_loss G S i)) (nI i) ((f_at 5 (c_ou (l_loss G S i)) (nI i)) + 1) (by decide) _) ⟨va_cnB 3 hts ggX0_countNightOut_X2_put rfl rfl rfl (hG.nw 18 (w := .methodLinkNest RX0 57 yX2_put "SailorCandles") rfl) (hts (.initialized RX2) (by decide +kernel)) hd_X2_put ⟨Nat.le_of_ble_eq_true rfl, Nat.le_of_ble_eq_true rfl⟩, hts (.static yX2_put) (by decide +kernel), trivial⟩ (pwS (AV := [.ref (A 2), .int (nI i), .int ((f_at 5 (c_ou (l_loss G S i)) (nI i)) + 1)]) hw hK hG [2] rfl rfl) rfl rfl hl.1 rfl (lv_room (Nat.le_of_ble_eq_true rfl)) dX0_countNightOut_33 ⟨Nat.le_of_ble_eq_true rfl, Nat.le_of_ble_eq_true rfl⟩) hw hA [2] rfl rfl rfl rfl (fun H locs hw => ?_)
        refine lv_iload_n hx hb dX0_countNightOut_36 rfl (lv_at hl 0 rfl) ?_
        refine lv_bipush (v := 20) hx hb dX0_countNightOut_37 (by decide) ?_
        refine lv_icmp_le (tgt := 59) hx hb dX0_countNightOut_39 (by decide) (fun c_2 => ?_) (fun c_2 => ?_)
        · refine lv_iinc (v := nI (i + 1)) (lv' := [(1, .int (nI (i + 1))), (2, .int ((f_at 5 (c_ou (l_loss G S i)) (nI i)) + 1)), (0, .ref (A 0))]) hx hb dX0_countNightOut_59 hl (k := 2) rfl (nI_add i 1) (by decide) rfl (fun ls hl => ?_)
          refine lv_goto (tgt := 2) hx hb dX0_countNightOut_62 (by decide) ?_
          exact ih_2 (i + 1) _ _ _ (by omega) (hw.to (by first | assumption | rfl | (simp only [l_loss, if_pos c_1, if_pos c_2, if_true, if_false, Bool.false_eq_true, Bool.true_eq_false, reduceIte, reduceCtorEq]; done) | (simp only [l_loss, if_pos c_1, if_pos c_2, if_true, if_false, Bool.false_eq_true, Bool.true_eq_false, reduceIte, reduceCtorEq]; rfl) | (simp [l_loss, if_pos c_1, if_pos c_2, if_true, if_false, Bool.false_eq_true, Bool.true_eq_false, reduceIte, reduceCtorEq]; done) | (simp [bI, l_loss, c_1, c_2]; done))) (lv_sub hl [2, 0] rfl)
        · refine lv_aload_n hx hb dX0_countNightOut_42 rfl (lv_at hl 1 rfl) ?_
          refine k_get (ci := 0) (v := .ref (B 0)) (C := RX0) (T := TX0) (N := 10) hx hb hown hK hw hts hinX0 0 rfl rfl 0 (by decide) hf31 rfl dX0_countNightOut_43 ?_
          refine lv_iload_n hx hb dX0_countNightOut_46 rfl (lv_at hl 2 rfl) ?_
          refine kc_i (ws' := wC E A (B 0) (p_ou (l_loss G S i) (f_put 5 (c_ou (l_loss G S i)) (nI i) ((f_at 5 (c_ou (l_loss G S i)) (nI i)) + 1))) ++ wG E B G) (va_runV (As := [.int (nI i)]) (rest := []) ⟨hx, hb, hml, hown, hts⟩ (c_X1_votesToLose l E B G (nI i)  _) (cwV 1 hts gX0_countNightOut_X1_votesToLose rfl rfl rfl ⟨rfl, hd_X1_votesToLose⟩ ⟨Nat.le_of_ble_eq_true rfl, Nat.le_of_ble_eq_true rfl⟩) (pwV (ci := 1) (q0 := 7) (C := RX1) hw hK rfl rfl rfl (pwS (AV := [.ref (B 0), .int (nI i)]) hw hK hG [7, 8, 9, 10, 11, 12] rfl rfl)) rfl rfl hl.1 rfl (lv_room (Nat.le_of_ble_eq_true rfl)) dX0_countNightOut_47 ⟨Nat.le_of_ble_eq_true rfl, Nat.le_of_ble_eq_true rfl⟩) hw hA [7, 8, 9, 10, 11, 12] rfl rfl rfl rfl (fun H locs hw => ?_)
          refine lv_if_ne (tgt := 59) hx hb dX0_countNightOut_50 (by decide) (fun c_3 => ?_) (fun c_3 => ?_)
          · refine lv_iinc (v := nI (i + 1)) (lv' := [(1, .int (nI (i + 1))), (2, .int ((f_at 5 (c_ou (l_loss G S i)) (nI i)) + 1)), (0, .ref (A 0))]) hx hb dX0_countNightOut_59 hl (k := 2) rfl (nI_add i 1) (by decide) rfl (fun ls hl => ?_)
            refine lv_goto (tgt := 2) hx hb dX0_countNightOut_62 (by decide) ?_
            exact ih_2 (i + 1) _ _ _ (by omega) (hw.to (by first | assumption | rfl | (simp only [l_loss, if_pos c_1, if_neg c_2, if_neg c_3, if_true, if_false, Bool.false_eq_true, Bool.true_eq_false, reduceIte, reduceCtorEq]; done) | (simp only [l_loss, if_pos c_1, if_neg c_2, if_neg c_3, if_true, if_false, Bool.false_eq_true, Bool.true_eq_false, reduceIte, reduceCtorEq]; rfl) | (simp [l_loss, if_pos c_1, if_neg c_2, if_neg c_3, if_true, if_false, Bool.false_eq_true, Bool.true_eq_false, reduceIte, reduceCtorEq]; done) | (simp [bI, l_loss, c_1, c_2, c_3]; done))) (lv_sub hl [2, 0] rfl)
          · refine lv_aload_n hx hb dX0_countNightOut_53 rfl (lv_at hl 1 rfl) ?_
            refine lv_iload_n hx hb dX0_countNightOut_54 rfl (lv_at hl 2 rfl) ?_
            refine lv_iconst (v := 2) hx hb dX0_countNightOut_55 (by decide) ?_
            refine kc_v (ws' := wC E A (B 0) (f_end G (p_ou (l_loss G S i) (f_put 5 (c_ou (l_loss G S i)) (nI i) ((f_at 5 (c_ou (l_loss G S i)) (nI i)) + 1))) (nI i) 2) ++ wG E B G) (va_runV (As := [.int (nI i), .int 2]) (rest := []) ⟨hx, hb, hml, hown, hts⟩ (c_X0_endWaiting l E A B (p_ou (l_loss G S i) (f_put 5 (c_ou (l_loss G S i)) (nI i) ((f_at 5 (c_ou (l_loss G S i)) (nI i)) + 1))) G (nI i) 2  _) (cwV 2 hts gX0_countNightOut_X0_endWaiting rfl rfl rfl ⟨rfl, hd_X0_endWaiting⟩ ⟨Nat.le_of_ble_eq_true rfl, Nat.le_of_ble_eq_true rfl⟩) (pwV (ci := 0) (q0 := 0) (C := RX0) hw hK rfl rfl rfl (pwS (AV := [.ref (A 0), .int (nI i), .int 2]) hw hK hG [0, 1, 2, 3, 4, 5, 6, 7, 8, 9, 10, 11, 12] rfl rfl)) rfl rfl hl.1 rfl (lv_room (Nat.le_of_ble_eq_true rfl)) dX0_countNightOut_56 ⟨Nat.le_of_ble_eq_true rfl, Nat.le_of_ble_eq_true rfl⟩) hw hA [0, 1, 2, 3, 4, 5, 6, 7, 8, 9, 10, 11, 12] rfl rfl rfl rfl (fun H locs hw => ?_)
            refine lv_iinc (v := nI (i + 1)) (lv' := [(1, .int (nI (i + 1))), (2, .int ((f_at 5 (c_ou (l_loss G S i)) (nI i)) + 1)), (0, .ref (A 0))]) hx hb dX0_countNightOut_59 hl (k := 2) rfl (nI_add i 1) (by decide) rfl (fun ls hl => ?_)
            refine lv_goto (tgt := 2) hx hb dX0_countNightOut_62 (by decide) ?_
            exact ih_2 (i + 1) _ _ _ (by omega) (hw.to (by first | assumption | rfl | (simp only [l_loss, if_pos c_1, if_neg c_2, if_pos c_3, if_true, if_false, Bool.false_eq_true, Bool.true_eq_false, reduceIte, reduceCtorEq]; done) | (simp only [l_loss, if_pos c_1, if_neg c_2, if_pos c_3, if_true, if_false, Bool.false_eq_true, Bool.true_eq_false, reduceIte, reduceCtorEq]; rfl) | (simp [l_loss, if_pos c_1, if_neg c_2, if_pos c_3, if_true, if_false, Bool.false_eq_true, Bool.true_eq_false, reduceIte, reduceCtorEq]; done) | (simp [bI, l_loss, c_1, c_2, c_3]; done))) (lv_sub hl [2, 0] rfl)
  exact L_2 (5 - 0) 0 _ _ _ (by omega) hw (lv_sub hl [1, 0] rfl)
abbrev rm_X0_passNight : Room := { frames := 4, cells := 0, slots := 0, locals := 89 }
set_option maxHeartbeats 4000000 in
set_option maxRecDepth 100000 in
theorem c_X0_passNight (l : Launch) (E : Ev) (A B : Nat → Nat) (S : CS) (G : HS) : MI l E yX0_passNight wsX0_passNight rm_X0_passNight [.ref (A 0)] (wC E A (B 0) S ++ wG E B G) (f_nightN G S) (wC E A (B 0) (f_night G S) ++ wG E B G) := by
  refine k_bI (cc := cX0_passNight) (maxL := 2) (ret := (some .int)) (by decide) rfl (by decide) ?_
  intro p e s m args below meth c A9 ls hC hl hw
  obtain ⟨hx, hb, hml, hr, hown, hts, hlocks, hK, hG, hA⟩ := hC
  have hinX0 : ∀ w ∈ wsX00, w ∈ wsX0_passNight := by decide +kernel
  have hinX1 : ∀ w ∈ wsX10, w ∈ wsX0_passNight := by decide +kernel
  have hf43 := hts (.fieldLink RX0 43 "SailorCandles$Chapel" "nightsPassed" "I") (by decide +kernel)
  have hl : lv_has ls 2 [(0, .ref (A 0))] := hl
  refine lv_aload_n hx hb dX0_passNight_0 rfl (lv_at hl 0 rfl) ?_
  refine kc_v (ws' := wC E A (B 0) (l_age S 20) ++ wG E B G) (va_runV (As := []) (rest := []) ⟨hx, hb, hml, hown, hts⟩ (c_X0_ageSightings l E A (B 0) S  _) (cwV 0 hts gX0_passNight_X0_ageSightings rfl rfl rfl ⟨rfl, hd_X0_ageSightings⟩ ⟨Nat.le_of_ble_eq_true rfl, Nat.le_of_ble_eq_true rfl⟩) (pwV (ci := 0) (q0 := 0) (C := RX0) hw hK rfl rfl rfl (pwS (AV := [.ref (A 0)]) hw hK hG [0, 1, 2, 3, 4, 5, 6] rfl rfl)) rfl rfl hl.1 rfl (lv_room (Nat.le_of_ble_eq_true rfl)) dX0_passNight_1 ⟨Nat.le_of_ble_eq_true rfl, Nat.le_of_ble_eq_true rfl⟩) hw hA [0, 1, 2, 3, 4, 5, 6] rfl rfl rfl rfl (fun H locs hw => ?_)
  refine lv_aload_n hx hb dX0_passNight_4 rfl (lv_at hl 0 rfl) ?_
  refine kc_v (ws' := wC E A (B 0) (l_unr (l_age S 20) 5) ++ wG E B G) (va_runV (As := []) (rest := []) ⟨hx, hb, hml, hown, hts⟩ (c_X0_unringBells l E A (B 0) (l_age S 20)  _) (cwV 0 hts gX0_passNight_X0_unringBells rfl rfl rfl ⟨rfl, hd_X0_unringBells⟩ ⟨Nat.le_of_ble_eq_true rfl, Nat.le_of_ble_eq_true rfl⟩) (pwV (ci := 0) (q0 := 0) (C := RX0) hw hK rfl rfl rfl (pwS (AV := [.ref (A 0)]) hw hK hG [0, 1, 2, 3, 4, 5, 6] rfl rfl)) rfl rfl hl.1 rfl (lv_room (Nat.le_of_ble_eq_true rfl)) dX0_passNight_5 ⟨Nat.le_of_ble_eq_true rfl, Nat.le_of_ble_eq_true rfl⟩) hw hA [0, 1, 2, 3, 4, 5, 6] rfl rfl rfl rfl (fun H locs hw => ?_)
  refine lv_aload_n hx hb dX0_passNight_8 rfl (lv_at hl 0 rfl) ?_
  refine kc_i (ws' := wC E A (B 0) (l_burnS G (l_unr (l_age S 20) 5) 16) ++ wG E B G) (va_runV (As := []) (rest := []) ⟨hx, hb, hml, hown, hts⟩ (c_X0_burnCandles l E A B (l_unr (l_age S 20) 5) G  _) (cwV 0 hts gX0_passNight_X0_burnCandles rfl rfl rfl ⟨rfl, hd_X0_burnCandles⟩ ⟨Nat.le_of_ble_eq_true rfl, Nat.le_of_ble_eq_true rfl⟩) (pwV (ci := 0) (q0 := 0) (C := RX0) hw hK rfl rfl rfl (pwS (AV := [.ref (A 0)]) hw hK hG [0, 1, 2, 3, 4, 5, 6, 7, 8, 9, 10, 11, 12] rfl rfl)) rfl rfl hl.1 rfl (lv_room (Nat.le_of_ble_eq_true rfl)) dX0_passNight_9 ⟨Nat.le_of_ble_eq_true rfl, Nat.le_of_ble_eq_true rfl⟩) hw hA [0, 1, 2, 3, 4, 5, 6, 7, 8, 9, 10, 11, 12] rfl rfl rfl rfl (fun H locs hw => ?_)
  refine lv_istore_n (lv' := [(1, .int (l_burnN G (l_unr (l_age S 20) 5) 16)), (0, .ref (A 0))]) hx hb dX0_passNight_12 rfl hl (by decide) rfl (fun ls hl => ?_)
  refine lv_aload_n hx hb dX0_passNight_13 rfl (lv_at hl 1 rfl) ?_
  refine kc_v (ws' := wC E A (B 0) (l_loss G (l_burnS G (l_unr (l_age S 20) 5) 16) 5) ++ wG E B G) (va_runV (As := []) (rest := []) ⟨hx, hb, hml, hown, hts⟩ (c_X0_countNightOut l E A B (l_burnS G (l_unr (l_age S 20) 5) 16) G  _) (cwV 0 hts gX0_passNight_X0_countNightOut rfl rfl rfl ⟨rfl, hd_X0_countNightOut⟩ ⟨Nat.le_of_ble_eq_true rfl, Nat.le_of_ble_eq_true rfl⟩) (pwV (ci := 0) (q0 := 0) (C := RX0) hw hK rfl rfl rfl (pwS (AV := [.ref (A 0)]) hw hK hG [0, 1, 2, 3, 4, 5, 6, 7, 8, 9, 10, 11, 12] rfl rfl)) rfl rfl hl.1 rfl (lv_room (Nat.le_of_ble_eq_true rfl)) dX0_passNight_14 ⟨Nat.le_of_ble_eq_true rfl, Nat.le_of_ble_eq_true rfl⟩) hw hA [0, 1, 2, 3, 4, 5, 6, 7, 8, 9, 10, 11, 12] rfl rfl rfl rfl (fun H locs hw => ?_)
  refine lv_aload_n hx hb dX0_passNight_17 rfl (lv_at hl 1 rfl) ?_
  refine lv_dup hx hb dX0_passNight_18 rfl ?_
  refine k_get (ci := 0) (v := .int (c_ni (l_loss G (l_burnS G (l_unr (l_age S 20) 5) 16) 5))) (C := RX0) (T := TX0) (N := 10) hx hb hown hK hw hts hinX0 0 rfl rfl 7 (by decide) hf43 rfl dX0_passNight_19 ?_
  refine lv_iconst (v := 1) hx hb dX0_passNight_22 (by decide) ?_
  refine lv_iadd hx hb dX0_passNight_23 ?_
  refine k_put (ci := 0) (C := RX0) (T := TX0) (N := 10) (ws' := wC E A (B 0) (p_ni (l_loss G (l_burnS G (l_unr (l_age S 20) 5) 16) 5) ((c_ni (l_loss G (l_burnS G (l_unr (l_age S 20) 5) 16) 5)) + 1)) ++ wG E B G) hx hb hown hK hw hts hinX0 tyX0 tyX0_ok nmX0 0 rfl rfl 7 (by decide) hf43 rfl rfl (by decide) dX0_passNight_24 rfl (fun H locs hw => ?_)
  refine lv_iload_n hx hb dX0_passNight_27 rfl (lv_at hl 0 rfl) ?_
  exact k_iret hx hb hr hlocks hK hw rfl dX0_passNight_28 (by first | assumption | rfl | (simp only [if_true, if_false, Bool.false_eq_true, Bool.true_eq_false, reduceIte, reduceCtorEq]; done) | (simp only [if_true, if_false, Bool.false_eq_true, Bool.true_eq_false, reduceIte, reduceCtorEq]; rfl) | (simp [if_true, if_false, Bool.false_eq_true, Bool.true_eq_false, reduceIte, reduceCtorEq]; done) | (simp [bI, ]; done)) rfl
abbrev rm_X0_passNights : Room := { frames := 5, cells := 0, slots := 0, locals := 110 }
set_option maxHeartbeats 4000000 in
set_option maxRecDepth 100000 in
theorem c_X0_passNights (l : Launch) (E : Ev) (A B : Nat → Nat) (S : CS) (G : HS) (n : Nat) (hn : n < 2147483648) : MI l E yX0_passNights wsX0_passNights rm_X0_passNights [.ref (A 0), .int (nI n)] (wC E A (B 0) S ++ wG E B G) (l_passN G S n) (wC E A (B 0) (l_passS G S n) ++ wG E B G) := by
  refine k_bI (cc := cX0_passNights) (maxL := 4) (ret := (some .int)) (by decide) rfl (by decide) ?_
  intro p e s m args below meth c A9 ls hC hl hw
  obtain ⟨hx, hb, hml, hr, hown, hts, hlocks, hK, hG, hA⟩ := hC
  have hinX0 : ∀ w ∈ wsX00, w ∈ wsX0_passNights := by decide +kernel
  have hinX1 : ∀ w ∈ wsX10, w ∈ wsX0_passNights := by decide +kernel
  have hl : lv_has ls 4 [(0, .ref (A 0)), (1, .int (nI n))] := hl
  refine lv_iconst (v := 0) hx hb dX0_passNights_0 (by decide) ?_
  refine lv_istore_n (lv' := [(2, .int 0), (0, .ref (A 0)), (1, .int (nI n))]) hx hb dX0_passNights_1 rfl hl (by decide) rfl (fun ls hl => ?_)
  refine lv_iconst (v := 0) hx hb dX0_passNights_2 (by decide) ?_
  refine lv_istore_n (lv' := [(3, .int 0), (2, .int 0), (0, .ref (A 0)), (1, .int (nI n))]) hx hb dX0_passNights_3 rfl hl (by decide) rfl (fun ls hl => ?_)
  have L_4 : ∀ (n i : Nat) (H : Heap) (locs : List Loc) (ls : Array Slot), i + n = n → Wd E A9 s.heap (wC E A (B 0) (l_passS G S i) ++ wG E B G) H locs → lv_has ls 4 [(0, .ref (A 0)), (1, .int (nI n)), (2, .int (l_passN G S i)), (3, .int (nI i))] → W p l e rm_X0_passNights s m args below meth c H locs 0 0 (EndI E A9 (l_passN G S n) (wC E A (B 0) (l_passS G S n) ++ wG E B G) below args s (rm_X0_passNights).cells (rm_X0_passNights).slots) (F0 m 4 ls []) := by
    intro n
    induction n with
    | zero =>
      intro i H locs ls hi hw hl
      have hi9 : n = i := by omega
      subst hi9
      refine lv_iload_n hx hb dX0_passNights_4 rfl (lv_at hl 3 rfl) ?_
      refine lv_iload_n hx hb dX0_passNights_5 rfl (lv_at hl 1 rfl) ?_
      refine lv_icmp_ge (tgt := 22) hx hb dX0_passNights_6 (by decide) (fun _ => ?_) (fun q8 => absurd (by rw [hi9]; exact Int32.le_refl _) q8)
      refine lv_iload_n hx hb dX0_passNights_22 rfl (lv_at hl 2 rfl) ?_
      exact k_iret hx hb hr hlocks hK hw rfl dX0_passNights_23 rfl rfl
    | succ n ih_4 =>
      intro i H locs ls hi hw hl
      have hi9 : i < n := by omega
      refine lv_iload_n hx hb dX0_passNights_4 rfl (lv_at hl 3 rfl) ?_
      refine lv_iload_n hx hb dX0_passNights_5 rfl (lv_at hl 1 rfl) ?_
      refine lv_icmp_ge (tgt := 22) hx hb dX0_passNights_6 (by decide) (fun q8 => absurd q8 (nI_ge (a := i) (b := n) (by omega) (by omega))) (fun _ => ?_)
      refine lv_iload_n hx hb dX0_passNights_9 rfl (lv_at hl 2 rfl) ?_
      refine lv_aload_n hx hb dX0_passNights_10 rfl (lv_at hl 0 rfl) ?_
      refine kc_i (ws' := wC E A (B 0) (f_night G (l_passS G S i)) ++ wG E B G) (va_runV (As := []) (rest := [.int (l_passN G S i)]) ⟨hx, hb, hml, hown, hts⟩ (c_X0_passNight l E A B (l_passS G S i) G  _) (cwV 0 hts gX0_passNights_X0_passNight rfl rfl rfl ⟨rfl, hd_X0_passNight⟩ ⟨Nat.le_of_ble_eq_true rfl, Nat.le_of_ble_eq_true rfl⟩) (pwV (ci := 0) (q0 := 0) (C := RX0) hw hK rfl rfl rfl (pwS (AV := [.ref (A 0)]) hw hK hG [0, 1, 2, 3, 4, 5, 6, 7, 8, 9, 10, 11, 12] rfl rfl)) rfl rfl hl.1 rfl (lv_room (Nat.le_of_ble_eq_true rfl)) dX0_passNights_11 ⟨Nat.le_of_ble_eq_true rfl, Nat.le_of_ble_eq_true rfl⟩) hw hA [0, 1, 2, 3, 4, 5, 6, 7, 8, 9, 10, 11, 12] rfl rfl rfl rfl (fun H locs hw => ?_)
      refine lv_iadd hx hb dX0_passNights_14 ?_
      refine lv_istore_n (lv' := [(2, .int ((l_passN G S i) + (f_nightN G (l_passS G S i)))), (0, .ref (A 0)), (1, .int (nI n)), (3, .int (nI i))]) hx hb dX0_passNights_15 rfl hl (by decide) rfl (fun ls hl => ?_)
      refine lv_iinc (v := nI (i + 1)) (lv' := [(3, .int (nI (i + 1))), (2, .int ((l_passN G S i) + (f_nightN G (l_passS G S i)))), (0, .ref (A 0)), (1, .int (nI n))]) hx hb dX0_passNights_16 hl (k := 3) rfl (nI_add i 1) (by decide) rfl (fun ls hl => ?_)
      refine lv_goto (tgt := 4) hx hb dX0_passNights_19 (by decide) ?_
      exact ih_4 (i + 1) _ _ _ (by omega) (hw.to (by first | assumption | rfl | (simp only [l_passN, l_passS, if_true, if_false, Bool.false_eq_true, Bool.true_eq_false, reduceIte, reduceCtorEq]; done) | (simp only [l_passN, l_passS, if_true, if_false, Bool.false_eq_true, Bool.true_eq_false, reduceIte, reduceCtorEq]; rfl) | (simp [l_passN, l_passS, if_true, if_false, Bool.false_eq_true, Bool.true_eq_false, reduceIte, reduceCtorEq]; done) | (simp [bI, l_passN, l_passS]; done))) (by rw [show (.int (l_passN G S (i + 1)) : Value) = .int ((l_passN G S i) + (f_nightN G (l_passS G S i))) from (by first | assumption | rfl | (simp only [l_passN, l_passS, if_true, if_false, Bool.false_eq_true, Bool.true_eq_false, reduceIte, reduceCtorEq]; done) | (simp only [l_passN, l_passS, if_true, if_false, Bool.false_eq_true, Bool.true_eq_false, reduceIte, reduceCtorEq]; rfl) | (simp [l_passN, l_passS, if_true, if_false, Bool.false_eq_true, Bool.true_eq_false, reduceIte, reduceCtorEq]; done) | (simp [bI, l_passN, l_passS]; done))]; exact lv_sub hl [2, 3, 1, 0] rfl)
  exact L_4 (n - 0) 0 _ _ _ (by omega) hw (lv_sub hl [2, 3, 1, 0] rfl)
