abbrev rm_X0_copyFrom : Room := { frames := 1, cells := 0, slots := 0, locals := 22 }
set_option maxHeartbeats 4000000 in
set_option maxRecDepth 100000 in
theorem c_X0_copyFrom (l : Launch) (E : Ev) (T A : Nat → Nat) (o1 o2 : Nat) (U S : CS) : MV l E yX0_copyFrom wsX0_copyFrom rm_X0_copyFrom [.ref (T 0), .ref (A 0)] (wC E T o1 U ++ wC E A o2 S) (wC E T o1 S ++ wC E A o2 S) := by
  refine k_bV (cc := cX0_copyFrom) (maxL := 2) (ret := none) (by decide) rfl (Nat.le_of_ble_eq_true rfl) ?_
  intro p9 e s9 m args below meth c A9 ls hC hl hw
  obtain ⟨hx, hb, hml, hr, hown, hts, hlocks, hK, hG, hA⟩ := hC
  have hf9 := hts (.fieldLink RX0 9 "SailorCandles$Chapel" "stay" "[I") (List.mem_of_getElem? (i := 1) rfl)
  have hinX0 : ∀ w ∈ wsX00, w ∈ wsX0_copyFrom := fun w h => List.mem_cons_of_mem _ (List.mem_append_right _ h)
  have hq2 := hts (.initialized RX2) (List.mem_of_getElem? (i := 11) rfl)
  have hq3 := hts (.static yX2_copyRow) (List.mem_of_getElem? (i := 10) rfl)
  have hf15 := hts (.fieldLink RX0 15 "SailorCandles$Chapel" "outFor" "[I") (List.mem_of_getElem? (i := 2) rfl)
  have hf18 := hts (.fieldLink RX0 18 "SailorCandles$Chapel" "rung" "[Z") (List.mem_of_getElem? (i := 3) rfl)
  have hq6 := hts (.static yX2_copyMarks) (List.mem_of_getElem? (i := 13) rfl)
  have hf22 := hts (.fieldLink RX0 22 "SailorCandles$Chapel" "candle" "[I") (List.mem_of_getElem? (i := 4) rfl)
  have hf25 := hts (.fieldLink RX0 25 "SailorCandles$Chapel" "trust" "[I") (List.mem_of_getElem? (i := 5) rfl)
  have hf28 := hts (.fieldLink RX0 28 "SailorCandles$Chapel" "sightingAge" "[I") (List.mem_of_getElem? (i := 6) rfl)
  have hf43 := hts (.fieldLink RX0 43 "SailorCandles$Chapel" "nightsPassed" "I") (List.mem_of_getElem? (i := 7) rfl)
  have hf47 := hts (.fieldLink RX0 47 "SailorCandles$Chapel" "waxLeft" "I") (List.mem_of_getElem? (i := 8) rfl)
  have hf50 := hts (.fieldLink RX0 50 "SailorCandles$Chapel" "unringings" "I") (List.mem_of_getElem? (i := 9) rfl)
  have hl : lv_has ls 2 [(0, .ref (T 0)), (1, .ref (A 0))] := hl
  refine lv_aload_n hx hb dX0_copyFrom_0 rfl (lv_at hl 1 rfl) ?_
  refine k_get (ci := 0) (v := .ref (A 1)) (C := RX0) (T := TX0) (N := 10) hx hb hown hK hw hts hinX0 7 rfl rfl 1 (by decide) hf9 rfl dX0_copyFrom_1 ?_
  refine lv_aload_n hx hb dX0_copyFrom_4 rfl (lv_at hl 0 rfl) ?_
  refine k_get (ci := 0) (v := .ref (T 1)) (C := RX0) (T := TX0) (N := 10) hx hb hown hK hw hts hinX0 0 rfl rfl 1 (by decide) hf9 rfl dX0_copyFrom_5 ?_
  refine kr_v (ws' := wC E T o1 (p_st U (l_cpy (c_st S) (c_st U) 5)) ++ wC E A o2 S) (va_runSN (As := [.ref (A 1), .ref (T 1)]) (rest := []) ⟨hx, hb, hml, hown, hts⟩ (c_X2_copyRow l E (A 1) (T 1) 5 (c_st S) (c_st U) (by decide) _) ⟨va_cnB 2 hts ggX0_copyFrom_X2_copyRow rfl rfl rfl (hG.nw 19 (w := .methodLinkNest RX0 35 yX2_copyRow "SailorCandles") rfl) hq2 hd_X2_copyRow ⟨Nat.le_of_ble_eq_true rfl, Nat.le_of_ble_eq_true rfl⟩, hq3, trivial⟩ (rpS (AV := [.ref (A 1), .ref (T 1)]) hw hK hG rp_10) rfl rfl hl.1 rfl (lv_room (Nat.le_of_ble_eq_true rfl)) dX0_copyFrom_8 ⟨Nat.le_of_ble_eq_true rfl, Nat.le_of_ble_eq_true rfl⟩) hw hA rp_9 (fun H locs hw => ?_)
  refine lv_aload_n hx hb dX0_copyFrom_11 rfl (lv_at hl 1 rfl) ?_
  refine k_get (ci := 0) (v := .ref (A 2)) (C := RX0) (T := TX0) (N := 10) hx hb hown hK hw hts hinX0 7 rfl rfl 2 (by decide) hf15 rfl dX0_copyFrom_12 ?_
  refine lv_aload_n hx hb dX0_copyFrom_15 rfl (lv_at hl 0 rfl) ?_
  refine k_get (ci := 0) (v := .ref (T 2)) (C := RX0) (T := TX0) (N := 10) hx hb hown hK hw hts hinX0 0 rfl rfl 2 (by decide) hf15 rfl dX0_copyFrom_16 ?_
  refine kr_v (ws' := wC E T o1 (p_ou (p_st U (l_cpy (c_st S) (c_st U) 5)) (l_cpy (c_ou S) (c_ou U) 5)) ++ wC E A o2 S) (va_runSN (As := [.ref (A 2), .ref (T 2)]) (rest := []) ⟨hx, hb, hml, hown, hts⟩ (c_X2_copyRow l E (A 2) (T 2) 5 (c_ou S) (c_ou U) (by decide) _) ⟨va_cnB 2 hts ggX0_copyFrom_X2_copyRow rfl rfl rfl (hG.nw 19 (w := .methodLinkNest RX0 35 yX2_copyRow "SailorCandles") rfl) hq2 hd_X2_copyRow ⟨Nat.le_of_ble_eq_true rfl, Nat.le_of_ble_eq_true rfl⟩, hq3, trivial⟩ (rpS (AV := [.ref (A 2), .ref (T 2)]) hw hK hG rp_12) rfl rfl hl.1 rfl (lv_room (Nat.le_of_ble_eq_true rfl)) dX0_copyFrom_19 ⟨Nat.le_of_ble_eq_true rfl, Nat.le_of_ble_eq_true rfl⟩) hw hA rp_11 (fun H locs hw => ?_)
  refine lv_aload_n hx hb dX0_copyFrom_22 rfl (lv_at hl 1 rfl) ?_
  refine k_get (ci := 0) (v := .ref (A 3)) (C := RX0) (T := TX0) (N := 10) hx hb hown hK hw hts hinX0 7 rfl rfl 3 (by decide) hf18 rfl dX0_copyFrom_23 ?_
  refine lv_aload_n hx hb dX0_copyFrom_26 rfl (lv_at hl 0 rfl) ?_
  refine k_get (ci := 0) (v := .ref (T 3)) (C := RX0) (T := TX0) (N := 10) hx hb hown hK hw hts hinX0 0 rfl rfl 3 (by decide) hf18 rfl dX0_copyFrom_27 ?_
  refine kr_v (ws' := wC E T o1 (p_ru (p_ou (p_st U (l_cpy (c_st S) (c_st U) 5)) (l_cpy (c_ou S) (c_ou U) 5)) (l_cpyB (c_ru S) (c_ru U) 5)) ++ wC E A o2 S) (va_runSN (As := [.ref (A 3), .ref (T 3)]) (rest := []) ⟨hx, hb, hml, hown, hts⟩ (c_X2_copyMarks l E (A 3) (T 3) 5 (c_ru S) (c_ru U) (by decide) _) ⟨va_cnB 2 hts ggX0_copyFrom_X2_copyMarks rfl rfl rfl (hG.nw 20 (w := .methodLinkNest RX0 39 yX2_copyMarks "SailorCandles") rfl) hq2 hd_X2_copyMarks ⟨Nat.le_of_ble_eq_true rfl, Nat.le_of_ble_eq_true rfl⟩, hq6, trivial⟩ (rpS (AV := [.ref (A 3), .ref (T 3)]) hw hK hG rp_14) rfl rfl hl.1 rfl (lv_room (Nat.le_of_ble_eq_true rfl)) dX0_copyFrom_30 ⟨Nat.le_of_ble_eq_true rfl, Nat.le_of_ble_eq_true rfl⟩) hw hA rp_13 (fun H locs hw => ?_)
  refine lv_aload_n hx hb dX0_copyFrom_33 rfl (lv_at hl 1 rfl) ?_
  refine k_get (ci := 0) (v := .ref (A 4)) (C := RX0) (T := TX0) (N := 10) hx hb hown hK hw hts hinX0 7 rfl rfl 4 (by decide) hf22 rfl dX0_copyFrom_34 ?_
  refine lv_aload_n hx hb dX0_copyFrom_37 rfl (lv_at hl 0 rfl) ?_
  refine k_get (ci := 0) (v := .ref (T 4)) (C := RX0) (T := TX0) (N := 10) hx hb hown hK hw hts hinX0 0 rfl rfl 4 (by decide) hf22 rfl dX0_copyFrom_38 ?_
  refine kr_v (ws' := wC E T o1 (p_ca (p_ru (p_ou (p_st U (l_cpy (c_st S) (c_st U) 5)) (l_cpy (c_ou S) (c_ou U) 5)) (l_cpyB (c_ru S) (c_ru U) 5)) (l_cpy (c_ca S) (c_ca U) 16)) ++ wC E A o2 S) (va_runSN (As := [.ref (A 4), .ref (T 4)]) (rest := []) ⟨hx, hb, hml, hown, hts⟩ (c_X2_copyRow l E (A 4) (T 4) 16 (c_ca S) (c_ca U) (by decide) _) ⟨va_cnB 2 hts ggX0_copyFrom_X2_copyRow rfl rfl rfl (hG.nw 19 (w := .methodLinkNest RX0 35 yX2_copyRow "SailorCandles") rfl) hq2 hd_X2_copyRow ⟨Nat.le_of_ble_eq_true rfl, Nat.le_of_ble_eq_true rfl⟩, hq3, trivial⟩ (rpS (AV := [.ref (A 4), .ref (T 4)]) hw hK hG rp_16) rfl rfl hl.1 rfl (lv_room (Nat.le_of_ble_eq_true rfl)) dX0_copyFrom_41 ⟨Nat.le_of_ble_eq_true rfl, Nat.le_of_ble_eq_true rfl⟩) hw hA rp_15 (fun H locs hw => ?_)
  refine lv_aload_n hx hb dX0_copyFrom_44 rfl (lv_at hl 1 rfl) ?_
  refine k_get (ci := 0) (v := .ref (A 5)) (C := RX0) (T := TX0) (N := 10) hx hb hown hK hw hts hinX0 7 rfl rfl 5 (by decide) hf25 rfl dX0_copyFrom_45 ?_
  refine lv_aload_n hx hb dX0_copyFrom_48 rfl (lv_at hl 0 rfl) ?_
  refine k_get (ci := 0) (v := .ref (T 5)) (C := RX0) (T := TX0) (N := 10) hx hb hown hK hw hts hinX0 0 rfl rfl 5 (by decide) hf25 rfl dX0_copyFrom_49 ?_
  refine kr_v (ws' := wC E T o1 (p_tr (p_ca (p_ru (p_ou (p_st U (l_cpy (c_st S) (c_st U) 5)) (l_cpy (c_ou S) (c_ou U) 5)) (l_cpyB (c_ru S) (c_ru U) 5)) (l_cpy (c_ca S) (c_ca U) 16)) (l_cpy (c_tr S) (c_tr U) 4)) ++ wC E A o2 S) (va_runSN (As := [.ref (A 5), .ref (T 5)]) (rest := []) ⟨hx, hb, hml, hown, hts⟩ (c_X2_copyRow l E (A 5) (T 5) 4 (c_tr S) (c_tr U) (by decide) _) ⟨va_cnB 2 hts ggX0_copyFrom_X2_copyRow rfl rfl rfl (hG.nw 19 (w := .methodLinkNest RX0 35 yX2_copyRow "SailorCandles") rfl) hq2 hd_X2_copyRow ⟨Nat.le_of_ble_eq_true rfl, Nat.le_of_ble_eq_true rfl⟩, hq3, trivial⟩ (rpS (AV := [.ref (A 5), .ref (T 5)]) hw hK hG rp_18) rfl rfl hl.1 rfl (lv_room (Nat.le_of_ble_eq_true rfl)) dX0_copyFrom_52 ⟨Nat.le_of_ble_eq_true rfl, Nat.le_of_ble_eq_true rfl⟩) hw hA rp_17 (fun H locs hw => ?_)
  refine lv_aload_n hx hb dX0_copyFrom_55 rfl (lv_at hl 1 rfl) ?_
  refine k_get (ci := 0) (v := .ref (A 6)) (C := RX0) (T := TX0) (N := 10) hx hb hown hK hw hts hinX0 7 rfl rfl 6 (by decide) hf28 rfl dX0_copyFrom_56 ?_
  refine lv_aload_n hx hb dX0_copyFrom_59 rfl (lv_at hl 0 rfl) ?_
  refine k_get (ci := 0) (v := .ref (T 6)) (C := RX0) (T := TX0) (N := 10) hx hb hown hK hw hts hinX0 0 rfl rfl 6 (by decide) hf28 rfl dX0_copyFrom_60 ?_
  refine kr_v (ws' := wC E T o1 (p_ag (p_tr (p_ca (p_ru (p_ou (p_st U (l_cpy (c_st S) (c_st U) 5)) (l_cpy (c_ou S) (c_ou U) 5)) (l_cpyB (c_ru S) (c_ru U) 5)) (l_cpy (c_ca S) (c_ca U) 16)) (l_cpy (c_tr S) (c_tr U) 4)) (l_cpy (c_ag S) (c_ag U) 20)) ++ wC E A o2 S) (va_runSN (As := [.ref (A 6), .ref (T 6)]) (rest := []) ⟨hx, hb, hml, hown, hts⟩ (c_X2_copyRow l E (A 6) (T 6) 20 (c_ag S) (c_ag U) (by decide) _) ⟨va_cnB 2 hts ggX0_copyFrom_X2_copyRow rfl rfl rfl (hG.nw 19 (w := .methodLinkNest RX0 35 yX2_copyRow "SailorCandles") rfl) hq2 hd_X2_copyRow ⟨Nat.le_of_ble_eq_true rfl, Nat.le_of_ble_eq_true rfl⟩, hq3, trivial⟩ (rpS (AV := [.ref (A 6), .ref (T 6)]) hw hK hG rp_20) rfl rfl hl.1 rfl (lv_room (Nat.le_of_ble_eq_true rfl)) dX0_copyFrom_63 ⟨Nat.le_of_ble_eq_true rfl, Nat.le_of_ble_eq_true rfl⟩) hw hA rp_19 (fun H locs hw => ?_)
  refine lv_aload_n hx hb dX0_copyFrom_66 rfl (lv_at hl 0 rfl) ?_
  refine lv_aload_n hx hb dX0_copyFrom_67 rfl (lv_at hl 1 rfl) ?_
  refine k_get (ci := 0) (v := .int (c_ni S)) (C := RX0) (T := TX0) (N := 10) hx hb hown hK hw hts hinX0 7 rfl rfl 7 (by decide) hf43 rfl dX0_copyFrom_68 ?_
  refine k_put (ci := 0) (C := RX0) (T := TX0) (N := 10) (ws' := wC E T o1 (p_ni (p_ag (p_tr (p_ca (p_ru (p_ou (p_st U (l_cpy (c_st S) (c_st U) 5)) (l_cpy (c_ou S) (c_ou U) 5)) (l_cpyB (c_ru S) (c_ru U) 5)) (l_cpy (c_ca S) (c_ca U) 16)) (l_cpy (c_tr S) (c_tr U) 4)) (l_cpy (c_ag S) (c_ag U) 20)) (c_ni S)) ++ wC E A o2 S) hx hb hown hK hw hts hinX0 tyX0 tyX0_ok nmX0 0 rfl rfl 7 (by decide) hf43 rfl rfl (Nat.le_of_ble_eq_true rfl) dX0_copyFrom_71 rfl (fun H locs hw => ?_)
  refine lv_aload_n hx hb dX0_copyFrom_74 rfl (lv_at hl 0 rfl) ?_
  refine lv_aload_n hx hb dX0_copyFrom_75 rfl (lv_at hl 1 rfl) ?_
  refine k_get (ci := 0) (v := .int (c_wa S)) (C := RX0) (T := TX0) (N := 10) hx hb hown hK hw hts hinX0 7 rfl rfl 8 (by decide) hf47 rfl dX0_copyFrom_76 ?_
  refine k_put (ci := 0) (C := RX0) (T := TX0) (N := 10) (ws' := wC E T o1 (p_wa (p_ni (p_ag (p_tr (p_ca (p_ru (p_ou (p_st U (l_cpy (c_st S) (c_st U) 5)) (l_cpy (c_ou S) (c_ou U) 5)) (l_cpyB (c_ru S) (c_ru U) 5)) (l_cpy (c_ca S) (c_ca U) 16)) (l_cpy (c_tr S) (c_tr U) 4)) (l_cpy (c_ag S) (c_ag U) 20)) (c_ni S)) (c_wa S)) ++ wC E A o2 S) hx hb hown hK hw hts hinX0 tyX0 tyX0_ok nmX0 0 rfl rfl 8 (by decide) hf47 rfl rfl (Nat.le_of_ble_eq_true rfl) dX0_copyFrom_79 rfl (fun H locs hw => ?_)
  refine lv_aload_n hx hb dX0_copyFrom_82 rfl (lv_at hl 0 rfl) ?_
  refine lv_aload_n hx hb dX0_copyFrom_83 rfl (lv_at hl 1 rfl) ?_
  refine k_get (ci := 0) (v := .int (c_un S)) (C := RX0) (T := TX0) (N := 10) hx hb hown hK hw hts hinX0 7 rfl rfl 9 (by decide) hf50 rfl dX0_copyFrom_84 ?_
  refine k_put (ci := 0) (C := RX0) (T := TX0) (N := 10) (ws' := wC E T o1 (p_un (p_wa (p_ni (p_ag (p_tr (p_ca (p_ru (p_ou (p_st U (l_cpy (c_st S) (c_st U) 5)) (l_cpy (c_ou S) (c_ou U) 5)) (l_cpyB (c_ru S) (c_ru U) 5)) (l_cpy (c_ca S) (c_ca U) 16)) (l_cpy (c_tr S) (c_tr U) 4)) (l_cpy (c_ag S) (c_ag U) 20)) (c_ni S)) (c_wa S)) (c_un S)) ++ wC E A o2 S) hx hb hown hK hw hts hinX0 tyX0 tyX0_ok nmX0 0 rfl rfl 9 (by decide) hf50 rfl rfl (Nat.le_of_ble_eq_true rfl) dX0_copyFrom_87 rfl (fun H locs hw => ?_)
  have hw := Wd_copy (U := U) (S := S) hw
  exact k_vret hx hb hr hlocks hK hw dX0_copyFrom_90 rfl
abbrev rm_X0_stayOf : Room := { frames := 1, cells := 0, slots := 0, locals := 21 }
set_option maxHeartbeats 4000000 in
set_option maxRecDepth 100000 in
theorem c_X0_stayOf (l : Launch) (E : Ev) (A : Nat → Nat) (o1 : Nat) (S : CS) (s : Int32) : MI l E yX0_stayOf wsX0_stayOf rm_X0_stayOf [.ref (A 0), .int s] (wC E A o1 S) (f_stay S s) (wC E A o1 S) := by
  refine k_bI (cc := cX0_stayOf) (maxL := 2) (ret := (some .int)) (by decide) rfl (Nat.le_of_ble_eq_true rfl) ?_
  intro p9 e s9 m args below meth c A9 ls hC hl hw
  obtain ⟨hx, hb, hml, hr, hown, hts, hlocks, hK, hG, hA⟩ := hC
  have hf9 := hts (.fieldLink RX0 9 "SailorCandles$Chapel" "stay" "[I") (List.mem_of_getElem? (i := 1) rfl)
  have hinX0 : ∀ w ∈ wsX00, w ∈ wsX0_stayOf := fun w h => List.mem_cons_of_mem _ (List.mem_append_right _ h)
  have hq2 := hts (.initialized RX2) (List.mem_of_getElem? (i := 3) rfl)
  have hq3 := hts (.static yX2_at) (List.mem_of_getElem? (i := 2) rfl)
  have hl : lv_has ls 2 [(0, .ref (A 0)), (1, .int s)] := hl
  refine lv_aload_n hx hb dX0_stayOf_0 rfl (lv_at hl 0 rfl) ?_
  refine k_get (ci := 0) (v := .ref (A 1)) (C := RX0) (T := TX0) (N := 10) hx hb hown hK hw hts hinX0 0 rfl rfl 1 (by decide) hf9 rfl dX0_stayOf_1 ?_
  refine lv_iload_n hx hb dX0_stayOf_4 rfl (lv_at hl 1 rfl) ?_
  refine kr_i (ws' := wC E A o1 S) (va_runSN (As := [.ref (A 1), .int s]) (rest := []) ⟨hx, hb, hml, hown, hts⟩ (c_X2_at l E (A 1) 5 (c_st S) s (by decide) _) ⟨va_cnB 2 hts ggX0_stayOf_X2_at rfl rfl rfl (hG.nw 15 (w := .methodLinkNest RX0 53 yX2_at "SailorCandles") rfl) hq2 hd_X2_at ⟨Nat.le_of_ble_eq_true rfl, Nat.le_of_ble_eq_true rfl⟩, hq3, trivial⟩ (rpS (AV := [.ref (A 1), .int s]) hw hK hG rp_21) rfl rfl hl.1 rfl (lv_room (Nat.le_of_ble_eq_true rfl)) dX0_stayOf_5 ⟨Nat.le_of_ble_eq_true rfl, Nat.le_of_ble_eq_true rfl⟩) hw hA rp_21 (fun H locs hw => ?_)
  exact k_iret hx hb hr hlocks hK hw rfl dX0_stayOf_8 (by first | rfl | assumption | (simp only [if_true, if_false, Bool.false_eq_true, Bool.true_eq_false, reduceIte, reduceCtorEq]; done) | (simp only [if_true, if_false, Bool.false_eq_true, Bool.true_eq_false, reduceIte, reduceCtorEq]; rfl) | (simp [if_true, if_false, Bool.false_eq_true, Bool.true_eq_false, reduceIte, reduceCtorEq]; done) | (simp [bI, ]; done)) rfl
abbrev rm_X0_placeOf : Room := { frames := 0, cells := 0, slots := 0, locals := 0 }
set_option maxHeartbeats 4000000 in
set_option maxRecDepth 100000 in
theorem c_X0_placeOf (l : Launch) (E : Ev) (w s : Int32) : MI l E yX0_placeOf wsX0_placeOf rm_X0_placeOf [.int w, .int s] ([] : va_W) (f_place w s) ([] : va_W) := by
  refine k_bI (cc := cX0_placeOf) (maxL := 2) (ret := (some .int)) (by decide) rfl (Nat.le_of_ble_eq_true rfl) ?_
  intro p9 e s9 m args below meth c A9 ls hC hl hw
  obtain ⟨hx, hb, hml, hr, hown, hts, hlocks, hK, hG, hA⟩ := hC
  have hl : lv_has ls 2 [(0, .int w), (1, .int s)] := hl
  refine lv_iload_n hx hb dX0_placeOf_0 rfl (lv_at hl 0 rfl) ?_
  refine lv_if_lt (tgt := 18) hx hb dX0_placeOf_1 (by decide) (fun c_1 => ?_) (fun c_1 => ?_)
  · refine lv_iconst (v := (-1)) hx hb dX0_placeOf_18 (by decide) ?_
    exact k_iret hx hb hr hlocks hK hw rfl dX0_placeOf_19 (by first | assumption | (simp only [f_place, if_pos c_1, if_true, if_false, Bool.false_eq_true, Bool.true_eq_false, reduceIte, reduceCtorEq]; done) | (simp only [f_place, if_pos c_1, if_true, if_false, Bool.false_eq_true, Bool.true_eq_false, reduceIte, reduceCtorEq]; rfl) | rfl | (simp [f_place, if_pos c_1, if_true, if_false, Bool.false_eq_true, Bool.true_eq_false, reduceIte, reduceCtorEq]; done) | (simp [bI, f_place, c_1]; done)) rfl
  · refine lv_iload_n hx hb dX0_placeOf_4 rfl (lv_at hl 0 rfl) ?_
    refine lv_iconst (v := 4) hx hb dX0_placeOf_5 (by decide) ?_
    refine lv_icmp_ge (tgt := 18) hx hb dX0_placeOf_6 (by decide) (fun c_2 => ?_) (fun c_2 => ?_)
    · refine lv_iconst (v := (-1)) hx hb dX0_placeOf_18 (by decide) ?_
      exact k_iret hx hb hr hlocks hK hw rfl dX0_placeOf_19 (by first | assumption | (simp only [f_place, if_neg c_1, if_pos c_2, if_true, if_false, Bool.false_eq_true, Bool.true_eq_false, reduceIte, reduceCtorEq]; done) | (simp only [f_place, if_neg c_1, if_pos c_2, if_true, if_false, Bool.false_eq_true, Bool.true_eq_false, reduceIte, reduceCtorEq]; rfl) | rfl | (simp [f_place, if_neg c_1, if_pos c_2, if_true, if_false, Bool.false_eq_true, Bool.true_eq_false, reduceIte, reduceCtorEq]; done) | (simp [bI, f_place, c_1, c_2]; done)) rfl
    · refine lv_iload_n hx hb dX0_placeOf_9 rfl (lv_at hl 1 rfl) ?_
      refine lv_if_lt (tgt := 18) hx hb dX0_placeOf_10 (by decide) (fun c_3 => ?_) (fun c_3 => ?_)
      · refine lv_iconst (v := (-1)) hx hb dX0_placeOf_18 (by decide) ?_
        exact k_iret hx hb hr hlocks hK hw rfl dX0_placeOf_19 (by first | assumption | (simp only [f_place, if_neg c_1, if_neg c_2, if_pos c_3, if_true, if_false, Bool.false_eq_true, Bool.true_eq_false, reduceIte, reduceCtorEq]; done) | (simp only [f_place, if_neg c_1, if_neg c_2, if_pos c_3, if_true, if_false, Bool.false_eq_true, Bool.true_eq_false, reduceIte, reduceCtorEq]; rfl) | rfl | (simp [f_place, if_neg c_1, if_neg c_2, if_pos c_3, if_true, if_false, Bool.false_eq_true, Bool.true_eq_false, reduceIte, reduceCtorEq]; done) | (simp [bI, f_place, c_1, c_2, c_3]; done)) rfl
      · refine lv_iload_n hx hb dX0_placeOf_13 rfl (lv_at hl 1 rfl) ?_
        refine lv_iconst (v := 5) hx hb dX0_placeOf_14 (by decide) ?_
        refine lv_icmp_lt (tgt := 20) hx hb dX0_placeOf_15 (by decide) (fun c_4 => ?_) (fun c_4 => ?_)
        · refine lv_iload_n hx hb dX0_placeOf_20 rfl (lv_at hl 0 rfl) ?_
          refine lv_iconst (v := 5) hx hb dX0_placeOf_21 (by decide) ?_
          refine lv_imul hx hb dX0_placeOf_22 ?_
          refine lv_iload_n hx hb dX0_placeOf_23 rfl (lv_at hl 1 rfl) ?_
          refine lv_iadd hx hb dX0_placeOf_24 ?_
          exact k_iret hx hb hr hlocks hK hw rfl dX0_placeOf_25 (by first | assumption | (simp only [f_place, if_neg c_1, if_neg c_2, if_neg c_3, if_pos c_4, if_true, if_false, Bool.false_eq_true, Bool.true_eq_false, reduceIte, reduceCtorEq]; done) | (simp only [f_place, if_neg c_1, if_neg c_2, if_neg c_3, if_pos c_4, if_true, if_false, Bool.false_eq_true, Bool.true_eq_false, reduceIte, reduceCtorEq]; rfl) | rfl | (simp [f_place, if_neg c_1, if_neg c_2, if_neg c_3, if_pos c_4, if_true, if_false, Bool.false_eq_true, Bool.true_eq_false, reduceIte, reduceCtorEq]; done) | (simp [bI, f_place, c_1, c_2, c_3, c_4]; done)) rfl
        · refine lv_iconst (v := (-1)) hx hb dX0_placeOf_18 (by decide) ?_
          exact k_iret hx hb hr hlocks hK hw rfl dX0_placeOf_19 (by first | assumption | (simp only [f_place, if_neg c_1, if_neg c_2, if_neg c_3, if_neg c_4, if_true, if_false, Bool.false_eq_true, Bool.true_eq_false, reduceIte, reduceCtorEq]; done) | (simp only [f_place, if_neg c_1, if_neg c_2, if_neg c_3, if_neg c_4, if_true, if_false, Bool.false_eq_true, Bool.true_eq_false, reduceIte, reduceCtorEq]; rfl) | rfl | (simp [f_place, if_neg c_1, if_neg c_2, if_neg c_3, if_neg c_4, if_true, if_false, Bool.false_eq_true, Bool.true_eq_false, reduceIte, reduceCtorEq]; done) | (simp [bI, f_place, c_1, c_2, c_3, c_4]; done)) rfl
abbrev rm_X0_watcherAt : Room := { frames := 0, cells := 0, slots := 0, locals := 0 }
set_option maxHeartbeats 4000000 in
set_option maxRecDepth 100000 in
theorem c_X0_watcherAt (l : Launch) (E : Ev) (k : Int32) : MI l E yX0_watcherAt wsX0_watcherAt rm_X0_watcherAt [.int k] ([] : va_W) (k / 5) ([] : va_W) := by
  refine k_bI (cc := cX0_watcherAt) (maxL := 1) (ret := (some .int)) (by decide) rfl (Nat.le_of_ble_eq_true rfl) ?_
  intro p9 e s9 m args below meth c A9 ls hC hl hw
  obtain ⟨hx, hb, hml, hr, hown, hts, hlocks, hK, hG, hA⟩ := hC
  have hl : lv_has ls 1 [(0, .int k)] := hl
  refine lv_iload_n hx hb dX0_watcherAt_0 rfl (lv_at hl 0 rfl) ?_
  refine lv_iconst (v := 5) hx hb dX0_watcherAt_1 (by decide) ?_
  refine lv_idiv hx hb dX0_watcherAt_2 (by decide) ?_
  exact k_iret hx hb hr hlocks hK hw rfl dX0_watcherAt_3 rfl rfl
abbrev rm_X0_lightCandle : Room := { frames := 1, cells := 0, slots := 0, locals := 22 }
set_option maxHeartbeats 4000000 in
set_option maxRecDepth 100000 in
theorem c_X0_lightCandle (l : Launch) (E : Ev) (A : Nat → Nat) (o1 : Nat) (S : CS) (p : Int32) : MI l E yX0_lightCandle wsX0_lightCandle rm_X0_lightCandle [.ref (A 0), .int p] (wC E A o1 S) (bI (f_litB S)) (wC E A o1 (f_light S p)) := by
  refine k_bI (cc := cX0_lightCandle) (maxL := 2) (ret := (some .boolean)) (by decide) rfl (Nat.le_of_ble_eq_true rfl) ?_
  intro p9 e s9 m args below meth c A9 ls hC hl hw
  obtain ⟨hx, hb, hml, hr, hown, hts, hlocks, hK, hG, hA⟩ := hC
  have hf47 := hts (.fieldLink RX0 47 "SailorCandles$Chapel" "waxLeft" "I") (List.mem_of_getElem? (i := 1) rfl)
  have hinX0 : ∀ w ∈ wsX00, w ∈ wsX0_lightCandle := fun w h => List.mem_cons_of_mem _ (List.mem_append_right _ h)
  have hf22 := hts (.fieldLink RX0 22 "SailorCandles$Chapel" "candle" "[I") (List.mem_of_getElem? (i := 2) rfl)
  have hq3 := hts (.initialized RX2) (List.mem_of_getElem? (i := 4) rfl)
  have hq4 := hts (.static yX2_put) (List.mem_of_getElem? (i := 3) rfl)
  have hl : lv_has ls 2 [(0, .ref (A 0)), (1, .int p)] := hl
  refine lv_aload_n hx hb dX0_lightCandle_0 rfl (lv_at hl 0 rfl) ?_
  refine k_get (ci := 0) (v := .int (c_wa S)) (C := RX0) (T := TX0) (N := 10) hx hb hown hK hw hts hinX0 0 rfl rfl 8 (by decide) hf47 rfl dX0_lightCandle_1 ?_
  refine lv_bipush (v := 12) hx hb dX0_lightCandle_4 (by decide) ?_
  refine lv_icmp_ge (tgt := 11) hx hb dX0_lightCandle_6 (by decide) (fun c_1 => ?_) (fun c_1 => ?_)
  · refine lv_aload_n hx hb dX0_lightCandle_11 rfl (lv_at hl 0 rfl) ?_
    refine lv_dup hx hb dX0_lightCandle_12 rfl ?_
    refine k_get (ci := 0) (v := .int (c_wa S)) (C := RX0) (T := TX0) (N := 10) hx hb hown hK hw hts hinX0 0 rfl rfl 8 (by decide) hf47 rfl dX0_lightCandle_13 ?_
    refine lv_bipush (v := 12) hx hb dX0_lightCandle_16 (by decide) ?_
    refine lv_isub hx hb dX0_lightCandle_18 ?_
    refine k_put (ci := 0) (C := RX0) (T := TX0) (N := 10) (ws' := wC E A o1 (p_wa S ((c_wa S) - 12))) hx hb hown hK hw hts hinX0 tyX0 tyX0_ok nmX0 0 rfl rfl 8 (by decide) hf47 rfl rfl (Nat.le_of_ble_eq_true rfl) dX0_lightCandle_19 rfl (fun H locs hw => ?_)
    refine lv_aload_n hx hb dX0_lightCandle_22 rfl (lv_at hl 0 rfl) ?_
    refine k_get (ci := 0) (v := .ref (A 4)) (C := RX0) (T := TX0) (N := 10) hx hb hown hK hw hts hinX0 0 rfl rfl 4 (by decide) hf22 rfl dX0_lightCandle_23 ?_
    refine lv_iload_n hx hb dX0_lightCandle_26 rfl (lv_at hl 1 rfl) ?_
    refine lv_bipush (v := 12) hx hb dX0_lightCandle_27 (by decide) ?_
    refine kr_v (ws' := wC E A o1 (p_ca (p_wa S ((c_wa S) - 12)) (f_put 16 (c_ca S) p 12))) (va_runSN (As := [.ref (A 4), .int p, .int 12]) (rest := []) ⟨hx, hb, hml, hown, hts⟩ (c_X2_put l E (A 4) 16 (c_ca S) p 12 (by decide) _) ⟨va_cnB 3 hts ggX0_lightCandle_X2_put rfl rfl rfl (hG.nw 16 (w := .methodLinkNest RX0 57 yX2_put "SailorCandles") rfl) hq3 hd_X2_put ⟨Nat.le_of_ble_eq_true rfl, Nat.le_of_ble_eq_true rfl⟩, hq4, trivial⟩ (rpS (AV := [.ref (A 4), .int p, .int 12]) hw hK hG rp_23) rfl rfl hl.1 rfl (lv_room (Nat.le_of_ble_eq_true rfl)) dX0_lightCandle_29 ⟨Nat.le_of_ble_eq_true rfl, Nat.le_of_ble_eq_true rfl⟩) hw hA rp_22 (fun H locs hw => ?_)
    refine lv_iconst (v := 1) hx hb dX0_lightCandle_32 (by decide) ?_
    exact k_iret hx hb hr hlocks hK hw rfl dX0_lightCandle_33 (by first | assumption | (simp only [f_litB, f_light, bI_t, bI_f, if_pos c_1, if_true, if_false, Bool.false_eq_true, Bool.true_eq_false, reduceIte, reduceCtorEq]; done) | (simp only [f_litB, f_light, bI_t, bI_f, if_pos c_1, if_true, if_false, Bool.false_eq_true, Bool.true_eq_false, reduceIte, reduceCtorEq]; rfl) | rfl | (simp [f_litB, f_light, bI_t, bI_f, if_pos c_1, if_true, if_false, Bool.false_eq_true, Bool.true_eq_false, reduceIte, reduceCtorEq]; done) | (simp [bI, f_litB, f_light, bI_t, bI_f, c_1]; done)) (by first | assumption | (simp only [f_litB, f_light, bI_t, bI_f, if_pos c_1, if_true, if_false, Bool.false_eq_true, Bool.true_eq_false, reduceIte, reduceCtorEq]; done) | (simp only [f_litB, f_light, bI_t, bI_f, if_pos c_1, if_true, if_false, Bool.false_eq_true, Bool.true_eq_false, reduceIte, reduceCtorEq]; rfl) | rfl | (simp [f_litB, f_light, bI_t, bI_f, if_pos c_1, if_true, if_false, Bool.false_eq_true, Bool.true_eq_false, reduceIte, reduceCtorEq]; done) | (simp [bI, f_litB, f_light, bI_t, bI_f, c_1]; done))
  · refine lv_iconst (v := 0) hx hb dX0_lightCandle_9 (by decide) ?_
    exact k_iret hx hb hr hlocks hK hw rfl dX0_lightCandle_10 (by first | assumption | (simp only [f_litB, f_light, bI_t, bI_f, if_neg c_1, if_true, if_false, Bool.false_eq_true, Bool.true_eq_false, reduceIte, reduceCtorEq]; done) | (simp only [f_litB, f_light, bI_t, bI_f, if_neg c_1, if_true, if_false, Bool.false_eq_true, Bool.true_eq_false, reduceIte, reduceCtorEq]; rfl) | rfl | (simp [f_litB, f_light, bI_t, bI_f, if_neg c_1, if_true, if_false, Bool.false_eq_true, Bool.true_eq_false, reduceIte, reduceCtorEq]; done) | (simp [bI, f_litB, f_light, bI_t, bI_f, c_1]; done)) (by first | assumption | (simp only [f_litB, f_light, bI_t, bI_f, if_neg c_1, if_true, if_false, Bool.false_eq_true, Bool.true_eq_false, reduceIte, reduceCtorEq]; done) | (simp only [f_litB, f_light, bI_t, bI_f, if_neg c_1, if_true, if_false, Bool.false_eq_true, Bool.true_eq_false, reduceIte, reduceCtorEq]; rfl) | rfl | (simp [f_litB, f_light, bI_t, bI_f, if_neg c_1, if_true, if_false, Bool.false_eq_true, Bool.true_eq_false, reduceIte, reduceCtorEq]; done) | (simp [bI, f_litB, f_light, bI_t, bI_f, c_1]; done))
abbrev rm_X0_sendOut : Room := { frames := 2, cells := 0, slots := 0, locals := 43 }
set_option maxHeartbeats 4000000 in
set_option maxRecDepth 100000 in
theorem c_X0_sendOut (l : Launch) (E : Ev) (A B : Nat → Nat) (S : CS) (G : HS) (s : Int32) : MI l E yX0_sendOut wsX0_sendOut rm_X0_sendOut [.ref (A 0), .int s] (wC E A (B 0) S ++ wG E B G) (f_sailN G S s) (wC E A (B 0) (f_sailS G S s) ++ wG E B G) := by
  refine k_bI (cc := cX0_sendOut) (maxL := 4) (ret := (some .int)) (by decide) rfl (Nat.le_of_ble_eq_true rfl) ?_
  intro p9 e s9 m args below meth c A9 ls hC hl hw
  obtain ⟨hx, hb, hml, hr, hown, hts, hlocks, hK, hG, hA⟩ := hC
  have hf9 := hts (.fieldLink RX0 9 "SailorCandles$Chapel" "stay" "[I") (List.mem_of_getElem? (i := 1) rfl)
  have hinX0 : ∀ w ∈ wsX00, w ∈ wsX0_sendOut := fun w h => List.mem_cons_of_mem _ (List.mem_append_left _ (List.mem_append_right _ h))
  have hq2 := hts (.initialized RX2) (List.mem_of_getElem? (i := 5) rfl)
  have hq3 := hts (.static yX2_put) (List.mem_of_getElem? (i := 4) rfl)
  have hf15 := hts (.fieldLink RX0 15 "SailorCandles$Chapel" "outFor" "[I") (List.mem_of_getElem? (i := 2) rfl)
  have hf31 := hts (.fieldLink RX0 31 "SailorCandles$Chapel" "harbour" "LSailorCandles$Harbour;") (List.mem_of_getElem? (i := 3) rfl)
  have hl : lv_has ls 4 [(0, .ref (A 0)), (1, .int s)] := hl
  refine lv_aload_n hx hb dX0_sendOut_0 rfl (lv_at hl 0 rfl) ?_
  refine k_get (ci := 0) (v := .ref (A 1)) (C := RX0) (T := TX0) (N := 10) hx hb hown hK hw hts hinX0 0 rfl rfl 1 (by decide) hf9 rfl dX0_sendOut_1 ?_
  refine lv_iload_n hx hb dX0_sendOut_4 rfl (lv_at hl 1 rfl) ?_
  refine lv_iconst (v := 1) hx hb dX0_sendOut_5 (by decide) ?_
  refine kr_v (ws' := wC E A (B 0) (p_st S (f_put 5 (c_st S) s 1)) ++ wG E B G) (va_runSN (As := [.ref (A 1), .int s, .int 1]) (rest := []) ⟨hx, hb, hml, hown, hts⟩ (c_X2_put l E (A 1) 5 (c_st S) s 1 (by decide) _) ⟨va_cnB 3 hts ggX0_sendOut_X2_put rfl rfl rfl (hG.nw 16 (w := .methodLinkNest RX0 57 yX2_put "SailorCandles") rfl) hq2 hd_X2_put ⟨Nat.le_of_ble_eq_true rfl, Nat.le_of_ble_eq_true rfl⟩, hq3, trivial⟩ (rpS (AV := [.ref (A 1), .int s, .int 1]) hw hK hG rp_25) rfl rfl hl.1 rfl (lv_room (Nat.le_of_ble_eq_true rfl)) dX0_sendOut_6 ⟨Nat.le_of_ble_eq_true rfl, Nat.le_of_ble_eq_true rfl⟩) hw hA rp_24 (fun H locs hw => ?_)
  refine lv_aload_n hx hb dX0_sendOut_9 rfl (lv_at hl 0 rfl) ?_
  refine k_get (ci := 0) (v := .ref (A 2)) (C := RX0) (T := TX0) (N := 10) hx hb hown hK hw hts hinX0 0 rfl rfl 2 (by decide) hf15 rfl dX0_sendOut_10 ?_
  refine lv_iload_n hx hb dX0_sendOut_13 rfl (lv_at hl 1 rfl) ?_
  refine lv_iconst (v := 0) hx hb dX0_sendOut_14 (by decide) ?_
  refine kr_v (ws' := wC E A (B 0) (p_ou (p_st S (f_put 5 (c_st S) s 1)) (f_put 5 (c_ou S) s 0)) ++ wG E B G) (va_runSN (As := [.ref (A 2), .int s, .int 0]) (rest := []) ⟨hx, hb, hml, hown, hts⟩ (c_X2_put l E (A 2) 5 (c_ou S) s 0 (by decide) _) ⟨va_cnB 3 hts ggX0_sendOut_X2_put rfl rfl rfl (hG.nw 16 (w := .methodLinkNest RX0 57 yX2_put "SailorCandles") rfl) hq2 hd_X2_put ⟨Nat.le_of_ble_eq_true rfl, Nat.le_of_ble_eq_true rfl⟩, hq3, trivial⟩ (rpS (AV := [.ref (A 2), .int s, .int 0]) hw hK hG rp_27) rfl rfl hl.1 rfl (lv_room (Nat.le_of_ble_eq_true rfl)) dX0_sendOut_15 ⟨Nat.le_of_ble_eq_true rfl, Nat.le_of_ble_eq_true rfl⟩) hw hA rp_26 (fun H locs hw => ?_)
  refine lv_iconst (v := 0) hx hb dX0_sendOut_18 (by decide) ?_
  refine lv_istore_n (lv' := [(2, .int 0), (0, .ref (A 0)), (1, .int s)]) hx hb dX0_sendOut_19 rfl hl (by decide) rfl (fun ls hl => ?_)
  refine lv_iconst (v := 0) hx hb dX0_sendOut_20 (by decide) ?_
  refine lv_istore_n (lv' := [(3, .int 0), (2, .int 0), (0, .ref (A 0)), (1, .int s)]) hx hb dX0_sendOut_21 rfl hl (by decide) rfl (fun ls hl => ?_)
  have L_22 : ∀ (k9 i : Nat) (H : Heap) (locs : List Loc) (ls : Array Slot), i + k9 = 16 → Wd E A9 s9.heap (wC E A (B 0) (l_sendS G s ((p_ou (p_st S (f_put 5 (c_st S) s 1)) (f_put 5 (c_ou S) s 0))) i) ++ wG E B G) H locs → lv_has ls 4 [(0, .ref (A 0)), (1, .int s), (2, .int (l_sendN G s ((p_ou (p_st S (f_put 5 (c_st S) s 1)) (f_put 5 (c_ou S) s 0))) i)), (3, .int (nI i))] → W p9 l e rm_X0_sendOut s9 m args below meth c H locs 0 0 (EndI E A9 (f_sailN G S s) (wC E A (B 0) (f_sailS G S s) ++ wG E B G) below args s9 (rm_X0_sendOut).cells (rm_X0_sendOut).slots) (F0 m 22 ls []) := by
    intro k9
    induction k9 with
    | zero =>
      intro i H locs ls hi hw hl
      have hz_1 : 16 = i := by omega
      refine lv_iload_n hx hb dX0_sendOut_22 rfl (lv_at hl 3 rfl) ?_
      refine lv_bipush (v := 16) hx hb dX0_sendOut_23 (by decide) ?_
      refine lv_icmp_ge (tgt := 57) hx hb dX0_sendOut_25 (by decide) (fun _ => ?_) (fun q8 => absurd (by rw [← hz_1]; exact Int32.le_refl _) q8)
      refine lv_iload_n hx hb dX0_sendOut_57 rfl (lv_at hl 2 rfl) ?_
      exact k_iret hx hb hr hlocks hK hw rfl dX0_sendOut_58 (by subst hz_1; first | rfl | assumption | (simp only [l_sendS, l_sendN, if_true, if_false, Bool.false_eq_true, Bool.true_eq_false, reduceIte, reduceCtorEq]; done) | (simp only [l_sendS, l_sendN, if_true, if_false, Bool.false_eq_true, Bool.true_eq_false, reduceIte, reduceCtorEq]; rfl) | (simp [l_sendS, l_sendN, if_true, if_false, Bool.false_eq_true, Bool.true_eq_false, reduceIte, reduceCtorEq]; done) | (simp [bI, l_sendS, l_sendN]; done)) (by subst hz_1; first | rfl | assumption | (simp only [l_sendS, l_sendN, if_true, if_false, Bool.false_eq_true, Bool.true_eq_false, reduceIte, reduceCtorEq]; done) | (simp only [l_sendS, l_sendN, if_true, if_false, Bool.false_eq_true, Bool.true_eq_false, reduceIte, reduceCtorEq]; rfl) | (simp [l_sendS, l_sendN, if_true, if_false, Bool.false_eq_true, Bool.true_eq_false, reduceIte, reduceCtorEq]; done) | (simp [bI, l_sendS, l_sendN]; done))
    | succ k9 ih_22 =>
      intro i H locs ls hi hw hl
      have hi9 : i < 16 := by omega
      refine lv_iload_n hx hb dX0_sendOut_22 rfl (lv_at hl 3 rfl) ?_
      refine lv_bipush (v := 16) hx hb dX0_sendOut_23 (by decide) ?_
      refine lv_icmp_ge (tgt := 57) hx hb dX0_sendOut_25 (by decide) (fun q8 => absurd q8 (nI_ge (a := i) (b := 16) (by omega) (by omega))) (fun _ => ?_)
      refine lv_aload_n hx hb dX0_sendOut_28 rfl (lv_at hl 0 rfl) ?_
      refine k_get (ci := 0) (v := .ref (B 0)) (C := RX0) (T := TX0) (N := 10) hx hb hown hK hw hts hinX0 0 rfl rfl 0 (by decide) hf31 rfl dX0_sendOut_29 ?_
      refine lv_iload_n hx hb dX0_sendOut_32 rfl (lv_at hl 3 rfl) ?_
      refine kr_i (ws' := wC E A (B 0) (l_sendS G s ((p_ou (p_st S (f_put 5 (c_st S) s 1)) (f_put 5 (c_ou S) s 0))) i) ++ wG E B G) (va_runV (As := [.int (nI i)]) (rest := []) ⟨hx, hb, hml, hown, hts⟩ (c_X1_shipWith l E B G (nI i)  _) (cwV 1 hts gX0_sendOut_X1_shipWith rfl rfl rfl ⟨rfl, hd_X1_shipWith⟩ ⟨Nat.le_of_ble_eq_true rfl, Nat.le_of_ble_eq_true rfl⟩) (pwV (ci := 1) (q0 := 7) (C := RX1) hw hK rfl rfl rfl (rpS (AV := [.ref (B 0), .int (nI i)]) hw hK hG rp_28)) rfl rfl hl.1 rfl (lv_room (Nat.le_of_ble_eq_true rfl)) dX0_sendOut_33 ⟨Nat.le_of_ble_eq_true rfl, Nat.le_of_ble_eq_true rfl⟩) hw hA rp_28 (fun H locs hw => ?_)
      refine lv_iload_n hx hb dX0_sendOut_36 rfl (lv_at hl 1 rfl) ?_
      refine lv_icmp_ne (tgt := 51) hx hb dX0_sendOut_37 (by decide) (fun c_2 => ?_) (fun c_2 => ?_)
      · refine lv_iinc (v := nI (i + 1)) (lv' := [(3, .int (nI (i + 1))), (0, .ref (A 0)), (1, .int s), (2, .int (l_sendN G s ((p_ou (p_st S (f_put 5 (c_st S) s 1)) (f_put 5 (c_ou S) s 0))) i))]) hx hb dX0_sendOut_51 hl (k := 3) rfl (nI_add i 1) (by decide) rfl (fun ls hl => ?_)
        refine lv_goto (tgt := 22) hx hb dX0_sendOut_54 (by decide) ?_
        exact ih_22 (i + 1) _ _ _ (by omega) (hw.to (by first | assumption | (simp only [l_sendS, l_sendN, if_neg c_2, if_true, if_false, Bool.false_eq_true, Bool.true_eq_false, reduceIte, reduceCtorEq]; done) | (simp only [l_sendS, l_sendN, if_neg c_2, if_true, if_false, Bool.false_eq_true, Bool.true_eq_false, reduceIte, reduceCtorEq]; rfl) | rfl | (simp [l_sendS, l_sendN, if_neg c_2, if_true, if_false, Bool.false_eq_true, Bool.true_eq_false, reduceIte, reduceCtorEq]; done) | (simp [bI, l_sendS, l_sendN, c_2]; done))) (by rw [show (.int (l_sendN G s ((p_ou (p_st S (f_put 5 (c_st S) s 1)) (f_put 5 (c_ou S) s 0))) (i + 1)) : Value) = .int (l_sendN G s ((p_ou (p_st S (f_put 5 (c_st S) s 1)) (f_put 5 (c_ou S) s 0))) i) from (by first | assumption | (simp only [l_sendS, l_sendN, if_neg c_2, if_true, if_false, Bool.false_eq_true, Bool.true_eq_false, reduceIte, reduceCtorEq]; done) | (simp only [l_sendS, l_sendN, if_neg c_2, if_true, if_false, Bool.false_eq_true, Bool.true_eq_false, reduceIte, reduceCtorEq]; rfl) | rfl | (simp [l_sendS, l_sendN, if_neg c_2, if_true, if_false, Bool.false_eq_true, Bool.true_eq_false, reduceIte, reduceCtorEq]; done) | (simp [bI, l_sendS, l_sendN, c_2]; done))]; exact lv_sub hl [1, 2, 3, 0] rfl)
      · refine lv_aload_n hx hb dX0_sendOut_40 rfl (lv_at hl 0 rfl) ?_
        refine lv_iload_n hx hb dX0_sendOut_41 rfl (lv_at hl 3 rfl) ?_
        refine kr_i (ws' := wC E A (B 0) (f_light (l_sendS G s ((p_ou (p_st S (f_put 5 (c_st S) s 1)) (f_put 5 (c_ou S) s 0))) i) (nI i)) ++ wG E B G) (va_runV (As := [.int (nI i)]) (rest := []) ⟨hx, hb, hml, hown, hts⟩ (c_X0_lightCandle l E A (B 0) (l_sendS G s ((p_ou (p_st S (f_put 5 (c_st S) s 1)) (f_put 5 (c_ou S) s 0))) i) (nI i)  _) (cwV 1 hts gX0_sendOut_X0_lightCandle rfl rfl rfl ⟨rfl, hd_X0_lightCandle⟩ ⟨Nat.le_of_ble_eq_true rfl, Nat.le_of_ble_eq_true rfl⟩) (pwV (ci := 0) (q0 := 0) (C := RX0) hw hK rfl rfl rfl (rpS (AV := [.ref (A 0), .int (nI i)]) hw hK hG rp_30)) rfl rfl hl.1 rfl (lv_room (Nat.le_of_ble_eq_true rfl)) dX0_sendOut_42 ⟨Nat.le_of_ble_eq_true rfl, Nat.le_of_ble_eq_true rfl⟩) hw hA rp_29 (fun H locs hw => ?_)
        generalize hg_4 : f_light (l_sendS G s ((p_ou (p_st S (f_put 5 (c_st S) s 1)) (f_put 5 (c_ou S) s 0))) i) (nI i) = Z_3 at hw
        refine lv_if_eq (tgt := 51) hx hb dX0_sendOut_45 (by decide) (fun c_5 => ?_) (fun c_5 => ?_)
        · have c_5 := bI_z c_5
          refine lv_iinc (v := nI (i + 1)) (lv' := [(3, .int (nI (i + 1))), (0, .ref (A 0)), (1, .int s), (2, .int (l_sendN G s ((p_ou (p_st S (f_put 5 (c_st S) s 1)) (f_put 5 (c_ou S) s 0))) i))]) hx hb dX0_sendOut_51 hl (k := 3) rfl (nI_add i 1) (by decide) rfl (fun ls hl => ?_)
          refine lv_goto (tgt := 22) hx hb dX0_sendOut_54 (by decide) ?_
          exact ih_22 (i + 1) _ _ _ (by omega) (hw.to (by subst hg_4; first | assumption | (simp only [l_sendS, l_sendN, if_pos c_2, c_5, if_true, if_false, Bool.false_eq_true, Bool.true_eq_false, reduceIte, reduceCtorEq]; done) | (simp only [l_sendS, l_sendN, if_pos c_2, c_5, if_true, if_false, Bool.false_eq_true, Bool.true_eq_false, reduceIte, reduceCtorEq]; rfl) | rfl | (simp [l_sendS, l_sendN, if_pos c_2, c_5, if_true, if_false, Bool.false_eq_true, Bool.true_eq_false, reduceIte, reduceCtorEq]; done) | (simp [bI, l_sendS, l_sendN, c_2, c_5]; done))) (by rw [show (.int (l_sendN G s ((p_ou (p_st S (f_put 5 (c_st S) s 1)) (f_put 5 (c_ou S) s 0))) (i + 1)) : Value) = .int (l_sendN G s ((p_ou (p_st S (f_put 5 (c_st S) s 1)) (f_put 5 (c_ou S) s 0))) i) from (by subst hg_4; first | assumption | (simp only [l_sendS, l_sendN, if_pos c_2, c_5, if_true, if_false, Bool.false_eq_true, Bool.true_eq_false, reduceIte, reduceCtorEq]; done) | (simp only [l_sendS, l_sendN, if_pos c_2, c_5, if_true, if_false, Bool.false_eq_true, Bool.true_eq_false, reduceIte, reduceCtorEq]; rfl) | rfl | (simp [l_sendS, l_sendN, if_pos c_2, c_5, if_true, if_false, Bool.false_eq_true, Bool.true_eq_false, reduceIte, reduceCtorEq]; done) | (simp [bI, l_sendS, l_sendN, c_2, c_5]; done))]; exact lv_sub hl [1, 2, 3, 0] rfl)
        · have c_5 := bI_nz c_5
          refine lv_iinc (v := (l_sendN G s ((p_ou (p_st S (f_put 5 (c_st S) s 1)) (f_put 5 (c_ou S) s 0))) i) + 1) (lv' := [(2, .int ((l_sendN G s ((p_ou (p_st S (f_put 5 (c_st S) s 1)) (f_put 5 (c_ou S) s 0))) i) + 1)), (0, .ref (A 0)), (1, .int s), (3, .int (nI i))]) hx hb dX0_sendOut_48 hl (k := 2) rfl rfl (by decide) rfl (fun ls hl => ?_)
          refine lv_iinc (v := nI (i + 1)) (lv' := [(3, .int (nI (i + 1))), (2, .int ((l_sendN G s ((p_ou (p_st S (f_put 5 (c_st S) s 1)) (f_put 5 (c_ou S) s 0))) i) + 1)), (0, .ref (A 0)), (1, .int s)]) hx hb dX0_sendOut_51 hl (k := 3) rfl (nI_add i 1) (by decide) rfl (fun ls hl => ?_)
          refine lv_goto (tgt := 22) hx hb dX0_sendOut_54 (by decide) ?_
          exact ih_22 (i + 1) _ _ _ (by omega) (hw.to (by subst hg_4; first | assumption | (simp only [l_sendS, l_sendN, if_pos c_2, c_5, if_true, if_false, Bool.false_eq_true, Bool.true_eq_false, reduceIte, reduceCtorEq]; done) | (simp only [l_sendS, l_sendN, if_pos c_2, c_5, if_true, if_false, Bool.false_eq_true, Bool.true_eq_false, reduceIte, reduceCtorEq]; rfl) | rfl | (simp [l_sendS, l_sendN, if_pos c_2, c_5, if_true, if_false, Bool.false_eq_true, Bool.true_eq_false, reduceIte, reduceCtorEq]; done) | (simp [bI, l_sendS, l_sendN, c_2, c_5]; done))) (by rw [show (.int (l_sendN G s ((p_ou (p_st S (f_put 5 (c_st S) s 1)) (f_put 5 (c_ou S) s 0))) (i + 1)) : Value) = .int ((l_sendN G s ((p_ou (p_st S (f_put 5 (c_st S) s 1)) (f_put 5 (c_ou S) s 0))) i) + 1) from (by subst hg_4; first | assumption | (simp only [l_sendS, l_sendN, if_pos c_2, c_5, if_true, if_false, Bool.false_eq_true, Bool.true_eq_false, reduceIte, reduceCtorEq]; done) | (simp only [l_sendS, l_sendN, if_pos c_2, c_5, if_true, if_false, Bool.false_eq_true, Bool.true_eq_false, reduceIte, reduceCtorEq]; rfl) | rfl | (simp [l_sendS, l_sendN, if_pos c_2, c_5, if_true, if_false, Bool.false_eq_true, Bool.true_eq_false, reduceIte, reduceCtorEq]; done) | (simp [bI, l_sendS, l_sendN, c_2, c_5]; done))]; exact lv_sub hl [2, 3, 1, 0] rfl)
  exact L_22 (16 - 0) 0 _ _ _ (by omega) hw (lv_sub hl [2, 3, 1, 0] rfl)
abbrev rm_X0_endWaiting : Room := { frames := 1, cells := 0, slots := 0, locals := 22 }
set_option maxHeartbeats 4000000 in
set_option maxRecDepth 100000 in
theorem c_X0_endWaiting (l : Launch) (E : Ev) (A B : Nat → Nat) (S : CS) (G : HS) (s x : Int32) : MV l E yX0_endWaiting wsX0_endWaiting rm_X0_endWaiting [.ref (A 0), .int s, .int x] (wC E A (B 0) S ++ wG E B G) (wC E A (B 0) (f_end G S s x) ++ wG E B G) := by
  refine k_bV (cc := cX0_endWaiting) (maxL := 4) (ret := none) (by decide) rfl (Nat.le_of_ble_eq_true rfl) ?_
  intro p9 e s9 m args below meth c A9 ls hC hl hw
  obtain ⟨hx, hb, hml, hr, hown, hts, hlocks, hK, hG, hA⟩ := hC
  have hf9 := hts (.fieldLink RX0 9 "SailorCandles$Chapel" "stay" "[I") (List.mem_of_getElem? (i := 1) rfl)
  have hinX0 : ∀ w ∈ wsX00, w ∈ wsX0_endWaiting := fun w h => List.mem_cons_of_mem _ (List.mem_append_left _ (List.mem_append_right _ h))
  have hq2 := hts (.initialized RX2) (List.mem_of_getElem? (i := 8) rfl)
  have hq3 := hts (.static yX2_put) (List.mem_of_getElem? (i := 7) rfl)
  have hf18 := hts (.fieldLink RX0 18 "SailorCandles$Chapel" "rung" "[Z") (List.mem_of_getElem? (i := 2) rfl)
  have hq5 := hts (.static yX2_mark) (List.mem_of_getElem? (i := 10) rfl)
  have hf31 := hts (.fieldLink RX0 31 "SailorCandles$Chapel" "harbour" "LSailorCandles$Harbour;") (List.mem_of_getElem? (i := 4) rfl)
  have hf47 := hts (.fieldLink RX0 47 "SailorCandles$Chapel" "waxLeft" "I") (List.mem_of_getElem? (i := 5) rfl)
  have hf22 := hts (.fieldLink RX0 22 "SailorCandles$Chapel" "candle" "[I") (List.mem_of_getElem? (i := 6) rfl)
  have hq9 := hts (.static yX2_at) (List.mem_of_getElem? (i := 22) rfl)
  have hf28 := hts (.fieldLink RX0 28 "SailorCandles$Chapel" "sightingAge" "[I") (List.mem_of_getElem? (i := 3) rfl)
  have hl : lv_has ls 4 [(0, .ref (A 0)), (1, .int s), (2, .int x)] := hl
  refine lv_aload_n hx hb dX0_endWaiting_0 rfl (lv_at hl 0 rfl) ?_
  refine k_get (ci := 0) (v := .ref (A 1)) (C := RX0) (T := TX0) (N := 10) hx hb hown hK hw hts hinX0 0 rfl rfl 1 (by decide) hf9 rfl dX0_endWaiting_1 ?_
  refine lv_iload_n hx hb dX0_endWaiting_4 rfl (lv_at hl 1 rfl) ?_
  refine lv_iload_n hx hb dX0_endWaiting_5 rfl (lv_at hl 2 rfl) ?_
  refine kr_v (ws' := wC E A (B 0) (p_st S (f_put 5 (c_st S) s x)) ++ wG E B G) (va_runSN (As := [.ref (A 1), .int s, .int x]) (rest := []) ⟨hx, hb, hml, hown, hts⟩ (c_X2_put l E (A 1) 5 (c_st S) s x (by decide) _) ⟨va_cnB 3 hts ggX0_endWaiting_X2_put rfl rfl rfl (hG.nw 16 (w := .methodLinkNest RX0 57 yX2_put "SailorCandles") rfl) hq2 hd_X2_put ⟨Nat.le_of_ble_eq_true rfl, Nat.le_of_ble_eq_true rfl⟩, hq3, trivial⟩ (rpS (AV := [.ref (A 1), .int s, .int x]) hw hK hG rp_25) rfl rfl hl.1 rfl (lv_room (Nat.le_of_ble_eq_true rfl)) dX0_endWaiting_6 ⟨Nat.le_of_ble_eq_true rfl, Nat.le_of_ble_eq_true rfl⟩) hw hA rp_24 (fun H locs hw => ?_)
  refine lv_aload_n hx hb dX0_endWaiting_9 rfl (lv_at hl 0 rfl) ?_
  refine k_get (ci := 0) (v := .ref (A 3)) (C := RX0) (T := TX0) (N := 10) hx hb hown hK hw hts hinX0 0 rfl rfl 3 (by decide) hf18 rfl dX0_endWaiting_10 ?_
  refine lv_iload_n hx hb dX0_endWaiting_13 rfl (lv_at hl 1 rfl) ?_
  refine lv_iconst (v := 0) hx hb dX0_endWaiting_14 (by decide) ?_
  refine kr_v (ws' := wC E A (B 0) (p_ru (p_st S (f_put 5 (c_st S) s x)) (f_mark 5 (c_ru S) s false)) ++ wG E B G) (va_runSN (As := [.ref (A 3), .int s, .int 0]) (rest := []) ⟨hx, hb, hml, hown, hts⟩ (c_X2_mark l E (A 3) 5 (c_ru S) s false (by decide) _) ⟨va_cnB 3 hts ggX0_endWaiting_X2_mark rfl rfl rfl (hG.nw 17 (w := .methodLinkNest RX0 71 yX2_mark "SailorCandles") rfl) hq2 hd_X2_mark ⟨Nat.le_of_ble_eq_true rfl, Nat.le_of_ble_eq_true rfl⟩, hq5, trivial⟩ (rpS (AV := [.ref (A 3), .int s, .int 0]) hw hK hG rp_32) rfl rfl hl.1 rfl (lv_room (Nat.le_of_ble_eq_true rfl)) dX0_endWaiting_15 ⟨Nat.le_of_ble_eq_true rfl, Nat.le_of_ble_eq_true rfl⟩) hw hA rp_31 (fun H locs hw => ?_)
  refine lv_iconst (v := 0) hx hb dX0_endWaiting_18 (by decide) ?_
  refine lv_istore_n (lv' := [(3, .int 0), (0, .ref (A 0)), (1, .int s), (2, .int x)]) hx hb dX0_endWaiting_19 rfl hl (by decide) rfl (fun ls hl => ?_)
  have L_20 : ∀ (k9 i : Nat) (H : Heap) (locs : List Loc) (ls : Array Slot), i + k9 = 4 → Wd E A9 s9.heap (wC E A (B 0) (p_ag ((p_ru (p_st S (f_put 5 (c_st S) s x)) (f_mark 5 (c_ru S) s false))) (l_endA s (c_ag S) i)) ++ wG E B G) H locs → lv_has ls 4 [(0, .ref (A 0)), (1, .int s), (3, .int (nI i))] → W p9 l e rm_X0_endWaiting s9 m args below meth c H locs 0 0 (EndV E A9 (wC E A (B 0) (f_end G S s x) ++ wG E B G) below args s9 (rm_X0_endWaiting).cells (rm_X0_endWaiting).slots) (F0 m 20 ls []) := by
    intro k9
    induction k9 with
    | zero =>
      intro i H locs ls hi hw hl
      have hz_1 : 4 = i := by omega
      refine lv_iload_n hx hb dX0_endWaiting_20 rfl (lv_at hl 2 rfl) ?_
      refine lv_iconst (v := 4) hx hb dX0_endWaiting_21 (by decide) ?_
      refine lv_icmp_ge (tgt := 44) hx hb dX0_endWaiting_22 (by decide) (fun _ => ?_) (fun q8 => absurd (by rw [← hz_1]; exact Int32.le_refl _) q8)
      refine lv_iconst (v := 0) hx hb dX0_endWaiting_44 (by decide) ?_
      refine lv_istore_n (lv' := [(3, .int 0), (0, .ref (A 0)), (1, .int s)]) hx hb dX0_endWaiting_45 rfl hl (by decide) rfl (fun ls hl => ?_)
      have L_46 : ∀ (k9 j : Nat) (H : Heap) (locs : List Loc) (ls : Array Slot), j + k9 = 16 → Wd E A9 s9.heap (wC E A (B 0) (l_endC G s ((p_ag ((p_ru (p_st S (f_put 5 (c_st S) s x)) (f_mark 5 (c_ru S) s false))) (l_endA s (c_ag S) i))) j) ++ wG E B G) H locs → lv_has ls 4 [(0, .ref (A 0)), (1, .int s), (3, .int (nI j))] → W p9 l e rm_X0_endWaiting s9 m args below meth c H locs 0 0 (EndV E A9 (wC E A (B 0) (f_end G S s x) ++ wG E B G) below args s9 (rm_X0_endWaiting).cells (rm_X0_endWaiting).slots) (F0 m 46 ls []) := by
        intro k9
        induction k9 with
        | zero =>
          intro j H locs ls hi hw hl
          have hz_2 : 16 = j := by omega
          refine lv_iload_n hx hb dX0_endWaiting_46 rfl (lv_at hl 2 rfl) ?_
          refine lv_bipush (v := 16) hx hb dX0_endWaiting_47 (by decide) ?_
          refine lv_icmp_ge (tgt := 96) hx hb dX0_endWaiting_49 (by decide) (fun _ => ?_) (fun q8 => absurd (by rw [← hz_2]; exact Int32.le_refl _) q8)
          exact k_vret hx hb hr hlocks hK hw dX0_endWaiting_96 (by subst hz_2 hz_1; first | rfl | assumption | (simp only [l_endA, l_endC, if_true, if_false, Bool.false_eq_true, Bool.true_eq_false, reduceIte, reduceCtorEq]; done) | (simp only [l_endA, l_endC, if_true, if_false, Bool.false_eq_true, Bool.true_eq_false, reduceIte, reduceCtorEq]; rfl) | (simp [l_endA, l_endC, if_true, if_false, Bool.false_eq_true, Bool.true_eq_false, reduceIte, reduceCtorEq]; done) | (simp [bI, l_endA, l_endC]; done))
        | succ k9 ih_46 =>
          intro j H locs ls hi hw hl
          have hi9 : j < 16 := by omega
          refine lv_iload_n hx hb dX0_endWaiting_46 rfl (lv_at hl 2 rfl) ?_
          refine lv_bipush (v := 16) hx hb dX0_endWaiting_47 (by decide) ?_
          refine lv_icmp_ge (tgt := 96) hx hb dX0_endWaiting_49 (by decide) (fun q8 => absurd q8 (nI_ge (a := j) (b := 16) (by omega) (by omega))) (fun _ => ?_)
          refine lv_aload_n hx hb dX0_endWaiting_52 rfl (lv_at hl 0 rfl) ?_
          refine k_get (ci := 0) (v := .ref (B 0)) (C := RX0) (T := TX0) (N := 10) hx hb hown hK hw hts hinX0 0 rfl rfl 0 (by decide) hf31 rfl dX0_endWaiting_53 ?_
          refine lv_iload_n hx hb dX0_endWaiting_56 rfl (lv_at hl 2 rfl) ?_
          refine kr_i (ws' := wC E A (B 0) (l_endC G s ((p_ag ((p_ru (p_st S (f_put 5 (c_st S) s x)) (f_mark 5 (c_ru S) s false))) (l_endA s (c_ag S) i))) j) ++ wG E B G) (va_runV (As := [.int (nI j)]) (rest := []) ⟨hx, hb, hml, hown, hts⟩ (c_X1_shipWith l E B G (nI j)  _) (cwV 1 hts gX0_endWaiting_X1_shipWith rfl rfl rfl ⟨rfl, hd_X1_shipWith⟩ ⟨Nat.le_of_ble_eq_true rfl, Nat.le_of_ble_eq_true rfl⟩) (pwV (ci := 1) (q0 := 7) (C := RX1) hw hK rfl rfl rfl (rpS (AV := [.ref (B 0), .int (nI j)]) hw hK hG rp_28)) rfl rfl hl.1 rfl (lv_room (Nat.le_of_ble_eq_true rfl)) dX0_endWaiting_57 ⟨Nat.le_of_ble_eq_true rfl, Nat.le_of_ble_eq_true rfl⟩) hw hA rp_28 (fun H locs hw => ?_)
          refine lv_iload_n hx hb dX0_endWaiting_60 rfl (lv_at hl 1 rfl) ?_
          refine lv_icmp_ne (tgt := 90) hx hb dX0_endWaiting_61 (by decide) (fun c_3 => ?_) (fun c_3 => ?_)
          · refine lv_iinc (v := nI (j + 1)) (lv' := [(3, .int (nI (j + 1))), (0, .ref (A 0)), (1, .int s)]) hx hb dX0_endWaiting_90 hl (k := 2) rfl (nI_add j 1) (by decide) rfl (fun ls hl => ?_)
            refine lv_goto (tgt := 46) hx hb dX0_endWaiting_93 (by decide) ?_
            exact ih_46 (j + 1) _ _ _ (by omega) (hw.to (by subst hz_1; first | assumption | (simp only [l_endA, l_endC, if_neg c_3, if_true, if_false, Bool.false_eq_true, Bool.true_eq_false, reduceIte, reduceCtorEq]; done) | (simp only [l_endA, l_endC, if_neg c_3, if_true, if_false, Bool.false_eq_true, Bool.true_eq_false, reduceIte, reduceCtorEq]; rfl) | rfl | (simp [l_endA, l_endC, if_neg c_3, if_true, if_false, Bool.false_eq_true, Bool.true_eq_false, reduceIte, reduceCtorEq]; done) | (simp [bI, l_endA, l_endC, c_3]; done))) (lv_sub hl [1, 2, 0] rfl)
          · refine lv_aload_n hx hb dX0_endWaiting_64 rfl (lv_at hl 0 rfl) ?_
            refine lv_dup hx hb dX0_endWaiting_65 rfl ?_
            refine k_get (ci := 0) (v := .int (c_wa (l_endC G s ((p_ag ((p_ru (p_st S (f_put 5 (c_st S) s x)) (f_mark 5 (c_ru S) s false))) (l_endA s (c_ag S) i))) j))) (C := RX0) (T := TX0) (N := 10) hx hb hown hK hw hts hinX0 0 rfl rfl 8 (by decide) hf47 rfl dX0_endWaiting_66 ?_
            refine lv_aload_n hx hb dX0_endWaiting_69 rfl (lv_at hl 0 rfl) ?_
            refine k_get (ci := 0) (v := .ref (A 4)) (C := RX0) (T := TX0) (N := 10) hx hb hown hK hw hts hinX0 0 rfl rfl 4 (by decide) hf22 rfl dX0_endWaiting_70 ?_
            refine lv_iload_n hx hb dX0_endWaiting_73 rfl (lv_at hl 2 rfl) ?_
            refine kr_i (ws' := wC E A (B 0) (l_endC G s ((p_ag ((p_ru (p_st S (f_put 5 (c_st S) s x)) (f_mark 5 (c_ru S) s false))) (l_endA s (c_ag S) i))) j) ++ wG E B G) (va_runSN (As := [.ref (A 4), .int (nI j)]) (rest := [.int (c_wa (l_endC G s ((p_ag ((p_ru (p_st S (f_put 5 (c_st S) s x)) (f_mark 5 (c_ru S) s false))) (l_endA s (c_ag S) i))) j)), .ref (A 0)]) ⟨hx, hb, hml, hown, hts⟩ (c_X2_at l E (A 4) 16 (c_ca (l_endC G s ((p_ag ((p_ru (p_st S (f_put 5 (c_st S) s x)) (f_mark 5 (c_ru S) s false))) (l_endA s (c_ag S) i))) j)) (nI j) (by decide) _) ⟨va_cnB 2 hts ggX0_endWaiting_X2_at rfl rfl rfl (hG.nw 15 (w := .methodLinkNest RX0 53 yX2_at "SailorCandles") rfl) hq2 hd_X2_at ⟨Nat.le_of_ble_eq_true rfl, Nat.le_of_ble_eq_true rfl⟩, hq9, trivial⟩ (rpS (AV := [.ref (A 4), .int (nI j)]) hw hK hG rp_33) rfl rfl hl.1 rfl (lv_room (Nat.le_of_ble_eq_true rfl)) dX0_endWaiting_74 ⟨Nat.le_of_ble_eq_true rfl, Nat.le_of_ble_eq_true rfl⟩) hw hA rp_33 (fun H locs hw => ?_)
            refine lv_iadd hx hb dX0_endWaiting_77 ?_
            refine k_put (ci := 0) (C := RX0) (T := TX0) (N := 10) (ws' := wC E A (B 0) (p_wa (l_endC G s ((p_ag ((p_ru (p_st S (f_put 5 (c_st S) s x)) (f_mark 5 (c_ru S) s false))) (l_endA s (c_ag S) i))) j) ((c_wa (l_endC G s ((p_ag ((p_ru (p_st S (f_put 5 (c_st S) s x)) (f_mark 5 (c_ru S) s false))) (l_endA s (c_ag S) i))) j)) + (f_at 16 (c_ca (l_endC G s ((p_ag ((p_ru (p_st S (f_put 5 (c_st S) s x)) (f_mark 5 (c_ru S) s false))) (l_endA s (c_ag S) i))) j)) (nI j)))) ++ wG E B G) hx hb hown hK hw hts hinX0 tyX0 tyX0_ok nmX0 0 rfl rfl 8 (by decide) hf47 rfl rfl (Nat.le_of_ble_eq_true rfl) dX0_endWaiting_78 rfl (fun H locs hw => ?_)
            refine lv_aload_n hx hb dX0_endWaiting_81 rfl (lv_at hl 0 rfl) ?_
            refine k_get (ci := 0) (v := .ref (A 4)) (C := RX0) (T := TX0) (N := 10) hx hb hown hK hw hts hinX0 0 rfl rfl 4 (by decide) hf22 rfl dX0_endWaiting_82 ?_
            refine lv_iload_n hx hb dX0_endWaiting_85 rfl (lv_at hl 2 rfl) ?_
            refine lv_iconst (v := 0) hx hb dX0_endWaiting_86 (by decide) ?_
            refine kr_v (ws' := wC E A (B 0) (p_ca (p_wa (l_endC G s ((p_ag ((p_ru (p_st S (f_put 5 (c_st S) s x)) (f_mark 5 (c_ru S) s false))) (l_endA s (c_ag S) i))) j) ((c_wa (l_endC G s ((p_ag ((p_ru (p_st S (f_put 5 (c_st S) s x)) (f_mark 5 (c_ru S) s false))) (l_endA s (c_ag S) i))) j)) + (f_at 16 (c_ca (l_endC G s ((p_ag ((p_ru (p_st S (f_put 5 (c_st S) s x)) (f_mark 5 (c_ru S) s false))) (l_endA s (c_ag S) i))) j)) (nI j)))) (f_put 16 (c_ca (l_endC G s ((p_ag ((p_ru (p_st S (f_put 5 (c_st S) s x)) (f_mark 5 (c_ru S) s false))) (l_endA s (c_ag S) i))) j)) (nI j) 0)) ++ wG E B G) (va_runSN (As := [.ref (A 4), .int (nI j), .int 0]) (rest := []) ⟨hx, hb, hml, hown, hts⟩ (c_X2_put l E (A 4) 16 (c_ca (l_endC G s ((p_ag ((p_ru (p_st S (f_put 5 (c_st S) s x)) (f_mark 5 (c_ru S) s false))) (l_endA s (c_ag S) i))) j)) (nI j) 0 (by decide) _) ⟨va_cnB 3 hts ggX0_endWaiting_X2_put rfl rfl rfl (hG.nw 16 (w := .methodLinkNest RX0 57 yX2_put "SailorCandles") rfl) hq2 hd_X2_put ⟨Nat.le_of_ble_eq_true rfl, Nat.le_of_ble_eq_true rfl⟩, hq3, trivial⟩ (rpS (AV := [.ref (A 4), .int (nI j), .int 0]) hw hK hG rp_33) rfl rfl hl.1 rfl (lv_room (Nat.le_of_ble_eq_true rfl)) dX0_endWaiting_87 ⟨Nat.le_of_ble_eq_true rfl, Nat.le_of_ble_eq_true rfl⟩) hw hA rp_34 (fun H locs hw => ?_)
            refine lv_iinc (v := nI (j + 1)) (lv' := [(3, .int (nI (j + 1))), (0, .ref (A 0)), (1, .int s)]) hx hb dX0_endWaiting_90 hl (k := 2) rfl (nI_add j 1) (by decide) rfl (fun ls hl => ?_)
            refine lv_goto (tgt := 46) hx hb dX0_endWaiting_93 (by decide) ?_
            exact ih_46 (j + 1) _ _ _ (by omega) (hw.to (by subst hz_1; first | assumption | (simp only [l_endA, l_endC, if_pos c_3, if_true, if_false, Bool.false_eq_true, Bool.true_eq_false, reduceIte, reduceCtorEq]; done) | (simp only [l_endA, l_endC, if_pos c_3, if_true, if_false, Bool.false_eq_true, Bool.true_eq_false, reduceIte, reduceCtorEq]; rfl) | rfl | (simp [l_endA, l_endC, if_pos c_3, if_true, if_false, Bool.false_eq_true, Bool.true_eq_false, reduceIte, reduceCtorEq]; done) | (simp [bI, l_endA, l_endC, c_3]; done))) (lv_sub hl [1, 2, 0] rfl)
      exact L_46 (16 - 0) 0 _ _ _ (by omega) hw (lv_sub hl [1, 2, 0] rfl)
    | succ k9 ih_20 =>
      intro i H locs ls hi hw hl
      have hi9 : i < 4 := by omega
      refine lv_iload_n hx hb dX0_endWaiting_20 rfl (lv_at hl 2 rfl) ?_
      refine lv_iconst (v := 4) hx hb dX0_endWaiting_21 (by decide) ?_
      refine lv_icmp_ge (tgt := 44) hx hb dX0_endWaiting_22 (by decide) (fun q8 => absurd q8 (nI_ge (a := i) (b := 4) (by omega) (by omega))) (fun _ => ?_)
      refine lv_aload_n hx hb dX0_endWaiting_25 rfl (lv_at hl 0 rfl) ?_
      refine k_get (ci := 0) (v := .ref (A 6)) (C := RX0) (T := TX0) (N := 10) hx hb hown hK hw hts hinX0 0 rfl rfl 6 (by decide) hf28 rfl dX0_endWaiting_26 ?_
      refine lv_iload_n hx hb dX0_endWaiting_29 rfl (lv_at hl 2 rfl) ?_
      refine lv_iload_n hx hb dX0_endWaiting_30 rfl (lv_at hl 1 rfl) ?_
      refine kr_i (ws' := wC E A (B 0) (p_ag ((p_ru (p_st S (f_put 5 (c_st S) s x)) (f_mark 5 (c_ru S) s false))) (l_endA s (c_ag S) i)) ++ wG E B G) (va_runS (As := [.int (nI i), .int s]) (rest := [.ref (A 6)]) ⟨hx, hb, hml, hown, hts⟩ (c_X0_placeOf l E (nI i) s  _) (va_cwS 2 hts gX0_endWaiting_X0_placeOf rfl rfl rfl hd_X0_placeOf ⟨Nat.le_of_ble_eq_true rfl, Nat.le_of_ble_eq_true rfl⟩) (rpS (AV := [.int (nI i), .int s]) hw hK hG rp_35) rfl rfl hl.1 rfl (lv_room (Nat.le_of_ble_eq_true rfl)) dX0_endWaiting_31 ⟨Nat.le_of_ble_eq_true rfl, Nat.le_of_ble_eq_true rfl⟩) hw hA rp_35 (fun H locs hw => ?_)
      refine lv_iconst (v := (-1)) hx hb dX0_endWaiting_34 (by decide) ?_
      refine kr_v (ws' := wC E A (B 0) (p_ag (p_ag ((p_ru (p_st S (f_put 5 (c_st S) s x)) (f_mark 5 (c_ru S) s false))) (l_endA s (c_ag S) i)) (f_put 20 (l_endA s (c_ag S) i) (f_place (nI i) s) (-1))) ++ wG E B G) (va_runSN (As := [.ref (A 6), .int (f_place (nI i) s), .int (-1)]) (rest := []) ⟨hx, hb, hml, hown, hts⟩ (c_X2_put l E (A 6) 20 (l_endA s (c_ag S) i) (f_place (nI i) s) (-1) (by decide) _) ⟨va_cnB 3 hts ggX0_endWaiting_X2_put rfl rfl rfl (hG.nw 16 (w := .methodLinkNest RX0 57 yX2_put "SailorCandles") rfl) hq2 hd_X2_put ⟨Nat.le_of_ble_eq_true rfl, Nat.le_of_ble_eq_true rfl⟩, hq3, trivial⟩ (rpS (AV := [.ref (A 6), .int (f_place (nI i) s), .int (-1)]) hw hK hG rp_37) rfl rfl hl.1 rfl (lv_room (Nat.le_of_ble_eq_true rfl)) dX0_endWaiting_35 ⟨Nat.le_of_ble_eq_true rfl, Nat.le_of_ble_eq_true rfl⟩) hw hA rp_36 (fun H locs hw => ?_)
      refine lv_iinc (v := nI (i + 1)) (lv' := [(3, .int (nI (i + 1))), (0, .ref (A 0)), (1, .int s)]) hx hb dX0_endWaiting_38 hl (k := 2) rfl (nI_add i 1) (by decide) rfl (fun ls hl => ?_)
      refine lv_goto (tgt := 20) hx hb dX0_endWaiting_41 (by decide) ?_
      exact ih_20 (i + 1) _ _ _ (by omega) (hw.to (by first | rfl | assumption | (simp only [l_endA, l_endC, if_true, if_false, Bool.false_eq_true, Bool.true_eq_false, reduceIte, reduceCtorEq]; done) | (simp only [l_endA, l_endC, if_true, if_false, Bool.false_eq_true, Bool.true_eq_false, reduceIte, reduceCtorEq]; rfl) | (simp [l_endA, l_endC, if_true, if_false, Bool.false_eq_true, Bool.true_eq_false, reduceIte, reduceCtorEq]; done) | (simp [bI, l_endA, l_endC]; done))) (lv_sub hl [1, 2, 0] rfl)
  exact L_20 (4 - 0) 0 _ _ _ (by omega) hw (lv_sub hl [1, 2, 0] rfl)
abbrev rm_X0_lostSailors : Room := { frames := 2, cells := 0, slots := 0, locals := 42 }
set_option maxHeartbeats 4000000 in
set_option maxRecDepth 100000 in
theorem c_X0_lostSailors (l : Launch) (E : Ev) (A B : Nat → Nat) (S : CS) (G : HS) : MI l E yX0_lostSailors wsX0_lostSailors rm_X0_lostSailors [.ref (A 0)] (wC E A (B 0) S ++ wG E B G) (l_lost G S 16) (wC E A (B 0) S ++ wG E B G) := by
  refine k_bI (cc := cX0_lostSailors) (maxL := 3) (ret := (some .int)) (by decide) rfl (Nat.le_of_ble_eq_true rfl) ?_
  intro p9 e s9 m args below meth c A9 ls hC hl hw
  obtain ⟨hx, hb, hml, hr, hown, hts, hlocks, hK, hG, hA⟩ := hC
  have hf31 := hts (.fieldLink RX0 31 "SailorCandles$Chapel" "harbour" "LSailorCandles$Harbour;") (List.mem_of_getElem? (i := 1) rfl)
  have hinX0 : ∀ w ∈ wsX00, w ∈ wsX0_lostSailors := fun w h => List.mem_cons_of_mem _ (List.mem_append_left _ (List.mem_append_right _ h))
  have hl : lv_has ls 3 [(0, .ref (A 0))] := hl
  refine lv_iconst (v := 0) hx hb dX0_lostSailors_0 (by decide) ?_
  refine lv_istore_n (lv' := [(1, .int 0), (0, .ref (A 0))]) hx hb dX0_lostSailors_1 rfl hl (by decide) rfl (fun ls hl => ?_)
  refine lv_iconst (v := 0) hx hb dX0_lostSailors_2 (by decide) ?_
  refine lv_istore_n (lv' := [(2, .int 0), (1, .int 0), (0, .ref (A 0))]) hx hb dX0_lostSailors_3 rfl hl (by decide) rfl (fun ls hl => ?_)
  have L_4 : ∀ (k9 i : Nat) (H : Heap) (locs : List Loc) (ls : Array Slot), i + k9 = 16 → Wd E A9 s9.heap (wC E A (B 0) S ++ wG E B G) H locs → lv_has ls 3 [(0, .ref (A 0)), (1, .int (l_lost G S i)), (2, .int (nI i))] → W p9 l e rm_X0_lostSailors s9 m args below meth c H locs 0 0 (EndI E A9 (l_lost G S 16) (wC E A (B 0) S ++ wG E B G) below args s9 (rm_X0_lostSailors).cells (rm_X0_lostSailors).slots) (F0 m 4 ls []) := by
    intro k9
    induction k9 with
    | zero =>
      intro i H locs ls hi hw hl
      have hz_1 : 16 = i := by omega
      refine lv_iload_n hx hb dX0_lostSailors_4 rfl (lv_at hl 2 rfl) ?_
      refine lv_bipush (v := 16) hx hb dX0_lostSailors_5 (by decide) ?_
      refine lv_icmp_ge (tgt := 35) hx hb dX0_lostSailors_7 (by decide) (fun _ => ?_) (fun q8 => absurd (by rw [← hz_1]; exact Int32.le_refl _) q8)
      refine lv_iload_n hx hb dX0_lostSailors_35 rfl (lv_at hl 1 rfl) ?_
      exact k_iret hx hb hr hlocks hK hw rfl dX0_lostSailors_36 (by subst hz_1; first | rfl | assumption | (simp only [l_lost, if_true, if_false, Bool.false_eq_true, Bool.true_eq_false, reduceIte, reduceCtorEq]; done) | (simp only [l_lost, if_true, if_false, Bool.false_eq_true, Bool.true_eq_false, reduceIte, reduceCtorEq]; rfl) | (simp [l_lost, if_true, if_false, Bool.false_eq_true, Bool.true_eq_false, reduceIte, reduceCtorEq]; done) | (simp [bI, l_lost]; done)) rfl
    | succ k9 ih_4 =>
      intro i H locs ls hi hw hl
      have hi9 : i < 16 := by omega
      refine lv_iload_n hx hb dX0_lostSailors_4 rfl (lv_at hl 2 rfl) ?_
      refine lv_bipush (v := 16) hx hb dX0_lostSailors_5 (by decide) ?_
      refine lv_icmp_ge (tgt := 35) hx hb dX0_lostSailors_7 (by decide) (fun q8 => absurd q8 (nI_ge (a := i) (b := 16) (by omega) (by omega))) (fun _ => ?_)
      refine lv_aload_n hx hb dX0_lostSailors_10 rfl (lv_at hl 0 rfl) ?_
      refine lv_aload_n hx hb dX0_lostSailors_11 rfl (lv_at hl 0 rfl) ?_
      refine k_get (ci := 0) (v := .ref (B 0)) (C := RX0) (T := TX0) (N := 10) hx hb hown hK hw hts hinX0 0 rfl rfl 0 (by decide) hf31 rfl dX0_lostSailors_12 ?_
      refine lv_iload_n hx hb dX0_lostSailors_15 rfl (lv_at hl 2 rfl) ?_
      refine kr_i (ws' := wC E A (B 0) S ++ wG E B G) (va_runV (As := [.int (nI i)]) (rest := [.ref (A 0)]) ⟨hx, hb, hml, hown, hts⟩ (c_X1_shipWith l E B G (nI i)  _) (cwV 1 hts gX0_lostSailors_X1_shipWith rfl rfl rfl ⟨rfl, hd_X1_shipWith⟩ ⟨Nat.le_of_ble_eq_true rfl, Nat.le_of_ble_eq_true rfl⟩) (pwV (ci := 1) (q0 := 7) (C := RX1) hw hK rfl rfl rfl (rpS (AV := [.ref (B 0), .int (nI i)]) hw hK hG rp_28)) rfl rfl hl.1 rfl (lv_room (Nat.le_of_ble_eq_true rfl)) dX0_lostSailors_16 ⟨Nat.le_of_ble_eq_true rfl, Nat.le_of_ble_eq_true rfl⟩) hw hA rp_28 (fun H locs hw => ?_)
      refine kr_i (ws' := wC E A (B 0) S ++ wG E B G) (va_runV (As := [.int (f_ship G (nI i))]) (rest := []) ⟨hx, hb, hml, hown, hts⟩ (c_X0_stayOf l E A (B 0) S (f_ship G (nI i))  _) (cwV 1 hts gX0_lostSailors_X0_stayOf rfl rfl rfl ⟨rfl, hd_X0_stayOf⟩ ⟨Nat.le_of_ble_eq_true rfl, Nat.le_of_ble_eq_true rfl⟩) (pwV (ci := 0) (q0 := 0) (C := RX0) hw hK rfl rfl rfl (rpS (AV := [.ref (A 0), .int (f_ship G (nI i))]) hw hK hG rp_30)) rfl rfl hl.1 rfl (lv_room (Nat.le_of_ble_eq_true rfl)) dX0_lostSailors_19 ⟨Nat.le_of_ble_eq_true rfl, Nat.le_of_ble_eq_true rfl⟩) hw hA rp_30 (fun H locs hw => ?_)
      refine lv_iconst (v := 2) hx hb dX0_lostSailors_22 (by decide) ?_
      refine lv_icmp_ne (tgt := 29) hx hb dX0_lostSailors_23 (by decide) (fun c_2 => ?_) (fun c_2 => ?_)
      · refine lv_iinc (v := nI (i + 1)) (lv' := [(2, .int (nI (i + 1))), (0, .ref (A 0)), (1, .int (l_lost G S i))]) hx hb dX0_lostSailors_29 hl (k := 2) rfl (nI_add i 1) (by decide) rfl (fun ls hl => ?_)
        refine lv_goto (tgt := 4) hx hb dX0_lostSailors_32 (by decide) ?_
        exact ih_4 (i + 1) _ _ _ (by omega) hw (by rw [show (.int (l_lost G S (i + 1)) : Value) = .int (l_lost G S i) from (by first | assumption | (simp only [l_lost, if_neg c_2, if_true, if_false, Bool.false_eq_true, Bool.true_eq_false, reduceIte, reduceCtorEq]; done) | (simp only [l_lost, if_neg c_2, if_true, if_false, Bool.false_eq_true, Bool.true_eq_false, reduceIte, reduceCtorEq]; rfl) | rfl | (simp [l_lost, if_neg c_2, if_true, if_false, Bool.false_eq_true, Bool.true_eq_false, reduceIte, reduceCtorEq]; done) | (simp [bI, l_lost, c_2]; done))]; exact lv_sub hl [1, 2, 0] rfl)
      · refine lv_iinc (v := (l_lost G S i) + 1) (lv' := [(1, .int ((l_lost G S i) + 1)), (0, .ref (A 0)), (2, .int (nI i))]) hx hb dX0_lostSailors_26 hl (k := 1) rfl rfl (by decide) rfl (fun ls hl => ?_)
        refine lv_iinc (v := nI (i + 1)) (lv' := [(2, .int (nI (i + 1))), (1, .int ((l_lost G S i) + 1)), (0, .ref (A 0))]) hx hb dX0_lostSailors_29 hl (k := 2) rfl (nI_add i 1) (by decide) rfl (fun ls hl => ?_)
        refine lv_goto (tgt := 4) hx hb dX0_lostSailors_32 (by decide) ?_
        exact ih_4 (i + 1) _ _ _ (by omega) hw (by rw [show (.int (l_lost G S (i + 1)) : Value) = .int ((l_lost G S i) + 1) from (by first | assumption | (simp only [l_lost, if_pos c_2, if_true, if_false, Bool.false_eq_true, Bool.true_eq_false, reduceIte, reduceCtorEq]; done) | (simp only [l_lost, if_pos c_2, if_true, if_false, Bool.false_eq_true, Bool.true_eq_false, reduceIte, reduceCtorEq]; rfl) | rfl | (simp [l_lost, if_pos c_2, if_true, if_false, Bool.false_eq_true, Bool.true_eq_false, reduceIte, reduceCtorEq]; done) | (simp [bI, l_lost, c_2]; done))]; exact lv_sub hl [2, 1, 0] rfl)
  exact L_4 (16 - 0) 0 _ _ _ (by omega) hw (lv_sub hl [2, 1, 0] rfl)
abbrev rm_X0_hasSighting : Room := { frames := 1, cells := 0, slots := 0, locals := 21 }
set_option maxHeartbeats 4000000 in
set_option maxRecDepth 100000 in
theorem c_X0_hasSighting (l : Launch) (E : Ev) (A : Nat → Nat) (o1 : Nat) (S : CS) (w s : Int32) : MI l E yX0_hasSighting wsX0_hasSighting rm_X0_hasSighting [.ref (A 0), .int w, .int s] (wC E A o1 S) (bI (f_hasS S w s)) (wC E A o1 S) := by
  refine k_bI (cc := cX0_hasSighting) (maxL := 4) (ret := (some .boolean)) (by decide) rfl (Nat.le_of_ble_eq_true rfl) ?_
  intro p9 e s9 m args below meth c A9 ls hC hl hw
  obtain ⟨hx, hb, hml, hr, hown, hts, hlocks, hK, hG, hA⟩ := hC
  have hf28 := hts (.fieldLink RX0 28 "SailorCandles$Chapel" "sightingAge" "[I") (List.mem_of_getElem? (i := 1) rfl)
  have hinX0 : ∀ w ∈ wsX00, w ∈ wsX0_hasSighting := fun w h => List.mem_cons_of_mem _ (List.mem_append_right _ h)
  have hl : lv_has ls 4 [(0, .ref (A 0)), (1, .int w), (2, .int s)] := hl
  refine lv_iload_n hx hb dX0_hasSighting_0 rfl (lv_at hl 1 rfl) ?_
  refine lv_iload_n hx hb dX0_hasSighting_1 rfl (lv_at hl 2 rfl) ?_
  refine kr_i (ws' := wC E A o1 S) (va_runS (As := [.int w, .int s]) (rest := []) ⟨hx, hb, hml, hown, hts⟩ (c_X0_placeOf l E w s  _) (va_cwS 2 hts gX0_hasSighting_X0_placeOf rfl rfl rfl hd_X0_placeOf ⟨Nat.le_of_ble_eq_true rfl, Nat.le_of_ble_eq_true rfl⟩) (rpS (AV := [.int w, .int s]) hw hK hG rp_38) rfl rfl hl.1 rfl (lv_room (Nat.le_of_ble_eq_true rfl)) dX0_hasSighting_2 ⟨Nat.le_of_ble_eq_true rfl, Nat.le_of_ble_eq_true rfl⟩) hw hA rp_38 (fun H locs hw => ?_)
  refine lv_istore_n (lv' := [(3, .int (f_place w s)), (0, .ref (A 0)), (1, .int w), (2, .int s)]) hx hb dX0_hasSighting_5 rfl hl (by decide) rfl (fun ls hl => ?_)
  refine lv_iload_n hx hb dX0_hasSighting_6 rfl (lv_at hl 0 rfl) ?_
  refine lv_if_lt (tgt := 33) hx hb dX0_hasSighting_7 (by decide) (fun c_1 => ?_) (fun c_1 => ?_)
  · refine lv_iconst (v := 0) hx hb dX0_hasSighting_33 (by decide) ?_
    exact k_iret hx hb hr hlocks hK hw rfl dX0_hasSighting_34 (by first | assumption | (simp only [f_hasS, bI_t, bI_f, if_pos c_1, if_true, if_false, Bool.false_eq_true, Bool.true_eq_false, reduceIte, reduceCtorEq]; done) | (simp only [f_hasS, bI_t, bI_f, if_pos c_1, if_true, if_false, Bool.false_eq_true, Bool.true_eq_false, reduceIte, reduceCtorEq]; rfl) | rfl | (simp [f_hasS, bI_t, bI_f, if_pos c_1, if_true, if_false, Bool.false_eq_true, Bool.true_eq_false, reduceIte, reduceCtorEq]; done) | (simp [bI, f_hasS, bI_t, bI_f, c_1]; done)) rfl
  · refine lv_iload_n hx hb dX0_hasSighting_10 rfl (lv_at hl 0 rfl) ?_
    refine lv_aload_n hx hb dX0_hasSighting_11 rfl (lv_at hl 1 rfl) ?_
    refine k_get (ci := 0) (v := .ref (A 6)) (C := RX0) (T := TX0) (N := 10) hx hb hown hK hw hts hinX0 0 rfl rfl 6 (by decide) hf28 rfl dX0_hasSighting_12 ?_
    refine k_lenI hx hb hK hw 6 rfl dX0_hasSighting_15 ?_
    refine lv_icmp_ge (tgt := 33) hx hb dX0_hasSighting_16 (by decide) (fun c_2 => ?_) (fun c_2 => ?_)
    · refine lv_iconst (v := 0) hx hb dX0_hasSighting_33 (by decide) ?_
      exact k_iret hx hb hr hlocks hK hw rfl dX0_hasSighting_34 (by first | assumption | (simp only [f_hasS, bI_t, bI_f, if_neg c_1, if_pos c_2, if_true, if_false, Bool.false_eq_true, Bool.true_eq_false, reduceIte, reduceCtorEq]; done) | (simp only [f_hasS, bI_t, bI_f, if_neg c_1, if_pos c_2, if_true, if_false, Bool.false_eq_true, Bool.true_eq_false, reduceIte, reduceCtorEq]; rfl) | rfl | (simp [f_hasS, bI_t, bI_f, if_neg c_1, if_pos c_2, if_true, if_false, Bool.false_eq_true, Bool.true_eq_false, reduceIte, reduceCtorEq]; done) | (simp [bI, f_hasS, bI_t, bI_f, c_1, c_2]; done)) rfl
    · refine lv_aload_n hx hb dX0_hasSighting_19 rfl (lv_at hl 1 rfl) ?_
      refine k_get (ci := 0) (v := .ref (A 6)) (C := RX0) (T := TX0) (N := 10) hx hb hown hK hw hts hinX0 0 rfl rfl 6 (by decide) hf28 rfl dX0_hasSighting_20 ?_
      refine lv_iload_n hx hb dX0_hasSighting_23 rfl (lv_at hl 0 rfl) ?_
      refine k_ild (f := c_ag S) hx hb hK hw 6 rfl (vp_raw c_1 c_2 (by decide)) rfl dX0_hasSighting_24 ?_
      refine lv_iconst (v := (-1)) hx hb dX0_hasSighting_25 (by decide) ?_
      refine lv_icmp_eq (tgt := 33) hx hb dX0_hasSighting_26 (by decide) (fun c_3 => ?_) (fun c_3 => ?_)
      · refine lv_iconst (v := 0) hx hb dX0_hasSighting_33 (by decide) ?_
        exact k_iret hx hb hr hlocks hK hw rfl dX0_hasSighting_34 (by first | assumption | (simp only [f_hasS, bI_t, bI_f, if_neg c_1, if_neg c_2, if_pos c_3, if_true, if_false, Bool.false_eq_true, Bool.true_eq_false, reduceIte, reduceCtorEq]; done) | (simp only [f_hasS, bI_t, bI_f, if_neg c_1, if_neg c_2, if_pos c_3, if_true, if_false, Bool.false_eq_true, Bool.true_eq_false, reduceIte, reduceCtorEq]; rfl) | rfl | (simp [f_hasS, bI_t, bI_f, if_neg c_1, if_neg c_2, if_pos c_3, if_true, if_false, Bool.false_eq_true, Bool.true_eq_false, reduceIte, reduceCtorEq]; done) | (simp [bI, f_hasS, bI_t, bI_f, c_1, c_2, c_3]; done)) rfl
      · refine lv_iconst (v := 1) hx hb dX0_hasSighting_29 (by decide) ?_
        refine lv_goto (tgt := 34) hx hb dX0_hasSighting_30 (by decide) ?_
        exact k_iret hx hb hr hlocks hK hw rfl dX0_hasSighting_34 (by first | assumption | (simp only [f_hasS, bI_t, bI_f, if_neg c_1, if_neg c_2, if_neg c_3, if_true, if_false, Bool.false_eq_true, Bool.true_eq_false, reduceIte, reduceCtorEq]; done) | (simp only [f_hasS, bI_t, bI_f, if_neg c_1, if_neg c_2, if_neg c_3, if_true, if_false, Bool.false_eq_true, Bool.true_eq_false, reduceIte, reduceCtorEq]; rfl) | rfl | (simp [f_hasS, bI_t, bI_f, if_neg c_1, if_neg c_2, if_neg c_3, if_true, if_false, Bool.false_eq_true, Bool.true_eq_false, reduceIte, reduceCtorEq]; done) | (simp [bI, f_hasS, bI_t, bI_f, c_1, c_2, c_3]; done)) rfl
abbrev rm_X0_trustSum : Room := { frames := 2, cells := 0, slots := 0, locals := 44 }
set_option maxHeartbeats 4000000 in
set_option maxRecDepth 100000 in
theorem c_X0_trustSum (l : Launch) (E : Ev) (A : Nat → Nat) (o1 : Nat) (S : CS) (s : Int32) : MI l E yX0_trustSum wsX0_trustSum rm_X0_trustSum [.ref (A 0), .int s] (wC E A o1 S) (f_trust S s) (wC E A o1 S) := by
  refine k_bI (cc := cX0_trustSum) (maxL := 4) (ret := (some .int)) (by decide) rfl (Nat.le_of_ble_eq_true rfl) ?_
  intro p9 e s9 m args below meth c A9 ls hC hl hw
  obtain ⟨hx, hb, hml, hr, hown, hts, hlocks, hK, hG, hA⟩ := hC
  have hf25 := hts (.fieldLink RX0 25 "SailorCandles$Chapel" "trust" "[I") (List.mem_of_getElem? (i := 1) rfl)
  have hinX0 : ∀ w ∈ wsX00, w ∈ wsX0_trustSum := fun w h => List.mem_cons_of_mem _ (List.mem_append_right _ h)
  have hq2 := hts (.initialized RX2) (List.mem_of_getElem? (i := 12) rfl)
  have hq3 := hts (.static yX2_at) (List.mem_of_getElem? (i := 11) rfl)
  have hl : lv_has ls 4 [(0, .ref (A 0)), (1, .int s)] := hl
  refine lv_iconst (v := 0) hx hb dX0_trustSum_0 (by decide) ?_
  refine lv_istore_n (lv' := [(2, .int 0), (0, .ref (A 0)), (1, .int s)]) hx hb dX0_trustSum_1 rfl hl (by decide) rfl (fun ls hl => ?_)
  refine lv_iconst (v := 0) hx hb dX0_trustSum_2 (by decide) ?_
  refine lv_istore_n (lv' := [(3, .int 0), (2, .int 0), (0, .ref (A 0)), (1, .int s)]) hx hb dX0_trustSum_3 rfl hl (by decide) rfl (fun ls hl => ?_)
  have L_4 : ∀ (k9 i : Nat) (H : Heap) (locs : List Loc) (ls : Array Slot), i + k9 = 4 → Wd E A9 s9.heap (wC E A o1 S) H locs → lv_has ls 4 [(0, .ref (A 0)), (1, .int s), (2, .int (l_trust S s i)), (3, .int (nI i))] → W p9 l e rm_X0_trustSum s9 m args below meth c H locs 0 0 (EndI E A9 (f_trust S s) (wC E A o1 S) below args s9 (rm_X0_trustSum).cells (rm_X0_trustSum).slots) (F0 m 4 ls []) := by
    intro k9
    induction k9 with
    | zero =>
      intro i H locs ls hi hw hl
      have hz_1 : 4 = i := by omega
      refine lv_iload_n hx hb dX0_trustSum_4 rfl (lv_at hl 3 rfl) ?_
      refine lv_iconst (v := 4) hx hb dX0_trustSum_5 (by decide) ?_
      refine lv_icmp_ge (tgt := 35) hx hb dX0_trustSum_6 (by decide) (fun _ => ?_) (fun q8 => absurd (by rw [← hz_1]; exact Int32.le_refl _) q8)
      refine lv_iload_n hx hb dX0_trustSum_35 rfl (lv_at hl 2 rfl) ?_
      exact k_iret hx hb hr hlocks hK hw rfl dX0_trustSum_36 (by subst hz_1; first | rfl | assumption | (simp only [l_trust, if_true, if_false, Bool.false_eq_true, Bool.true_eq_false, reduceIte, reduceCtorEq]; done) | (simp only [l_trust, if_true, if_false, Bool.false_eq_true, Bool.true_eq_false, reduceIte, reduceCtorEq]; rfl) | (simp [l_trust, if_true, if_false, Bool.false_eq_true, Bool.true_eq_false, reduceIte, reduceCtorEq]; done) | (simp [bI, l_trust]; done)) rfl
    | succ k9 ih_4 =>
      intro i H locs ls hi hw hl
      have hi9 : i < 4 := by omega
      refine lv_iload_n hx hb dX0_trustSum_4 rfl (lv_at hl 3 rfl) ?_
      refine lv_iconst (v := 4) hx hb dX0_trustSum_5 (by decide) ?_
      refine lv_icmp_ge (tgt := 35) hx hb dX0_trustSum_6 (by decide) (fun q8 => absurd q8 (nI_ge (a := i) (b := 4) (by omega) (by omega))) (fun _ => ?_)
      refine lv_aload_n hx hb dX0_trustSum_9 rfl (lv_at hl 0 rfl) ?_
      refine lv_iload_n hx hb dX0_trustSum_10 rfl (lv_at hl 3 rfl) ?_
      refine lv_iload_n hx hb dX0_trustSum_11 rfl (lv_at hl 1 rfl) ?_
      refine kr_i (ws' := wC E A o1 S) (va_runV (As := [.int (nI i), .int s]) (rest := []) ⟨hx, hb, hml, hown, hts⟩ (c_X0_hasSighting l E A o1 S (nI i) s  _) (cwV 2 hts gX0_trustSum_X0_hasSighting rfl rfl rfl ⟨rfl, hd_X0_hasSighting⟩ ⟨Nat.le_of_ble_eq_true rfl, Nat.le_of_ble_eq_true rfl⟩) (pwV (ci := 0) (q0 := 0) (C := RX0) hw hK rfl rfl rfl (rpS (AV := [.ref (A 0), .int (nI i), .int s]) hw hK hG rp_39)) rfl rfl hl.1 rfl (lv_room (Nat.le_of_ble_eq_true rfl)) dX0_trustSum_12 ⟨Nat.le_of_ble_eq_true rfl, Nat.le_of_ble_eq_true rfl⟩) hw hA rp_39 (fun H locs hw => ?_)
      refine lv_if_eq (tgt := 29) hx hb dX0_trustSum_15 (by decide) (fun c_2 => ?_) (fun c_2 => ?_)
      · have c_2 := bI_z c_2
        refine lv_iinc (v := nI (i + 1)) (lv' := [(3, .int (nI (i + 1))), (0, .ref (A 0)), (1, .int s), (2, .int (l_trust S s i))]) hx hb dX0_trustSum_29 hl (k := 3) rfl (nI_add i 1) (by decide) rfl (fun ls hl => ?_)
        refine lv_goto (tgt := 4) hx hb dX0_trustSum_32 (by decide) ?_
        exact ih_4 (i + 1) _ _ _ (by omega) hw (by rw [show (.int (l_trust S s (i + 1)) : Value) = .int (l_trust S s i) from (by first | assumption | (simp only [l_trust, c_2, if_true, if_false, Bool.false_eq_true, Bool.true_eq_false, reduceIte, reduceCtorEq]; done) | (simp only [l_trust, c_2, if_true, if_false, Bool.false_eq_true, Bool.true_eq_false, reduceIte, reduceCtorEq]; rfl) | rfl | (simp [l_trust, c_2, if_true, if_false, Bool.false_eq_true, Bool.true_eq_false, reduceIte, reduceCtorEq]; done) | (simp [bI, l_trust, c_2]; done))]; exact lv_sub hl [1, 2, 3, 0] rfl)
      · have c_2 := bI_nz c_2
        refine lv_iload_n hx hb dX0_trustSum_18 rfl (lv_at hl 2 rfl) ?_
        refine lv_aload_n hx hb dX0_trustSum_19 rfl (lv_at hl 0 rfl) ?_
        refine k_get (ci := 0) (v := .ref (A 5)) (C := RX0) (T := TX0) (N := 10) hx hb hown hK hw hts hinX0 0 rfl rfl 5 (by decide) hf25 rfl dX0_trustSum_20 ?_
        refine lv_iload_n hx hb dX0_trustSum_23 rfl (lv_at hl 3 rfl) ?_
        refine kr_i (ws' := wC E A o1 S) (va_runSN (As := [.ref (A 5), .int (nI i)]) (rest := [.int (l_trust S s i)]) ⟨hx, hb, hml, hown, hts⟩ (c_X2_at l E (A 5) 4 (c_tr S) (nI i) (by decide) _) ⟨va_cnB 2 hts ggX0_trustSum_X2_at rfl rfl rfl (hG.nw 15 (w := .methodLinkNest RX0 53 yX2_at "SailorCandles") rfl) hq2 hd_X2_at ⟨Nat.le_of_ble_eq_true rfl, Nat.le_of_ble_eq_true rfl⟩, hq3, trivial⟩ (rpS (AV := [.ref (A 5), .int (nI i)]) hw hK hG rp_40) rfl rfl hl.1 rfl (lv_room (Nat.le_of_ble_eq_true rfl)) dX0_trustSum_24 ⟨Nat.le_of_ble_eq_true rfl, Nat.le_of_ble_eq_true rfl⟩) hw hA rp_40 (fun H locs hw => ?_)
        refine lv_iadd hx hb dX0_trustSum_27 ?_
        refine lv_istore_n (lv' := [(2, .int ((l_trust S s i) + (f_at 4 (c_tr S) (nI i)))), (0, .ref (A 0)), (1, .int s), (3, .int (nI i))]) hx hb dX0_trustSum_28 rfl hl (by decide) rfl (fun ls hl => ?_)
        refine lv_iinc (v := nI (i + 1)) (lv' := [(3, .int (nI (i + 1))), (2, .int ((l_trust S s i) + (f_at 4 (c_tr S) (nI i)))), (0, .ref (A 0)), (1, .int s)]) hx hb dX0_trustSum_29 hl (k := 3) rfl (nI_add i 1) (by decide) rfl (fun ls hl => ?_)
        refine lv_goto (tgt := 4) hx hb dX0_trustSum_32 (by decide) ?_
        exact ih_4 (i + 1) _ _ _ (by omega) hw (by rw [show (.int (l_trust S s (i + 1)) : Value) = .int ((l_trust S s i) + (f_at 4 (c_tr S) (nI i))) from (by first | assumption | (simp only [l_trust, c_2, if_true, if_false, Bool.false_eq_true, Bool.true_eq_false, reduceIte, reduceCtorEq]; done) | (simp only [l_trust, c_2, if_true, if_false, Bool.false_eq_true, Bool.true_eq_false, reduceIte, reduceCtorEq]; rfl) | rfl | (simp [l_trust, c_2, if_true, if_false, Bool.false_eq_true, Bool.true_eq_false, reduceIte, reduceCtorEq]; done) | (simp [bI, l_trust, c_2]; done))]; exact lv_sub hl [2, 3, 1, 0] rfl)
  exact L_4 (4 - 0) 0 _ _ _ (by omega) hw (lv_sub hl [2, 3, 1, 0] rfl)
abbrev rm_X0_enterSighting : Room := { frames := 3, cells := 0, slots := 0, locals := 67 }
set_option maxHeartbeats 4000000 in
set_option maxRecDepth 100000 in
theorem c_X0_enterSighting (l : Launch) (E : Ev) (A : Nat → Nat) (o1 : Nat) (S : CS) (w s : Int32) : MV l E yX0_enterSighting wsX0_enterSighting rm_X0_enterSighting [.ref (A 0), .int w, .int s] (wC E A o1 S) (wC E A o1 (f_enter S w s)) := by
  refine k_bV (cc := cX0_enterSighting) (maxL := 3) (ret := none) (by decide) rfl (Nat.le_of_ble_eq_true rfl) ?_
  intro p9 e s9 m args below meth c A9 ls hC hl hw
  obtain ⟨hx, hb, hml, hr, hown, hts, hlocks, hK, hG, hA⟩ := hC
  have hf28 := hts (.fieldLink RX0 28 "SailorCandles$Chapel" "sightingAge" "[I") (List.mem_of_getElem? (i := 1) rfl)
  have hinX0 : ∀ w ∈ wsX00, w ∈ wsX0_enterSighting := fun w h => List.mem_cons_of_mem _ (List.mem_append_right _ h)
  have hq2 := hts (.initialized RX2) (List.mem_of_getElem? (i := 8) rfl)
  have hq3 := hts (.static yX2_put) (List.mem_of_getElem? (i := 7) rfl)
  have hf18 := hts (.fieldLink RX0 18 "SailorCandles$Chapel" "rung" "[Z") (List.mem_of_getElem? (i := 2) rfl)
  have hq5 := hts (.static yX2_mark) (List.mem_of_getElem? (i := 21) rfl)
  have hl : lv_has ls 3 [(0, .ref (A 0)), (1, .int w), (2, .int s)] := hl
  refine lv_aload_n hx hb dX0_enterSighting_0 rfl (lv_at hl 0 rfl) ?_
  refine k_get (ci := 0) (v := .ref (A 6)) (C := RX0) (T := TX0) (N := 10) hx hb hown hK hw hts hinX0 0 rfl rfl 6 (by decide) hf28 rfl dX0_enterSighting_1 ?_
  refine lv_iload_n hx hb dX0_enterSighting_4 rfl (lv_at hl 1 rfl) ?_
  refine lv_iload_n hx hb dX0_enterSighting_5 rfl (lv_at hl 2 rfl) ?_
  refine kr_i (ws' := wC E A o1 S) (va_runS (As := [.int w, .int s]) (rest := [.ref (A 6)]) ⟨hx, hb, hml, hown, hts⟩ (c_X0_placeOf l E w s  _) (va_cwS 2 hts gX0_enterSighting_X0_placeOf rfl rfl rfl hd_X0_placeOf ⟨Nat.le_of_ble_eq_true rfl, Nat.le_of_ble_eq_true rfl⟩) (rpS (AV := [.int w, .int s]) hw hK hG rp_38) rfl rfl hl.1 rfl (lv_room (Nat.le_of_ble_eq_true rfl)) dX0_enterSighting_6 ⟨Nat.le_of_ble_eq_true rfl, Nat.le_of_ble_eq_true rfl⟩) hw hA rp_38 (fun H locs hw => ?_)
  refine lv_iconst (v := 0) hx hb dX0_enterSighting_9 (by decide) ?_
  refine kr_v (ws' := wC E A o1 (p_ag S (f_put 20 (c_ag S) (f_place w s) 0))) (va_runSN (As := [.ref (A 6), .int (f_place w s), .int 0]) (rest := []) ⟨hx, hb, hml, hown, hts⟩ (c_X2_put l E (A 6) 20 (c_ag S) (f_place w s) 0 (by decide) _) ⟨va_cnB 3 hts ggX0_enterSighting_X2_put rfl rfl rfl (hG.nw 16 (w := .methodLinkNest RX0 57 yX2_put "SailorCandles") rfl) hq2 hd_X2_put ⟨Nat.le_of_ble_eq_true rfl, Nat.le_of_ble_eq_true rfl⟩, hq3, trivial⟩ (rpS (AV := [.ref (A 6), .int (f_place w s), .int 0]) hw hK hG rp_42) rfl rfl hl.1 rfl (lv_room (Nat.le_of_ble_eq_true rfl)) dX0_enterSighting_10 ⟨Nat.le_of_ble_eq_true rfl, Nat.le_of_ble_eq_true rfl⟩) hw hA rp_41 (fun H locs hw => ?_)
  refine lv_aload_n hx hb dX0_enterSighting_13 rfl (lv_at hl 0 rfl) ?_
  refine lv_iload_n hx hb dX0_enterSighting_14 rfl (lv_at hl 2 rfl) ?_
  refine kr_i (ws' := wC E A o1 (p_ag S (f_put 20 (c_ag S) (f_place w s) 0))) (va_runV (As := [.int s]) (rest := []) ⟨hx, hb, hml, hown, hts⟩ (c_X0_trustSum l E A o1 (p_ag S (f_put 20 (c_ag S) (f_place w s) 0)) s  _) (cwV 1 hts gX0_enterSighting_X0_trustSum rfl rfl rfl ⟨rfl, hd_X0_trustSum⟩ ⟨Nat.le_of_ble_eq_true rfl, Nat.le_of_ble_eq_true rfl⟩) (pwV (ci := 0) (q0 := 0) (C := RX0) hw hK rfl rfl rfl (rpS (AV := [.ref (A 0), .int s]) hw hK hG rp_39)) rfl rfl hl.1 rfl (lv_room (Nat.le_of_ble_eq_true rfl)) dX0_enterSighting_15 ⟨Nat.le_of_ble_eq_true rfl, Nat.le_of_ble_eq_true rfl⟩) hw hA rp_39 (fun H locs hw => ?_)
  refine lv_bipush (v := 6) hx hb dX0_enterSighting_18 (by decide) ?_
  refine lv_icmp_lt (tgt := 32) hx hb dX0_enterSighting_20 (by decide) (fun c_1 => ?_) (fun c_1 => ?_)
  · exact k_vret hx hb hr hlocks hK hw dX0_enterSighting_32 (by first | assumption | (simp only [f_enter, f_ent1, if_pos c_1, if_true, if_false, Bool.false_eq_true, Bool.true_eq_false, reduceIte, reduceCtorEq]; done) | (simp only [f_enter, f_ent1, if_pos c_1, if_true, if_false, Bool.false_eq_true, Bool.true_eq_false, reduceIte, reduceCtorEq]; rfl) | rfl | (simp [f_enter, f_ent1, if_pos c_1, if_true, if_false, Bool.false_eq_true, Bool.true_eq_false, reduceIte, reduceCtorEq]; done) | (simp [bI, f_enter, f_ent1, c_1]; done))
  · refine lv_aload_n hx hb dX0_enterSighting_23 rfl (lv_at hl 0 rfl) ?_
    refine k_get (ci := 0) (v := .ref (A 3)) (C := RX0) (T := TX0) (N := 10) hx hb hown hK hw hts hinX0 0 rfl rfl 3 (by decide) hf18 rfl dX0_enterSighting_24 ?_
    refine lv_iload_n hx hb dX0_enterSighting_27 rfl (lv_at hl 2 rfl) ?_
    refine lv_iconst (v := 1) hx hb dX0_enterSighting_28 (by decide) ?_
    refine kr_v (ws' := wC E A o1 (p_ru (p_ag S (f_put 20 (c_ag S) (f_place w s) 0)) (f_mark 5 (c_ru S) s true))) (va_runSN (As := [.ref (A 3), .int s, .int 1]) (rest := []) ⟨hx, hb, hml, hown, hts⟩ (c_X2_mark l E (A 3) 5 (c_ru S) s true (by decide) _) ⟨va_cnB 3 hts ggX0_enterSighting_X2_mark rfl rfl rfl (hG.nw 17 (w := .methodLinkNest RX0 71 yX2_mark "SailorCandles") rfl) hq2 hd_X2_mark ⟨Nat.le_of_ble_eq_true rfl, Nat.le_of_ble_eq_true rfl⟩, hq5, trivial⟩ (rpS (AV := [.ref (A 3), .int s, .int 1]) hw hK hG rp_44) rfl rfl hl.1 rfl (lv_room (Nat.le_of_ble_eq_true rfl)) dX0_enterSighting_29 ⟨Nat.le_of_ble_eq_true rfl, Nat.le_of_ble_eq_true rfl⟩) hw hA rp_43 (fun H locs hw => ?_)
    exact k_vret hx hb hr hlocks hK hw dX0_enterSighting_32 (by first | assumption | (simp only [f_enter, f_ent1, if_neg c_1, if_true, if_false, Bool.false_eq_true, Bool.true_eq_false, reduceIte, reduceCtorEq]; done) | (simp only [f_enter, f_ent1, if_neg c_1, if_true, if_false, Bool.false_eq_true, Bool.true_eq_false, reduceIte, reduceCtorEq]; rfl) | rfl | (simp [f_enter, f_ent1, if_neg c_1, if_true, if_false, Bool.false_eq_true, Bool.true_eq_false, reduceIte, reduceCtorEq]; done) | (simp [bI, f_enter, f_ent1, c_1]; done))
abbrev rm_X0_sightingCount : Room := { frames := 0, cells := 0, slots := 0, locals := 0 }
set_option maxHeartbeats 4000000 in
set_option maxRecDepth 100000 in
theorem c_X0_sightingCount (l : Launch) (E : Ev) (A : Nat → Nat) (o1 : Nat) (S : CS) : MI l E yX0_sightingCount wsX0_sightingCount rm_X0_sightingCount [.ref (A 0)] (wC E A o1 S) (l_scnt (c_ag S) 20) (wC E A o1 S) := by
  refine k_bI (cc := cX0_sightingCount) (maxL := 3) (ret := (some .int)) (by decide) rfl (Nat.le_of_ble_eq_true rfl) ?_
  intro p9 e s9 m args below meth c A9 ls hC hl hw
  obtain ⟨hx, hb, hml, hr, hown, hts, hlocks, hK, hG, hA⟩ := hC
  have hf28 := hts (.fieldLink RX0 28 "SailorCandles$Chapel" "sightingAge" "[I") (List.mem_of_getElem? (i := 1) rfl)
  have hinX0 : ∀ w ∈ wsX00, w ∈ wsX0_sightingCount := fun w h => List.mem_cons_of_mem _ (List.mem_append_right _ h)
  have hl : lv_has ls 3 [(0, .ref (A 0))] := hl
  refine lv_iconst (v := 0) hx hb dX0_sightingCount_0 (by decide) ?_
  refine lv_istore_n (lv' := [(1, .int 0), (0, .ref (A 0))]) hx hb dX0_sightingCount_1 rfl hl (by decide) rfl (fun ls hl => ?_)
  refine lv_iconst (v := 0) hx hb dX0_sightingCount_2 (by decide) ?_
  refine lv_istore_n (lv' := [(2, .int 0), (1, .int 0), (0, .ref (A 0))]) hx hb dX0_sightingCount_3 rfl hl (by decide) rfl (fun ls hl => ?_)
  have L_4 : ∀ (k9 i : Nat) (H : Heap) (locs : List Loc) (ls : Array Slot), i + k9 = 20 → Wd E A9 s9.heap (wC E A o1 S) H locs → lv_has ls 3 [(0, .ref (A 0)), (1, .int (l_scnt (c_ag S) i)), (2, .int (nI i))] → W p9 l e rm_X0_sightingCount s9 m args below meth c H locs 0 0 (EndI E A9 (l_scnt (c_ag S) 20) (wC E A o1 S) below args s9 (rm_X0_sightingCount).cells (rm_X0_sightingCount).slots) (F0 m 4 ls []) := by
    intro k9
    induction k9 with
    | zero =>
      intro i H locs ls hi hw hl
      have hz_1 : 20 = i := by omega
      refine lv_iload_n hx hb dX0_sightingCount_4 rfl (lv_at hl 2 rfl) ?_
      refine lv_aload_n hx hb dX0_sightingCount_5 rfl (lv_at hl 0 rfl) ?_
      refine k_get (ci := 0) (v := .ref (A 6)) (C := RX0) (T := TX0) (N := 10) hx hb hown hK hw hts hinX0 0 rfl rfl 6 (by decide) hf28 rfl dX0_sightingCount_6 ?_
      refine k_lenI hx hb hK hw 6 rfl dX0_sightingCount_9 ?_
      refine lv_icmp_ge (tgt := 32) hx hb dX0_sightingCount_10 (by decide) (fun _ => ?_) (fun q8 => absurd (by rw [← hz_1]; exact Int32.le_refl _) q8)
      refine lv_iload_n hx hb dX0_sightingCount_32 rfl (lv_at hl 1 rfl) ?_
      exact k_iret hx hb hr hlocks hK hw rfl dX0_sightingCount_33 (by subst hz_1; first | rfl | assumption | (simp only [l_scnt, if_true, if_false, Bool.false_eq_true, Bool.true_eq_false, reduceIte, reduceCtorEq]; done) | (simp only [l_scnt, if_true, if_false, Bool.false_eq_true, Bool.true_eq_false, reduceIte, reduceCtorEq]; rfl) | (simp [l_scnt, if_true, if_false, Bool.false_eq_true, Bool.true_eq_false, reduceIte, reduceCtorEq]; done) | (simp [bI, l_scnt]; done)) rfl
    | succ k9 ih_4 =>
      intro i H locs ls hi hw hl
      have hi9 : i < 20 := by omega
      refine lv_iload_n hx hb dX0_sightingCount_4 rfl (lv_at hl 2 rfl) ?_
      refine lv_aload_n hx hb dX0_sightingCount_5 rfl (lv_at hl 0 rfl) ?_
      refine k_get (ci := 0) (v := .ref (A 6)) (C := RX0) (T := TX0) (N := 10) hx hb hown hK hw hts hinX0 0 rfl rfl 6 (by decide) hf28 rfl dX0_sightingCount_6 ?_
      refine k_lenI hx hb hK hw 6 rfl dX0_sightingCount_9 ?_
      refine lv_icmp_ge (tgt := 32) hx hb dX0_sightingCount_10 (by decide) (fun q8 => absurd q8 (nI_ge (a := i) (b := 20) (by omega) (by omega))) (fun _ => ?_)
      refine lv_aload_n hx hb dX0_sightingCount_13 rfl (lv_at hl 0 rfl) ?_
      refine k_get (ci := 0) (v := .ref (A 6)) (C := RX0) (T := TX0) (N := 10) hx hb hown hK hw hts hinX0 0 rfl rfl 6 (by decide) hf28 rfl dX0_sightingCount_14 ?_
      refine lv_iload_n hx hb dX0_sightingCount_17 rfl (lv_at hl 2 rfl) ?_
      refine k_ildN (i := i) (f := c_ag S) hx hb hK hw 6 rfl (by omega) (by omega) dX0_sightingCount_18 ?_
      refine lv_iconst (v := (-1)) hx hb dX0_sightingCount_19 (by decide) ?_
      refine lv_icmp_eq (tgt := 26) hx hb dX0_sightingCount_20 (by decide) (fun c_2 => ?_) (fun c_2 => ?_)
      · refine lv_iinc (v := nI (i + 1)) (lv' := [(2, .int (nI (i + 1))), (0, .ref (A 0)), (1, .int (l_scnt (c_ag S) i))]) hx hb dX0_sightingCount_26 hl (k := 2) rfl (nI_add i 1) (by decide) rfl (fun ls hl => ?_)
        refine lv_goto (tgt := 4) hx hb dX0_sightingCount_29 (by decide) ?_
        exact ih_4 (i + 1) _ _ _ (by omega) hw (by rw [show (.int (l_scnt (c_ag S) (i + 1)) : Value) = .int (l_scnt (c_ag S) i) from (by first | assumption | (simp only [l_scnt, if_pos c_2, if_true, if_false, Bool.false_eq_true, Bool.true_eq_false, reduceIte, reduceCtorEq]; done) | (simp only [l_scnt, if_pos c_2, if_true, if_false, Bool.false_eq_true, Bool.true_eq_false, reduceIte, reduceCtorEq]; rfl) | rfl | (simp [l_scnt, if_pos c_2, if_true, if_false, Bool.false_eq_true, Bool.true_eq_false, reduceIte, reduceCtorEq]; done) | (simp [bI, l_scnt, c_2]; done))]; exact lv_sub hl [1, 2, 0] rfl)
      · refine lv_iinc (v := (l_scnt (c_ag S) i) + 1) (lv' := [(1, .int ((l_scnt (c_ag S) i) + 1)), (0, .ref (A 0)), (2, .int (nI i))]) hx hb dX0_sightingCount_23 hl (k := 1) rfl rfl (by decide) rfl (fun ls hl => ?_)
        refine lv_iinc (v := nI (i + 1)) (lv' := [(2, .int (nI (i + 1))), (1, .int ((l_scnt (c_ag S) i) + 1)), (0, .ref (A 0))]) hx hb dX0_sightingCount_26 hl (k := 2) rfl (nI_add i 1) (by decide) rfl (fun ls hl => ?_)
        refine lv_goto (tgt := 4) hx hb dX0_sightingCount_29 (by decide) ?_
        exact ih_4 (i + 1) _ _ _ (by omega) hw (by rw [show (.int (l_scnt (c_ag S) (i + 1)) : Value) = .int ((l_scnt (c_ag S) i) + 1) from (by first | assumption | (simp only [l_scnt, if_neg c_2, if_true, if_false, Bool.false_eq_true, Bool.true_eq_false, reduceIte, reduceCtorEq]; done) | (simp only [l_scnt, if_neg c_2, if_true, if_false, Bool.false_eq_true, Bool.true_eq_false, reduceIte, reduceCtorEq]; rfl) | rfl | (simp [l_scnt, if_neg c_2, if_true, if_false, Bool.false_eq_true, Bool.true_eq_false, reduceIte, reduceCtorEq]; done) | (simp [bI, l_scnt, c_2]; done))]; exact lv_sub hl [2, 1, 0] rfl)
  exact L_4 (20 - 0) 0 _ _ _ (by omega) hw (lv_sub hl [2, 1, 0] rfl)
abbrev rm_X0_believeWatchersOf : Room := { frames := 2, cells := 0, slots := 0, locals := 44 }
set_option maxHeartbeats 4000000 in
set_option maxRecDepth 100000 in
theorem c_X0_believeWatchersOf (l : Launch) (E : Ev) (A : Nat → Nat) (o1 : Nat) (S : CS) (s : Int32) : MV l E yX0_believeWatchersOf wsX0_believeWatchersOf rm_X0_believeWatchersOf [.ref (A 0), .int s] (wC E A o1 S) (wC E A o1 (l_bel s S 4)) := by
  refine k_bV (cc := cX0_believeWatchersOf) (maxL := 3) (ret := none) (by decide) rfl (Nat.le_of_ble_eq_true rfl) ?_
  intro p9 e s9 m args below meth c A9 ls hC hl hw
  obtain ⟨hx, hb, hml, hr, hown, hts, hlocks, hK, hG, hA⟩ := hC
  have hf25 := hts (.fieldLink RX0 25 "SailorCandles$Chapel" "trust" "[I") (List.mem_of_getElem? (i := 1) rfl)
  have hinX0 : ∀ w ∈ wsX00, w ∈ wsX0_believeWatchersOf := fun w h => List.mem_cons_of_mem _ (List.mem_append_right _ h)
  have hq2 := hts (.initialized RX2) (List.mem_of_getElem? (i := 16) rfl)
  have hq3 := hts (.static yX2_at) (List.mem_of_getElem? (i := 15) rfl)
  have hq4 := hts (.methodLink RX0 89 Lib.Math.min.name) (List.mem_of_getElem? (i := 2) rfl)
  have hq5 := hts (.static Lib.Math.min.name) (List.mem_of_getElem? (i := 3) rfl)
  have hq6 := hts (.initialized "java/lang/Math") (List.mem_of_getElem? (i := 4) rfl)
  have hq7 := hts (.code Lib.Math.min.name Lib.Math.min.code 2 (some .int)) (List.mem_of_getElem? (i := 5) rfl)
  have hq8 := hts (.static yX2_put) (List.mem_of_getElem? (i := 18) rfl)
  have hl : lv_has ls 3 [(0, .ref (A 0)), (1, .int s)] := hl
  refine lv_iconst (v := 0) hx hb dX0_believeWatchersOf_0 (by decide) ?_
  refine lv_istore_n (lv' := [(2, .int 0), (0, .ref (A 0)), (1, .int s)]) hx hb dX0_believeWatchersOf_1 rfl hl (by decide) rfl (fun ls hl => ?_)
  have L_2 : ∀ (k9 i : Nat) (H : Heap) (locs : List Loc) (ls : Array Slot), i + k9 = 4 → Wd E A9 s9.heap (wC E A o1 (l_bel s S i)) H locs → lv_has ls 3 [(0, .ref (A 0)), (1, .int s), (2, .int (nI i))] → W p9 l e rm_X0_believeWatchersOf s9 m args below meth c H locs 0 0 (EndV E A9 (wC E A o1 (l_bel s S 4)) below args s9 (rm_X0_believeWatchersOf).cells (rm_X0_believeWatchersOf).slots) (F0 m 2 ls []) := by
    intro k9
    induction k9 with
    | zero =>
      intro i H locs ls hi hw hl
      have hz_1 : 4 = i := by omega
      refine lv_iload_n hx hb dX0_believeWatchersOf_2 rfl (lv_at hl 2 rfl) ?_
      refine lv_iconst (v := 4) hx hb dX0_believeWatchersOf_3 (by decide) ?_
      refine lv_icmp_ge (tgt := 45) hx hb dX0_believeWatchersOf_4 (by decide) (fun _ => ?_) (fun q8 => absurd (by rw [← hz_1]; exact Int32.le_refl _) q8)
      exact k_vret hx hb hr hlocks hK hw dX0_believeWatchersOf_45 (by subst hz_1; first | rfl | assumption | (simp only [l_bel, if_true, if_false, Bool.false_eq_true, Bool.true_eq_false, reduceIte, reduceCtorEq]; done) | (simp only [l_bel, if_true, if_false, Bool.false_eq_true, Bool.true_eq_false, reduceIte, reduceCtorEq]; rfl) | (simp [l_bel, if_true, if_false, Bool.false_eq_true, Bool.true_eq_false, reduceIte, reduceCtorEq]; done) | (simp [bI, l_bel]; done))
    | succ k9 ih_2 =>
      intro i H locs ls hi hw hl
      have hi9 : i < 4 := by omega
      refine lv_iload_n hx hb dX0_believeWatchersOf_2 rfl (lv_at hl 2 rfl) ?_
      refine lv_iconst (v := 4) hx hb dX0_believeWatchersOf_3 (by decide) ?_
      refine lv_icmp_ge (tgt := 45) hx hb dX0_believeWatchersOf_4 (by decide) (fun q8 => absurd q8 (nI_ge (a := i) (b := 4) (by omega) (by omega))) (fun _ => ?_)
      refine lv_aload_n hx hb dX0_believeWatchersOf_7 rfl (lv_at hl 0 rfl) ?_
      refine lv_iload_n hx hb dX0_believeWatchersOf_8 rfl (lv_at hl 2 rfl) ?_
      refine lv_iload_n hx hb dX0_believeWatchersOf_9 rfl (lv_at hl 1 rfl) ?_
      refine kr_i (ws' := wC E A o1 (l_bel s S i)) (va_runV (As := [.int (nI i), .int s]) (rest := []) ⟨hx, hb, hml, hown, hts⟩ (c_X0_hasSighting l E A o1 (l_bel s S i) (nI i) s  _) (cwV 2 hts gX0_believeWatchersOf_X0_hasSighting rfl rfl rfl ⟨rfl, hd_X0_hasSighting⟩ ⟨Nat.le_of_ble_eq_true rfl, Nat.le_of_ble_eq_true rfl⟩) (pwV (ci := 0) (q0 := 0) (C := RX0) hw hK rfl rfl rfl (rpS (AV := [.ref (A 0), .int (nI i), .int s]) hw hK hG rp_39)) rfl rfl hl.1 rfl (lv_room (Nat.le_of_ble_eq_true rfl)) dX0_believeWatchersOf_10 ⟨Nat.le_of_ble_eq_true rfl, Nat.le_of_ble_eq_true rfl⟩) hw hA rp_39 (fun H locs hw => ?_)
      refine lv_if_eq (tgt := 39) hx hb dX0_believeWatchersOf_13 (by decide) (fun c_2 => ?_) (fun c_2 => ?_)
      · have c_2 := bI_z c_2
        refine lv_iinc (v := nI (i + 1)) (lv' := [(2, .int (nI (i + 1))), (0, .ref (A 0)), (1, .int s)]) hx hb dX0_believeWatchersOf_39 hl (k := 2) rfl (nI_add i 1) (by decide) rfl (fun ls hl => ?_)
        refine lv_goto (tgt := 2) hx hb dX0_believeWatchersOf_42 (by decide) ?_
        exact ih_2 (i + 1) _ _ _ (by omega) (hw.to (by first | assumption | (simp only [l_bel, c_2, if_true, if_false, Bool.false_eq_true, Bool.true_eq_false, reduceIte, reduceCtorEq]; done) | (simp only [l_bel, c_2, if_true, if_false, Bool.false_eq_true, Bool.true_eq_false, reduceIte, reduceCtorEq]; rfl) | rfl | (simp [l_bel, c_2, if_true, if_false, Bool.false_eq_true, Bool.true_eq_false, reduceIte, reduceCtorEq]; done) | (simp [bI, l_bel, c_2]; done))) (lv_sub hl [1, 2, 0] rfl)
      · have c_2 := bI_nz c_2
        refine lv_aload_n hx hb dX0_believeWatchersOf_16 rfl (lv_at hl 0 rfl) ?_
        refine k_get (ci := 0) (v := .ref (A 5)) (C := RX0) (T := TX0) (N := 10) hx hb hown hK hw hts hinX0 0 rfl rfl 5 (by decide) hf25 rfl dX0_believeWatchersOf_17 ?_
        refine lv_iload_n hx hb dX0_believeWatchersOf_20 rfl (lv_at hl 2 rfl) ?_
        refine lv_bipush (v := 9) hx hb dX0_believeWatchersOf_21 (by decide) ?_
        refine lv_aload_n hx hb dX0_believeWatchersOf_23 rfl (lv_at hl 0 rfl) ?_
        refine k_get (ci := 0) (v := .ref (A 5)) (C := RX0) (T := TX0) (N := 10) hx hb hown hK hw hts hinX0 0 rfl rfl 5 (by decide) hf25 rfl dX0_believeWatchersOf_24 ?_
        refine lv_iload_n hx hb dX0_believeWatchersOf_27 rfl (lv_at hl 2 rfl) ?_
        refine kr_i (ws' := wC E A o1 (l_bel s S i)) (va_runSN (As := [.ref (A 5), .int (nI i)]) (rest := [.int 9, .int (nI i), .ref (A 5)]) ⟨hx, hb, hml, hown, hts⟩ (c_X2_at l E (A 5) 4 (c_tr (l_bel s S i)) (nI i) (by decide) _) ⟨va_cnB 2 hts ggX0_believeWatchersOf_X2_at rfl rfl rfl (hG.nw 15 (w := .methodLinkNest RX0 53 yX2_at "SailorCandles") rfl) hq2 hd_X2_at ⟨Nat.le_of_ble_eq_true rfl, Nat.le_of_ble_eq_true rfl⟩, hq3, trivial⟩ (rpS (AV := [.ref (A 5), .int (nI i)]) hw hK hG rp_40) rfl rfl hl.1 rfl (lv_room (Nat.le_of_ble_eq_true rfl)) dX0_believeWatchersOf_28 ⟨Nat.le_of_ble_eq_true rfl, Nat.le_of_ble_eq_true rfl⟩) hw hA rp_40 (fun H locs hw => ?_)
        refine lv_iconst (v := 1) hx hb dX0_believeWatchersOf_31 (by decide) ?_
        refine lv_iadd hx hb dX0_believeWatchersOf_32 ?_
        refine va_mmin hx hb (by rw [hml]; exact hl.1.symm) hown hq4 hq5 hq6 hq7 (Nat.le_of_ble_eq_true rfl) (Nat.le_of_ble_eq_true rfl) (Nat.le_of_ble_eq_true rfl) (Nat.le_of_ble_eq_true rfl) dX0_believeWatchersOf_33 ?_
        refine kr_v (ws' := wC E A o1 (p_tr (l_bel s S i) (f_put 4 (c_tr (l_bel s S i)) (nI i) (if ((f_at 4 (c_tr (l_bel s S i)) (nI i)) + 1) < 9 then (f_at 4 (c_tr (l_bel s S i)) (nI i)) + 1 else 9)))) (va_runSN (As := [.ref (A 5), .int (nI i), .int (if ((f_at 4 (c_tr (l_bel s S i)) (nI i)) + 1) < 9 then (f_at 4 (c_tr (l_bel s S i)) (nI i)) + 1 else 9)]) (rest := []) ⟨hx, hb, hml, hown, hts⟩ (c_X2_put l E (A 5) 4 (c_tr (l_bel s S i)) (nI i) (if ((f_at 4 (c_tr (l_bel s S i)) (nI i)) + 1) < 9 then (f_at 4 (c_tr (l_bel s S i)) (nI i)) + 1 else 9) (by decide) _) ⟨va_cnB 3 hts ggX0_believeWatchersOf_X2_put rfl rfl rfl (hG.nw 16 (w := .methodLinkNest RX0 57 yX2_put "SailorCandles") rfl) hq2 hd_X2_put ⟨Nat.le_of_ble_eq_true rfl, Nat.le_of_ble_eq_true rfl⟩, hq8, trivial⟩ (rpS (AV := [.ref (A 5), .int (nI i), .int (if ((f_at 4 (c_tr (l_bel s S i)) (nI i)) + 1) < 9 then (f_at 4 (c_tr (l_bel s S i)) (nI i)) + 1 else 9)]) hw hK hG rp_40) rfl rfl hl.1 rfl (lv_room (Nat.le_of_ble_eq_true rfl)) dX0_believeWatchersOf_36 ⟨Nat.le_of_ble_eq_true rfl, Nat.le_of_ble_eq_true rfl⟩) hw hA rp_45 (fun H locs hw => ?_)
        refine lv_iinc (v := nI (i + 1)) (lv' := [(2, .int (nI (i + 1))), (0, .ref (A 0)), (1, .int s)]) hx hb dX0_believeWatchersOf_39 hl (k := 2) rfl (nI_add i 1) (by decide) rfl (fun ls hl => ?_)
        refine lv_goto (tgt := 2) hx hb dX0_believeWatchersOf_42 (by decide) ?_
        exact ih_2 (i + 1) _ _ _ (by omega) (hw.to (by first | assumption | (simp only [l_bel, c_2, if_true, if_false, Bool.false_eq_true, Bool.true_eq_false, reduceIte, reduceCtorEq]; done) | (simp only [l_bel, c_2, if_true, if_false, Bool.false_eq_true, Bool.true_eq_false, reduceIte, reduceCtorEq]; rfl) | rfl | (simp [l_bel, c_2, if_true, if_false, Bool.false_eq_true, Bool.true_eq_false, reduceIte, reduceCtorEq]; done) | (simp [bI, l_bel, c_2]; done))) (lv_sub hl [1, 2, 0] rfl)
  exact L_2 (4 - 0) 0 _ _ _ (by omega) hw (lv_sub hl [1, 2, 0] rfl)
