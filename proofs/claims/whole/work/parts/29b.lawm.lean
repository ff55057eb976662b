abbrev rm_L_isAway : Room := { frames := 8, cells := 1, slots := 6, locals := 132 }
set_option maxHeartbeats 4000000 in
set_option maxRecDepth 100000 in
theorem c_L_isAway (l : Launch) (hflags : l.stackTraces = false) (E : Ev) (x : Nat) (A T B : Nat → Nat) (S U : CS) (G : HS) (s : Int32) (o : Nat) (f : Nat → Int64) (hT : t_ship G s = 0) : XI l E yL_isAway wsL_isAway rm_L_isAway [.ref x, .int s, .ref o] (wX x A T B ++ wC E A (B 0) S ++ wC E T (B 0) U ++ wG E B G ++ [(o, aJ E 1 f)]) 0 0 (wX x A T B ++ wC E A (B 0) S ++ wC E T (B 0) U ++ wG E B G ++ [(o, aJ E 1 (vp_updL f 0 (if decide (¬ f_stay S s = 0) = true then 1 else 0)))]) := by
  refine k_bXIH (cc := cL_isAway) (maxL := 4) (ret := (some .int)) (by decide) rfl (Nat.le_of_ble_eq_true rfl) ?_
  intro p9 e s9 m args below meth c A9 ls hC ht9 hZ hl hw
  obtain ⟨hx, hb, hml, hr, hown, hts, hlocks, hK, hG, hA⟩ := hC
  have hl : lv_has ls 4 [(0, .ref x), (1, .int s), (2, .ref o)] := hl
  refine lv_aload_n hx hb dL_isAway_0 rfl (lv_at hl 2 rfl) ?_
  refine lv_iconst (v := 0) hx hb dL_isAway_1 (by decide) ?_
  refine lv_aload_n hx hb dL_isAway_2 rfl (lv_at hl 0 rfl) ?_
  refine lv_iload_n hx hb dL_isAway_3 rfl (lv_at hl 1 rfl) ?_
  refine krx_i (ws' := wX x A T B ++ wC E A (B 0) S ++ wC E T (B 0) U ++ wG E B G ++ [(o, aJ E 1 f)]) (vx_runV (As := [.int s]) (rest := [.int 0, .ref o]) ⟨hx, hb, hml, hown, hts⟩ (c_X2_isAway l hflags E x A T B S U G s  _) (cwV 1 hts gL_isAway_X2_isAway rfl rfl rfl ⟨rfl, hd_X2_isAway⟩ ⟨Nat.le_of_ble_eq_true rfl, Nat.le_of_ble_eq_true rfl⟩) (pwV (ci := 2) (q0 := 0) (C := RX2) hw hK rfl rfl rfl (rpX (AV := [.ref x, .int s]) hw hK hG hZ hA rp_82)) rfl rfl hl.1 rfl (lv_room (Nat.le_of_ble_eq_true rfl)) dL_isAway_4 ⟨Nat.le_of_ble_eq_true rfl, Nat.le_of_ble_eq_true rfl⟩) hw hA rp_82 rp_82 (fun H locs ce9 q9 t_1 hw hy1 hy2 hy3 => absurd hT t_1) (fun H locs t_1 hw => ?_)
  refine lv_if_eq (tgt := 14) hx hb dL_isAway_7 (by decide) (fun c_2 => ?_) (fun c_2 => ?_)
  · have c_2 := bI_z c_2
    refine lv_lconst (v := 0) hx hb dL_isAway_14 (by decide) ?_
    refine k_lst (ws' := wX x A T B ++ wC E A (B 0) S ++ wC E T (B 0) U ++ wG E B G ++ [(o, aJ E 1 (vp_updL f 0 0))]) hx hb hK hw 21 rfl (vp_in_nI (n := 0) (N := 1) (by decide) (by decide)) dL_isAway_15 rfl (fun H locs hw => ?_)
    refine lv_goto (tgt := 22) hx hb dL_isAway_16 (by decide) ?_
    refine lv_iconst (v := 0) hx hb dL_isAway_22 (by decide) ?_
    refine W.widen (k := (rm_L_isAway).cells) (n := (rm_L_isAway).slots) (Nat.le_of_ble_eq_true rfl) (Nat.le_of_ble_eq_true rfl) ?_
    exact k_xiret hx hb hr hlocks hK hw rfl dL_isAway_23 (by first | assumption | (simp only [c_2, if_true, if_false, Bool.false_eq_true, Bool.true_eq_false, reduceIte, reduceCtorEq]; done) | (simp only [c_2, if_true, if_false, Bool.false_eq_true, Bool.true_eq_false, reduceIte, reduceCtorEq]; rfl) | rfl | (simp [c_2, if_true, if_false, Bool.false_eq_true, Bool.true_eq_false, reduceIte, reduceCtorEq]; done) | (simp [bI, c_2]; done)) rfl (by first | assumption | (simp only [c_2, if_true, if_false, Bool.false_eq_true, Bool.true_eq_false, reduceIte, reduceCtorEq]; done) | (simp only [c_2, if_true, if_false, Bool.false_eq_true, Bool.true_eq_false, reduceIte, reduceCtorEq]; rfl) | rfl | (simp [c_2, if_true, if_false, Bool.false_eq_true, Bool.true_eq_false, reduceIte, reduceCtorEq]; done) | (simp [bI, c_2]; done))
  · have c_2 := bI_nz c_2
    refine lv_lconst (v := 1) hx hb dL_isAway_10 (by decide) ?_
    refine lv_goto (tgt := 15) hx hb dL_isAway_11 (by decide) ?_
    refine k_lst (ws' := wX x A T B ++ wC E A (B 0) S ++ wC E T (B 0) U ++ wG E B G ++ [(o, aJ E 1 (vp_updL f 0 1))]) hx hb hK hw 21 rfl (vp_in_nI (n := 0) (N := 1) (by decide) (by decide)) dL_isAway_15 rfl (fun H locs hw => ?_)
    refine lv_goto (tgt := 22) hx hb dL_isAway_16 (by decide) ?_
    refine lv_iconst (v := 0) hx hb dL_isAway_22 (by decide) ?_
    refine W.widen (k := (rm_L_isAway).cells) (n := (rm_L_isAway).slots) (Nat.le_of_ble_eq_true rfl) (Nat.le_of_ble_eq_true rfl) ?_
    exact k_xiret hx hb hr hlocks hK hw rfl dL_isAway_23 (by first | assumption | (simp only [c_2, if_true, if_false, Bool.false_eq_true, Bool.true_eq_false, reduceIte, reduceCtorEq]; done) | (simp only [c_2, if_true, if_false, Bool.false_eq_true, Bool.true_eq_false, reduceIte, reduceCtorEq]; rfl) | rfl | (simp [c_2, if_true, if_false, Bool.false_eq_true, Bool.true_eq_false, reduceIte, reduceCtorEq]; done) | (simp [bI, c_2]; done)) rfl (by first | assumption | (simp only [c_2, if_true, if_false, Bool.false_eq_true, Bool.true_eq_false, reduceIte, reduceCtorEq]; done) | (simp only [c_2, if_true, if_false, Bool.false_eq_true, Bool.true_eq_false, reduceIte, reduceCtorEq]; rfl) | rfl | (simp [c_2, if_true, if_false, Bool.false_eq_true, Bool.true_eq_false, reduceIte, reduceCtorEq]; done) | (simp [bI, c_2]; done))
set_option maxHeartbeats 4000000 in
set_option maxRecDepth 100000 in
theorem c_L_isAway_1 (l : Launch) (hflags : l.stackTraces = false) (E : Ev) (x : Nat) (A T B : Nat → Nat) (S U : CS) (G : HS) (s : Int32) (o : Nat) (f : Nat → Int64) (hT : t_ship G s = 1) : XI l E yL_isAway wsL_isAway rm_L_isAway [.ref x, .int s, .ref o] (wX x A T B ++ wC E A (B 0) S ++ wC E T (B 0) U ++ wG E B G ++ [(o, aJ E 1 f)]) 0 1 (wX x A T B ++ wC E A (B 0) S ++ wC E T (B 0) U ++ wG E B G ++ [(o, aJ E 1 f)]) := by
  refine k_bXIH (cc := cL_isAway) (maxL := 4) (ret := (some .int)) (by decide) rfl (Nat.le_of_ble_eq_true rfl) ?_
  intro p9 e s9 m args below meth c A9 ls hC ht9 hZ hl hw
  obtain ⟨hx, hb, hml, hr, hown, hts, hlocks, hK, hG, hA⟩ := hC
  have hq0 := hts (.classLink RL 21 "java/lang/IndexOutOfBoundsException") (List.mem_of_getElem? (i := 1) rfl)
  have hl : lv_has ls 4 [(0, .ref x), (1, .int s), (2, .ref o)] := hl
  refine lv_aload_n hx hb dL_isAway_0 rfl (lv_at hl 2 rfl) ?_
  refine lv_iconst (v := 0) hx hb dL_isAway_1 (by decide) ?_
  refine lv_aload_n hx hb dL_isAway_2 rfl (lv_at hl 0 rfl) ?_
  refine lv_iload_n hx hb dL_isAway_3 rfl (lv_at hl 1 rfl) ?_
  refine krx_i (ws' := wX x A T B ++ wC E A (B 0) S ++ wC E T (B 0) U ++ wG E B G ++ [(o, aJ E 1 f)]) (vx_runV (As := [.int s]) (rest := [.int 0, .ref o]) ⟨hx, hb, hml, hown, hts⟩ (c_X2_isAway l hflags E x A T B S U G s  _) (cwV 1 hts gL_isAway_X2_isAway rfl rfl rfl ⟨rfl, hd_X2_isAway⟩ ⟨Nat.le_of_ble_eq_true rfl, Nat.le_of_ble_eq_true rfl⟩) (pwV (ci := 2) (q0 := 0) (C := RX2) hw hK rfl rfl rfl (rpX (AV := [.ref x, .int s]) hw hK hG hZ hA rp_82)) rfl rfl hl.1 rfl (lv_room (Nat.le_of_ble_eq_true rfl)) dL_isAway_4 ⟨Nat.le_of_ble_eq_true rfl, Nat.le_of_ble_eq_true rfl⟩) hw hA rp_82 rp_82 (fun H locs ce9 q9 t_1 hw hy1 hy2 hy3 => ?_) (fun H locs t_1 hw => absurd (t_1.symm.trans hT) (by decide))
  have hy3 : s9.vm.findClass "java/lang/IndexOutOfBoundsException" = some ce9.cls := by rw [hT] at hy3; exact hy3
  refine vx_catch hown [] ⟨0, 16, 19, 21⟩ [] (ht9.trans rfl) (fun z hz => absurd hz List.not_mem_nil) (by decide) (by decide) hq0 (va_Nw.use rfl (hG.nw 23 (w := .castable "java/lang/IndexOutOfBoundsException" "java/lang/IndexOutOfBoundsException") rfl)) hy1 hy2 hy3 ?_
  refine lv_astore_n (lv' := [(3, .ref q9), (0, .ref x), (1, .int s), (2, .ref o)]) hx hb dL_isAway_19 rfl hl (by decide) rfl (fun ls hl => ?_)
  refine lv_iconst (v := 1) hx hb dL_isAway_20 (by decide) ?_
  refine W.widen (k := (rm_L_isAway).cells) (n := (rm_L_isAway).slots) (Nat.le_of_ble_eq_true rfl) (Nat.le_of_ble_eq_true rfl) ?_
  exact k_xiret hx hb hr hlocks hK hw rfl dL_isAway_21 (by first | rfl | assumption | (simp only [if_true, if_false, Bool.false_eq_true, Bool.true_eq_false, reduceIte, reduceCtorEq]; done) | (simp only [if_true, if_false, Bool.false_eq_true, Bool.true_eq_false, reduceIte, reduceCtorEq]; rfl) | (simp [if_true, if_false, Bool.false_eq_true, Bool.true_eq_false, reduceIte, reduceCtorEq]; done) | (simp [bI, ]; done)) rfl rfl
abbrev rm_L_isLost : Room := { frames := 8, cells := 1, slots := 6, locals := 132 }
set_option maxHeartbeats 4000000 in
set_option maxRecDepth 100000 in
theorem c_L_isLost (l : Launch) (hflags : l.stackTraces = false) (E : Ev) (x : Nat) (A T B : Nat → Nat) (S U : CS) (G : HS) (s : Int32) (o : Nat) (f : Nat → Int64) (hT : t_ship G s = 0) : XI l E yL_isLost wsL_isLost rm_L_isLost [.ref x, .int s, .ref o] (wX x A T B ++ wC E A (B 0) S ++ wC E T (B 0) U ++ wG E B G ++ [(o, aJ E 1 f)]) 0 0 (wX x A T B ++ wC E A (B 0) S ++ wC E T (B 0) U ++ wG E B G ++ [(o, aJ E 1 (vp_updL f 0 (if decide (f_stay S s = 2) = true then 1 else 0)))]) := by
  refine k_bXIH (cc := cL_isLost) (maxL := 4) (ret := (some .int)) (by decide) rfl (Nat.le_of_ble_eq_true rfl) ?_
  intro p9 e s9 m args below meth c A9 ls hC ht9 hZ hl hw
  obtain ⟨hx, hb, hml, hr, hown, hts, hlocks, hK, hG, hA⟩ := hC
  have hl : lv_has ls 4 [(0, .ref x), (1, .int s), (2, .ref o)] := hl
  refine lv_aload_n hx hb dL_isLost_0 rfl (lv_at hl 2 rfl) ?_
  refine lv_iconst (v := 0) hx hb dL_isLost_1 (by decide) ?_
  refine lv_aload_n hx hb dL_isLost_2 rfl (lv_at hl 0 rfl) ?_
  refine lv_iload_n hx hb dL_isLost_3 rfl (lv_at hl 1 rfl) ?_
  refine krx_i (ws' := wX x A T B ++ wC E A (B 0) S ++ wC E T (B 0) U ++ wG E B G ++ [(o, aJ E 1 f)]) (vx_runV (As := [.int s]) (rest := [.int 0, .ref o]) ⟨hx, hb, hml, hown, hts⟩ (c_X2_isLost l hflags E x A T B S U G s  _) (cwV 1 hts gL_isLost_X2_isLost rfl rfl rfl ⟨rfl, hd_X2_isLost⟩ ⟨Nat.le_of_ble_eq_true rfl, Nat.le_of_ble_eq_true rfl⟩) (pwV (ci := 2) (q0 := 0) (C := RX2) hw hK rfl rfl rfl (rpX (AV := [.ref x, .int s]) hw hK hG hZ hA rp_82)) rfl rfl hl.1 rfl (lv_room (Nat.le_of_ble_eq_true rfl)) dL_isLost_4 ⟨Nat.le_of_ble_eq_true rfl, Nat.le_of_ble_eq_true rfl⟩) hw hA rp_82 rp_82 (fun H locs ce9 q9 t_1 hw hy1 hy2 hy3 => absurd hT t_1) (fun H locs t_1 hw => ?_)
  refine lv_if_eq (tgt := 14) hx hb dL_isLost_7 (by decide) (fun c_2 => ?_) (fun c_2 => ?_)
  · have c_2 := bI_z c_2
    refine lv_lconst (v := 0) hx hb dL_isLost_14 (by decide) ?_
    refine k_lst (ws' := wX x A T B ++ wC E A (B 0) S ++ wC E T (B 0) U ++ wG E B G ++ [(o, aJ E 1 (vp_updL f 0 0))]) hx hb hK hw 21 rfl (vp_in_nI (n := 0) (N := 1) (by decide) (by decide)) dL_isLost_15 rfl (fun H locs hw => ?_)
    refine lv_goto (tgt := 22) hx hb dL_isLost_16 (by decide) ?_
    refine lv_iconst (v := 0) hx hb dL_isLost_22 (by decide) ?_
    refine W.widen (k := (rm_L_isLost).cells) (n := (rm_L_isLost).slots) (Nat.le_of_ble_eq_true rfl) (Nat.le_of_ble_eq_true rfl) ?_
    exact k_xiret hx hb hr hlocks hK hw rfl dL_isLost_23 (by first | assumption | (simp only [c_2, if_true, if_false, Bool.false_eq_true, Bool.true_eq_false, reduceIte, reduceCtorEq]; done) | (simp only [c_2, if_true, if_false, Bool.false_eq_true, Bool.true_eq_false, reduceIte, reduceCtorEq]; rfl) | rfl | (simp [c_2, if_true, if_false, Bool.false_eq_true, Bool.true_eq_false, reduceIte, reduceCtorEq]; done) | (simp [bI, c_2]; done)) rfl (by first | assumption | (simp only [c_2, if_true, if_false, Bool.false_eq_true, Bool.true_eq_false, reduceIte, reduceCtorEq]; done) | (simp only [c_2, if_true, if_false, Bool.false_eq_true, Bool.true_eq_false, reduceIte, reduceCtorEq]; rfl) | rfl | (simp [c_2, if_true, if_false, Bool.false_eq_true, Bool.true_eq_false, reduceIte, reduceCtorEq]; done) | (simp [bI, c_2]; done))
  · have c_2 := bI_nz c_2
    refine lv_lconst (v := 1) hx hb dL_isLost_10 (by decide) ?_
    refine lv_goto (tgt := 15) hx hb dL_isLost_11 (by decide) ?_
    refine k_lst (ws' := wX x A T B ++ wC E A (B 0) S ++ wC E T (B 0) U ++ wG E B G ++ [(o, aJ E 1 (vp_updL f 0 1))]) hx hb hK hw 21 rfl (vp_in_nI (n := 0) (N := 1) (by decide) (by decide)) dL_isLost_15 rfl (fun H locs hw => ?_)
    refine lv_goto (tgt := 22) hx hb dL_isLost_16 (by decide) ?_
    refine lv_iconst (v := 0) hx hb dL_isLost_22 (by decide) ?_
    refine W.widen (k := (rm_L_isLost).cells) (n := (rm_L_isLost).slots) (Nat.le_of_ble_eq_true rfl) (Nat.le_of_ble_eq_true rfl) ?_
    exact k_xiret hx hb hr hlocks hK hw rfl dL_isLost_23 (by first | assumption | (simp only [c_2, if_true, if_false, Bool.false_eq_true, Bool.true_eq_false, reduceIte, reduceCtorEq]; done) | (simp only [c_2, if_true, if_false, Bool.false_eq_true, Bool.true_eq_false, reduceIte, reduceCtorEq]; rfl) | rfl | (simp [c_2, if_true, if_false, Bool.false_eq_true, Bool.true_eq_false, reduceIte, reduceCtorEq]; done) | (simp [bI, c_2]; done)) rfl (by first | assumption | (simp only [c_2, if_true, if_false, Bool.false_eq_true, Bool.true_eq_false, reduceIte, reduceCtorEq]; done) | (simp only [c_2, if_true, if_false, Bool.false_eq_true, Bool.true_eq_false, reduceIte, reduceCtorEq]; rfl) | rfl | (simp [c_2, if_true, if_false, Bool.false_eq_true, Bool.true_eq_false, reduceIte, reduceCtorEq]; done) | (simp [bI, c_2]; done))
set_option maxHeartbeats 4000000 in
set_option maxRecDepth 100000 in
theorem c_L_isLost_1 (l : Launch) (hflags : l.stackTraces = false) (E : Ev) (x : Nat) (A T B : Nat → Nat) (S U : CS) (G : HS) (s : Int32) (o : Nat) (f : Nat → Int64) (hT : t_ship G s = 1) : XI l E yL_isLost wsL_isLost rm_L_isLost [.ref x, .int s, .ref o] (wX x A T B ++ wC E A (B 0) S ++ wC E T (B 0) U ++ wG E B G ++ [(o, aJ E 1 f)]) 0 1 (wX x A T B ++ wC E A (B 0) S ++ wC E T (B 0) U ++ wG E B G ++ [(o, aJ E 1 f)]) := by
  refine k_bXIH (cc := cL_isLost) (maxL := 4) (ret := (some .int)) (by decide) rfl (Nat.le_of_ble_eq_true rfl) ?_
  intro p9 e s9 m args below meth c A9 ls hC ht9 hZ hl hw
  obtain ⟨hx, hb, hml, hr, hown, hts, hlocks, hK, hG, hA⟩ := hC
  have hq0 := hts (.classLink RL 21 "java/lang/IndexOutOfBoundsException") (List.mem_of_getElem? (i := 1) rfl)
  have hl : lv_has ls 4 [(0, .ref x), (1, .int s), (2, .ref o)] := hl
  refine lv_aload_n hx hb dL_isLost_0 rfl (lv_at hl 2 rfl) ?_
  refine lv_iconst (v := 0) hx hb dL_isLost_1 (by decide) ?_
  refine lv_aload_n hx hb dL_isLost_2 rfl (lv_at hl 0 rfl) ?_
  refine lv_iload_n hx hb dL_isLost_3 rfl (lv_at hl 1 rfl) ?_
  refine krx_i (ws' := wX x A T B ++ wC E A (B 0) S ++ wC E T (B 0) U ++ wG E B G ++ [(o, aJ E 1 f)]) (vx_runV (As := [.int s]) (rest := [.int 0, .ref o]) ⟨hx, hb, hml, hown, hts⟩ (c_X2_isLost l hflags E x A T B S U G s  _) (cwV 1 hts gL_isLost_X2_isLost rfl rfl rfl ⟨rfl, hd_X2_isLost⟩ ⟨Nat.le_of_ble_eq_true rfl, Nat.le_of_ble_eq_true rfl⟩) (pwV (ci := 2) (q0 := 0) (C := RX2) hw hK rfl rfl rfl (rpX (AV := [.ref x, .int s]) hw hK hG hZ hA rp_82)) rfl rfl hl.1 rfl (lv_room (Nat.le_of_ble_eq_true rfl)) dL_isLost_4 ⟨Nat.le_of_ble_eq_true rfl, Nat.le_of_ble_eq_true rfl⟩) hw hA rp_82 rp_82 (fun H locs ce9 q9 t_1 hw hy1 hy2 hy3 => ?_) (fun H locs t_1 hw => absurd (t_1.symm.trans hT) (by decide))
  have hy3 : s9.vm.findClass "java/lang/IndexOutOfBoundsException" = some ce9.cls := by rw [hT] at hy3; exact hy3
  refine vx_catch hown [] ⟨0, 16, 19, 21⟩ [] (ht9.trans rfl) (fun z hz => absurd hz List.not_mem_nil) (by decide) (by decide) hq0 (va_Nw.use rfl (hG.nw 23 (w := .castable "java/lang/IndexOutOfBoundsException" "java/lang/IndexOutOfBoundsException") rfl)) hy1 hy2 hy3 ?_
  refine lv_astore_n (lv' := [(3, .ref q9), (0, .ref x), (1, .int s), (2, .ref o)]) hx hb dL_isLost_19 rfl hl (by decide) rfl (fun ls hl => ?_)
  refine lv_iconst (v := 1) hx hb dL_isLost_20 (by decide) ?_
  refine W.widen (k := (rm_L_isLost).cells) (n := (rm_L_isLost).slots) (Nat.le_of_ble_eq_true rfl) (Nat.le_of_ble_eq_true rfl) ?_
  exact k_xiret hx hb hr hlocks hK hw rfl dL_isLost_21 (by first | rfl | assumption | (simp only [if_true, if_false, Bool.false_eq_true, Bool.true_eq_false, reduceIte, reduceCtorEq]; done) | (simp only [if_true, if_false, Bool.false_eq_true, Bool.true_eq_false, reduceIte, reduceCtorEq]; rfl) | (simp [if_true, if_false, Bool.false_eq_true, Bool.true_eq_false, reduceIte, reduceCtorEq]; done) | (simp [bI, ]; done)) rfl rfl
abbrev rm_L_nightsOut : Room := { frames := 8, cells := 1, slots := 6, locals := 132 }
set_option maxHeartbeats 4000000 in
set_option maxRecDepth 100000 in
theorem c_L_nightsOut (l : Launch) (hflags : l.stackTraces = false) (E : Ev) (x : Nat) (A T B : Nat → Nat) (S U : CS) (G : HS) (s : Int32) (o : Nat) (f : Nat → Int64) (hT : t_ship G s = 0) : XI l E yL_nightsOut wsL_nightsOut rm_L_nightsOut [.ref x, .int s, .ref o] (wX x A T B ++ wC E A (B 0) S ++ wC E T (B 0) U ++ wG E B G ++ [(o, aJ E 1 f)]) 0 0 (wX x A T B ++ wC E A (B 0) S ++ wC E T (B 0) U ++ wG E B G ++ [(o, aJ E 1 (vp_updL f 0 ((f_at 5 (c_ou S) s : Int32).toInt64)))]) := by
  refine k_bXIH (cc := cL_nightsOut) (maxL := 4) (ret := (some .int)) (by decide) rfl (Nat.le_of_ble_eq_true rfl) ?_
  intro p9 e s9 m args below meth c A9 ls hC ht9 hZ hl hw
  obtain ⟨hx, hb, hml, hr, hown, hts, hlocks, hK, hG, hA⟩ := hC
  have hl : lv_has ls 4 [(0, .ref x), (1, .int s), (2, .ref o)] := hl
  refine lv_aload_n hx hb dL_nightsOut_0 rfl (lv_at hl 2 rfl) ?_
  refine lv_iconst (v := 0) hx hb dL_nightsOut_1 (by decide) ?_
  refine lv_aload_n hx hb dL_nightsOut_2 rfl (lv_at hl 0 rfl) ?_
  refine lv_iload_n hx hb dL_nightsOut_3 rfl (lv_at hl 1 rfl) ?_
  refine krx_i (ws' := wX x A T B ++ wC E A (B 0) S ++ wC E T (B 0) U ++ wG E B G ++ [(o, aJ E 1 f)]) (vx_runV (As := [.int s]) (rest := [.int 0, .ref o]) ⟨hx, hb, hml, hown, hts⟩ (c_X2_nightsOut l hflags E x A T B S U G s  _) (cwV 1 hts gL_nightsOut_X2_nightsOut rfl rfl rfl ⟨rfl, hd_X2_nightsOut⟩ ⟨Nat.le_of_ble_eq_true rfl, Nat.le_of_ble_eq_true rfl⟩) (pwV (ci := 2) (q0 := 0) (C := RX2) hw hK rfl rfl rfl (rpX (AV := [.ref x, .int s]) hw hK hG hZ hA rp_82)) rfl rfl hl.1 rfl (lv_room (Nat.le_of_ble_eq_true rfl)) dL_nightsOut_4 ⟨Nat.le_of_ble_eq_true rfl, Nat.le_of_ble_eq_true rfl⟩) hw hA rp_82 rp_82 (fun H locs ce9 q9 t_1 hw hy1 hy2 hy3 => absurd hT t_1) (fun H locs t_1 hw => ?_)
  refine lv_i2l (v := (f_at 5 (c_ou S) s : Int32).toInt64) hx hb dL_nightsOut_7 rfl ?_
  refine k_lst (ws' := wX x A T B ++ wC E A (B 0) S ++ wC E T (B 0) U ++ wG E B G ++ [(o, aJ E 1 (vp_updL f 0 ((f_at 5 (c_ou S) s : Int32).toInt64)))]) hx hb hK hw 21 rfl (vp_in_nI (n := 0) (N := 1) (by decide) (by decide)) dL_nightsOut_8 rfl (fun H locs hw => ?_)
  refine lv_goto (tgt := 15) hx hb dL_nightsOut_9 (by decide) ?_
  refine lv_iconst (v := 0) hx hb dL_nightsOut_15 (by decide) ?_
  refine W.widen (k := (rm_L_nightsOut).cells) (n := (rm_L_nightsOut).slots) (Nat.le_of_ble_eq_true rfl) (Nat.le_of_ble_eq_true rfl) ?_
  exact k_xiret hx hb hr hlocks hK hw rfl dL_nightsOut_16 (by first | rfl | assumption | (simp only [if_true, if_false, Bool.false_eq_true, Bool.true_eq_false, reduceIte, reduceCtorEq]; done) | (simp only [if_true, if_false, Bool.false_eq_true, Bool.true_eq_false, reduceIte, reduceCtorEq]; rfl) | (simp [if_true, if_false, Bool.false_eq_true, Bool.true_eq_false, reduceIte, reduceCtorEq]; done) | (simp [bI, ]; done)) rfl rfl
set_option maxHeartbeats 4000000 in
set_option maxRecDepth 100000 in
theorem c_L_nightsOut_1 (l : Launch) (hflags : l.stackTraces = false) (E : Ev) (x : Nat) (A T B : Nat → Nat) (S U : CS) (G : HS) (s : Int32) (o : Nat) (f : Nat → Int64) (hT : t_ship G s = 1) : XI l E yL_nightsOut wsL_nightsOut rm_L_nightsOut [.ref x, .int s, .ref o] (wX x A T B ++ wC E A (B 0) S ++ wC E T (B 0) U ++ wG E B G ++ [(o, aJ E 1 f)]) 0 1 (wX x A T B ++ wC E A (B 0) S ++ wC E T (B 0) U ++ wG E B G ++ [(o, aJ E 1 f)]) := by
  refine k_bXIH (cc := cL_nightsOut) (maxL := 4) (ret := (some .int)) (by decide) rfl (Nat.le_of_ble_eq_true rfl) ?_
  intro p9 e s9 m args below meth c A9 ls hC ht9 hZ hl hw
  obtain ⟨hx, hb, hml, hr, hown, hts, hlocks, hK, hG, hA⟩ := hC
  have hq0 := hts (.classLink RL 21 "java/lang/IndexOutOfBoundsException") (List.mem_of_getElem? (i := 1) rfl)
  have hl : lv_has ls 4 [(0, .ref x), (1, .int s), (2, .ref o)] := hl
  refine lv_aload_n hx hb dL_nightsOut_0 rfl (lv_at hl 2 rfl) ?_
  refine lv_iconst (v := 0) hx hb dL_nightsOut_1 (by decide) ?_
  refine lv_aload_n hx hb dL_nightsOut_2 rfl (lv_at hl 0 rfl) ?_
  refine lv_iload_n hx hb dL_nightsOut_3 rfl (lv_at hl 1 rfl) ?_
  refine krx_i (ws' := wX x A T B ++ wC E A (B 0) S ++ wC E T (B 0) U ++ wG E B G ++ [(o, aJ E 1 f)]) (vx_runV (As := [.int s]) (rest := [.int 0, .ref o]) ⟨hx, hb, hml, hown, hts⟩ (c_X2_nightsOut l hflags E x A T B S U G s  _) (cwV 1 hts gL_nightsOut_X2_nightsOut rfl rfl rfl ⟨rfl, hd_X2_nightsOut⟩ ⟨Nat.le_of_ble_eq_true rfl, Nat.le_of_ble_eq_true rfl⟩) (pwV (ci := 2) (q0 := 0) (C := RX2) hw hK rfl rfl rfl (rpX (AV := [.ref x, .int s]) hw hK hG hZ hA rp_82)) rfl rfl hl.1 rfl (lv_room (Nat.le_of_ble_eq_true rfl)) dL_nightsOut_4 ⟨Nat.le_of_ble_eq_true rfl, Nat.le_of_ble_eq_true rfl⟩) hw hA rp_82 rp_82 (fun H locs ce9 q9 t_1 hw hy1 hy2 hy3 => ?_) (fun H locs t_1 hw => absurd (t_1.symm.trans hT) (by decide))
  have hy3 : s9.vm.findClass "java/lang/IndexOutOfBoundsException" = some ce9.cls := by rw [hT] at hy3; exact hy3
  refine vx_catch hown [] ⟨0, 9, 12, 21⟩ [] (ht9.trans rfl) (fun z hz => absurd hz List.not_mem_nil) (by decide) (by decide) hq0 (va_Nw.use rfl (hG.nw 23 (w := .castable "java/lang/IndexOutOfBoundsException" "java/lang/IndexOutOfBoundsException") rfl)) hy1 hy2 hy3 ?_
  refine lv_astore_n (lv' := [(3, .ref q9), (0, .ref x), (1, .int s), (2, .ref o)]) hx hb dL_nightsOut_12 rfl hl (by decide) rfl (fun ls hl => ?_)
  refine lv_iconst (v := 1) hx hb dL_nightsOut_13 (by decide) ?_
  refine W.widen (k := (rm_L_nightsOut).cells) (n := (rm_L_nightsOut).slots) (Nat.le_of_ble_eq_true rfl) (Nat.le_of_ble_eq_true rfl) ?_
  exact k_xiret hx hb hr hlocks hK hw rfl dL_nightsOut_14 (by first | rfl | assumption | (simp only [if_true, if_false, Bool.false_eq_true, Bool.true_eq_false, reduceIte, reduceCtorEq]; done) | (simp only [if_true, if_false, Bool.false_eq_true, Bool.true_eq_false, reduceIte, reduceCtorEq]; rfl) | (simp [if_true, if_false, Bool.false_eq_true, Bool.true_eq_false, reduceIte, reduceCtorEq]; done) | (simp [bI, ]; done)) rfl rfl
abbrev rm_L_isRung : Room := { frames := 8, cells := 1, slots := 6, locals := 132 }
set_option maxHeartbeats 4000000 in
set_option maxRecDepth 100000 in
theorem c_L_isRung (l : Launch) (hflags : l.stackTraces = false) (E : Ev) (x : Nat) (A T B : Nat → Nat) (S U : CS) (G : HS) (s : Int32) (o : Nat) (f : Nat → Int64) (hT : t_ship G s = 0) : XI l E yL_isRung wsL_isRung rm_L_isRung [.ref x, .int s, .ref o] (wX x A T B ++ wC E A (B 0) S ++ wC E T (B 0) U ++ wG E B G ++ [(o, aJ E 1 f)]) 0 0 (wX x A T B ++ wC E A (B 0) S ++ wC E T (B 0) U ++ wG E B G ++ [(o, aJ E 1 (vp_updL f 0 (if f_is 5 (c_ru S) s = true then 1 else 0)))]) := by
  refine k_bXIH (cc := cL_isRung) (maxL := 4) (ret := (some .int)) (by decide) rfl (Nat.le_of_ble_eq_true rfl) ?_
  intro p9 e s9 m args below meth c A9 ls hC ht9 hZ hl hw
  obtain ⟨hx, hb, hml, hr, hown, hts, hlocks, hK, hG, hA⟩ := hC
  have hl : lv_has ls 4 [(0, .ref x), (1, .int s), (2, .ref o)] := hl
  refine lv_aload_n hx hb dL_isRung_0 rfl (lv_at hl 2 rfl) ?_
  refine lv_iconst (v := 0) hx hb dL_isRung_1 (by decide) ?_
  refine lv_aload_n hx hb dL_isRung_2 rfl (lv_at hl 0 rfl) ?_
  refine lv_iload_n hx hb dL_isRung_3 rfl (lv_at hl 1 rfl) ?_
  refine krx_i (ws' := wX x A T B ++ wC E A (B 0) S ++ wC E T (B 0) U ++ wG E B G ++ [(o, aJ E 1 f)]) (vx_runV (As := [.int s]) (rest := [.int 0, .ref o]) ⟨hx, hb, hml, hown, hts⟩ (c_X2_isRung l hflags E x A T B S U G s  _) (cwV 1 hts gL_isRung_X2_isRung rfl rfl rfl ⟨rfl, hd_X2_isRung⟩ ⟨Nat.le_of_ble_eq_true rfl, Nat.le_of_ble_eq_true rfl⟩) (pwV (ci := 2) (q0 := 0) (C := RX2) hw hK rfl rfl rfl (rpX (AV := [.ref x, .int s]) hw hK hG hZ hA rp_82)) rfl rfl hl.1 rfl (lv_room (Nat.le_of_ble_eq_true rfl)) dL_isRung_4 ⟨Nat.le_of_ble_eq_true rfl, Nat.le_of_ble_eq_true rfl⟩) hw hA rp_82 rp_82 (fun H locs ce9 q9 t_1 hw hy1 hy2 hy3 => absurd hT t_1) (fun H locs t_1 hw => ?_)
  refine lv_if_eq (tgt := 14) hx hb dL_isRung_7 (by decide) (fun c_2 => ?_) (fun c_2 => ?_)
  · have c_2 := bI_z c_2
    refine lv_lconst (v := 0) hx hb dL_isRung_14 (by decide) ?_
    refine k_lst (ws' := wX x A T B ++ wC E A (B 0) S ++ wC E T (B 0) U ++ wG E B G ++ [(o, aJ E 1 (vp_updL f 0 0))]) hx hb hK hw 21 rfl (vp_in_nI (n := 0) (N := 1) (by decide) (by decide)) dL_isRung_15 rfl (fun H locs hw => ?_)
    refine lv_goto (tgt := 22) hx hb dL_isRung_16 (by decide) ?_
    refine lv_iconst (v := 0) hx hb dL_isRung_22 (by decide) ?_
    refine W.widen (k := (rm_L_isRung).cells) (n := (rm_L_isRung).slots) (Nat.le_of_ble_eq_true rfl) (Nat.le_of_ble_eq_true rfl) ?_
    exact k_xiret hx hb hr hlocks hK hw rfl dL_isRung_23 (by first | assumption | (simp only [c_2, if_true, if_false, Bool.false_eq_true, Bool.true_eq_false, reduceIte, reduceCtorEq]; done) | (simp only [c_2, if_true, if_false, Bool.false_eq_true, Bool.true_eq_false, reduceIte, reduceCtorEq]; rfl) | rfl | (simp [c_2, if_true, if_false, Bool.false_eq_true, Bool.true_eq_false, reduceIte, reduceCtorEq]; done) | (simp [bI, c_2]; done)) rfl (by first | assumption | (simp only [c_2, if_true, if_false, Bool.false_eq_true, Bool.true_eq_false, reduceIte, reduceCtorEq]; done) | (simp only [c_2, if_true, if_false, Bool.false_eq_true, Bool.true_eq_false, reduceIte, reduceCtorEq]; rfl) | rfl | (simp [c_2, if_true, if_false, Bool.false_eq_true, Bool.true_eq_false, reduceIte, reduceCtorEq]; done) | (simp [bI, c_2]; done))
  · have c_2 := bI_nz c_2
    refine lv_lconst (v := 1) hx hb dL_isRung_10 (by decide) ?_
    refine lv_goto (tgt := 15) hx hb dL_isRung_11 (by decide) ?_
    refine k_lst (ws' := wX x A T B ++ wC E A (B 0) S ++ wC E T (B 0) U ++ wG E B G ++ [(o, aJ E 1 (vp_updL f 0 1))]) hx hb hK hw 21 rfl (vp_in_nI (n := 0) (N := 1) (by decide) (by decide)) dL_isRung_15 rfl (fun H locs hw => ?_)
    refine lv_goto (tgt := 22) hx hb dL_isRung_16 (by decide) ?_
    refine lv_iconst (v := 0) hx hb dL_isRung_22 (by decide) ?_
    refine W.widen (k := (rm_L_isRung).cells) (n := (rm_L_isRung).slots) (Nat.le_of_ble_eq_true rfl) (Nat.le_of_ble_eq_true rfl) ?_
    exact k_xiret hx hb hr hlocks hK hw rfl dL_isRung_23 (by first | assumption | (simp only [c_2, if_true, if_false, Bool.false_eq_true, Bool.true_eq_false, reduceIte, reduceCtorEq]; done) | (simp only [c_2, if_true, if_false, Bool.false_eq_true, Bool.true_eq_false, reduceIte, reduceCtorEq]; rfl) | rfl | (simp [c_2, if_true, if_false, Bool.false_eq_true, Bool.true_eq_false, reduceIte, reduceCtorEq]; done) | (simp [bI, c_2]; done)) rfl (by first | assumption | (simp only [c_2, if_true, if_false, Bool.false_eq_true, Bool.true_eq_false, reduceIte, reduceCtorEq]; done) | (simp only [c_2, if_true, if_false, Bool.false_eq_true, Bool.true_eq_false, reduceIte, reduceCtorEq]; rfl) | rfl | (simp [c_2, if_true, if_false, Bool.false_eq_true, Bool.true_eq_false, reduceIte, reduceCtorEq]; done) | (simp [bI, c_2]; done))
set_option maxHeartbeats 4000000 in
set_option maxRecDepth 100000 in
theorem c_L_isRung_1 (l : Launch) (hflags : l.stackTraces = false) (E : Ev) (x : Nat) (A T B : Nat → Nat) (S U : CS) (G : HS) (s : Int32) (o : Nat) (f : Nat → Int64) (hT : t_ship G s = 1) : XI l E yL_isRung wsL_isRung rm_L_isRung [.ref x, .int s, .ref o] (wX x A T B ++ wC E A (B 0) S ++ wC E T (B 0) U ++ wG E B G ++ [(o, aJ E 1 f)]) 0 1 (wX x A T B ++ wC E A (B 0) S ++ wC E T (B 0) U ++ wG E B G ++ [(o, aJ E 1 f)]) := by
  refine k_bXIH (cc := cL_isRung) (maxL := 4) (ret := (some .int)) (by decide) rfl (Nat.le_of_ble_eq_true rfl) ?_
  intro p9 e s9 m args below meth c A9 ls hC ht9 hZ hl hw
  obtain ⟨hx, hb, hml, hr, hown, hts, hlocks, hK, hG, hA⟩ := hC
  have hq0 := hts (.classLink RL 21 "java/lang/IndexOutOfBoundsException") (List.mem_of_getElem? (i := 1) rfl)
  have hl : lv_has ls 4 [(0, .ref x), (1, .int s), (2, .ref o)] := hl
  refine lv_aload_n hx hb dL_isRung_0 rfl (lv_at hl 2 rfl) ?_
  refine lv_iconst (v := 0) hx hb dL_isRung_1 (by decide) ?_
  refine lv_aload_n hx hb dL_isRung_2 rfl (lv_at hl 0 rfl) ?_
  refine lv_iload_n hx hb dL_isRung_3 rfl (lv_at hl 1 rfl) ?_
  refine krx_i (ws' := wX x A T B ++ wC E A (B 0) S ++ wC E T (B 0) U ++ wG E B G ++ [(o, aJ E 1 f)]) (vx_runV (As := [.int s]) (rest := [.int 0, .ref o]) ⟨hx, hb, hml, hown, hts⟩ (c_X2_isRung l hflags E x A T B S U G s  _) (cwV 1 hts gL_isRung_X2_isRung rfl rfl rfl ⟨rfl, hd_X2_isRung⟩ ⟨Nat.le_of_ble_eq_true rfl, Nat.le_of_ble_eq_true rfl⟩) (pwV (ci := 2) (q0 := 0) (C := RX2) hw hK rfl rfl rfl (rpX (AV := [.ref x, .int s]) hw hK hG hZ hA rp_82)) rfl rfl hl.1 rfl (lv_room (Nat.le_of_ble_eq_true rfl)) dL_isRung_4 ⟨Nat.le_of_ble_eq_true rfl, Nat.le_of_ble_eq_true rfl⟩) hw hA rp_82 rp_82 (fun H locs ce9 q9 t_1 hw hy1 hy2 hy3 => ?_) (fun H locs t_1 hw => absurd (t_1.symm.trans hT) (by decide))
  have hy3 : s9.vm.findClass "java/lang/IndexOutOfBoundsException" = some ce9.cls := by rw [hT] at hy3; exact hy3
  refine vx_catch hown [] ⟨0, 16, 19, 21⟩ [] (ht9.trans rfl) (fun z hz => absurd hz List.not_mem_nil) (by decide) (by decide) hq0 (va_Nw.use rfl (hG.nw 23 (w := .castable "java/lang/IndexOutOfBoundsException" "java/lang/IndexOutOfBoundsException") rfl)) hy1 hy2 hy3 ?_
  refine lv_astore_n (lv' := [(3, .ref q9), (0, .ref x), (1, .int s), (2, .ref o)]) hx hb dL_isRung_19 rfl hl (by decide) rfl (fun ls hl => ?_)
  refine lv_iconst (v := 1) hx hb dL_isRung_20 (by decide) ?_
  refine W.widen (k := (rm_L_isRung).cells) (n := (rm_L_isRung).slots) (Nat.le_of_ble_eq_true rfl) (Nat.le_of_ble_eq_true rfl) ?_
  exact k_xiret hx hb hr hlocks hK hw rfl dL_isRung_21 (by first | rfl | assumption | (simp only [if_true, if_false, Bool.false_eq_true, Bool.true_eq_false, reduceIte, reduceCtorEq]; done) | (simp only [if_true, if_false, Bool.false_eq_true, Bool.true_eq_false, reduceIte, reduceCtorEq]; rfl) | (simp [if_true, if_false, Bool.false_eq_true, Bool.true_eq_false, reduceIte, reduceCtorEq]; done) | (simp [bI, ]; done)) rfl rfl
abbrev rm_L_trustIn : Room := { frames := 8, cells := 1, slots := 6, locals := 132 }
set_option maxHeartbeats 4000000 in
set_option maxRecDepth 100000 in
theorem c_L_trustIn (l : Launch) (hflags : l.stackTraces = false) (E : Ev) (x : Nat) (A T B : Nat → Nat) (S U : CS) (G : HS) (s : Int32) (o : Nat) (f : Nat → Int64) (hT : t_ship G s = 0) : XI l E yL_trustIn wsL_trustIn rm_L_trustIn [.ref x, .int s, .ref o] (wX x A T B ++ wC E A (B 0) S ++ wC E T (B 0) U ++ wG E B G ++ [(o, aJ E 1 f)]) 0 0 (wX x A T B ++ wC E A (B 0) S ++ wC E T (B 0) U ++ wG E B G ++ [(o, aJ E 1 (vp_updL f 0 ((f_trust S s : Int32).toInt64)))]) := by
  refine k_bXIH (cc := cL_trustIn) (maxL := 4) (ret := (some .int)) (by decide) rfl (Nat.le_of_ble_eq_true rfl) ?_
  intro p9 e s9 m args below meth c A9 ls hC ht9 hZ hl hw
  obtain ⟨hx, hb, hml, hr, hown, hts, hlocks, hK, hG, hA⟩ := hC
  have hl : lv_has ls 4 [(0, .ref x), (1, .int s), (2, .ref o)] := hl
  refine lv_aload_n hx hb dL_trustIn_0 rfl (lv_at hl 2 rfl) ?_
  refine lv_iconst (v := 0) hx hb dL_trustIn_1 (by decide) ?_
  refine lv_aload_n hx hb dL_trustIn_2 rfl (lv_at hl 0 rfl) ?_
  refine lv_iload_n hx hb dL_trustIn_3 rfl (lv_at hl 1 rfl) ?_
  refine krx_i (ws' := wX x A T B ++ wC E A (B 0) S ++ wC E T (B 0) U ++ wG E B G ++ [(o, aJ E 1 f)]) (vx_runV (As := [.int s]) (rest := [.int 0, .ref o]) ⟨hx, hb, hml, hown, hts⟩ (c_X2_trustIn l hflags E x A T B S U G s  _) (cwV 1 hts gL_trustIn_X2_trustIn rfl rfl rfl ⟨rfl, hd_X2_trustIn⟩ ⟨Nat.le_of_ble_eq_true rfl, Nat.le_of_ble_eq_true rfl⟩) (pwV (ci := 2) (q0 := 0) (C := RX2) hw hK rfl rfl rfl (rpX (AV := [.ref x, .int s]) hw hK hG hZ hA rp_82)) rfl rfl hl.1 rfl (lv_room (Nat.le_of_ble_eq_true rfl)) dL_trustIn_4 ⟨Nat.le_of_ble_eq_true rfl, Nat.le_of_ble_eq_true rfl⟩) hw hA rp_82 rp_82 (fun H locs ce9 q9 t_1 hw hy1 hy2 hy3 => absurd hT t_1) (fun H locs t_1 hw => ?_)
  refine lv_i2l (v := (f_trust S s : Int32).toInt64) hx hb dL_trustIn_7 rfl ?_
  refine k_lst (ws' := wX x A T B ++ wC E A (B 0) S ++ wC E T (B 0) U ++ wG E B G ++ [(o, aJ E 1 (vp_updL f 0 ((f_trust S s : Int32).toInt64)))]) hx hb hK hw 21 rfl (vp_in_nI (n := 0) (N := 1) (by decide) (by decide)) dL_trustIn_8 rfl (fun H locs hw => ?_)
  refine lv_goto (tgt := 15) hx hb dL_trustIn_9 (by decide) ?_
  refine lv_iconst (v := 0) hx hb dL_trustIn_15 (by decide) ?_
  refine W.widen (k := (rm_L_trustIn).cells) (n := (rm_L_trustIn).slots) (Nat.le_of_ble_eq_true rfl) (Nat.le_of_ble_eq_true rfl) ?_
  exact k_xiret hx hb hr hlocks hK hw rfl dL_trustIn_16 (by first | rfl | assumption | (simp only [if_true, if_false, Bool.false_eq_true, Bool.true_eq_false, reduceIte, reduceCtorEq]; done) | (simp only [if_true, if_false, Bool.false_eq_true, Bool.true_eq_false, reduceIte, reduceCtorEq]; rfl) | (simp [if_true, if_false, Bool.false_eq_true, Bool.true_eq_false, reduceIte, reduceCtorEq]; done) | (simp [bI, ]; done)) rfl rfl
set_option maxHeartbeats 4000000 in
set_option maxRecDepth 100000 in
theorem c_L_trustIn_1 (l : Launch) (hflags : l.stackTraces = false) (E : Ev) (x : Nat) (A T B : Nat → Nat) (S U : CS) (G : HS) (s : Int32) (o : Nat) (f : Nat → Int64) (hT : t_ship G s = 1) : XI l E yL_trustIn wsL_trustIn rm_L_trustIn [.ref x, .int s, .ref o] (wX x A T B ++ wC E A (B 0) S ++ wC E T (B 0) U ++ wG E B G ++ [(o, aJ E 1 f)]) 0 1 (wX x A T B ++ wC E A (B 0) S ++ wC E T (B 0) U ++ wG E B G ++ [(o, aJ E 1 f)]) := by
  refine k_bXIH (cc := cL_trustIn) (maxL := 4) (ret := (some .int)) (by decide) rfl (Nat.le_of_ble_eq_true rfl) ?_
  intro p9 e s9 m args below meth c A9 ls hC ht9 hZ hl hw
  obtain ⟨hx, hb, hml, hr, hown, hts, hlocks, hK, hG, hA⟩ := hC
  have hq0 := hts (.classLink RL 21 "java/lang/IndexOutOfBoundsException") (List.mem_of_getElem? (i := 1) rfl)
  have hl : lv_has ls 4 [(0, .ref x), (1, .int s), (2, .ref o)] := hl
  refine lv_aload_n hx hb dL_trustIn_0 rfl (lv_at hl 2 rfl) ?_
  refine lv_iconst (v := 0) hx hb dL_trustIn_1 (by decide) ?_
  refine lv_aload_n hx hb dL_trustIn_2 rfl (lv_at hl 0 rfl) ?_
  refine lv_iload_n hx hb dL_trustIn_3 rfl (lv_at hl 1 rfl) ?_
  refine krx_i (ws' := wX x A T B ++ wC E A (B 0) S ++ wC E T (B 0) U ++ wG E B G ++ [(o, aJ E 1 f)]) (vx_runV (As := [.int s]) (rest := [.int 0, .ref o]) ⟨hx, hb, hml, hown, hts⟩ (c_X2_trustIn l hflags E x A T B S U G s  _) (cwV 1 hts gL_trustIn_X2_trustIn rfl rfl rfl ⟨rfl, hd_X2_trustIn⟩ ⟨Nat.le_of_ble_eq_true rfl, Nat.le_of_ble_eq_true rfl⟩) (pwV (ci := 2) (q0 := 0) (C := RX2) hw hK rfl rfl rfl (rpX (AV := [.ref x, .int s]) hw hK hG hZ hA rp_82)) rfl rfl hl.1 rfl (lv_room (Nat.le_of_ble_eq_true rfl)) dL_trustIn_4 ⟨Nat.le_of_ble_eq_true rfl, Nat.le_of_ble_eq_true rfl⟩) hw hA rp_82 rp_82 (fun H locs ce9 q9 t_1 hw hy1 hy2 hy3 => ?_) (fun H locs t_1 hw => absurd (t_1.symm.trans hT) (by decide))
  have hy3 : s9.vm.findClass "java/lang/IndexOutOfBoundsException" = some ce9.cls := by rw [hT] at hy3; exact hy3
  refine vx_catch hown [] ⟨0, 9, 12, 21⟩ [] (ht9.trans rfl) (fun z hz => absurd hz List.not_mem_nil) (by decide) (by decide) hq0 (va_Nw.use rfl (hG.nw 23 (w := .castable "java/lang/IndexOutOfBoundsException" "java/lang/IndexOutOfBoundsException") rfl)) hy1 hy2 hy3 ?_
  refine lv_astore_n (lv' := [(3, .ref q9), (0, .ref x), (1, .int s), (2, .ref o)]) hx hb dL_trustIn_12 rfl hl (by decide) rfl (fun ls hl => ?_)
  refine lv_iconst (v := 1) hx hb dL_trustIn_13 (by decide) ?_
  refine W.widen (k := (rm_L_trustIn).cells) (n := (rm_L_trustIn).slots) (Nat.le_of_ble_eq_true rfl) (Nat.le_of_ble_eq_true rfl) ?_
  exact k_xiret hx hb hr hlocks hK hw rfl dL_trustIn_14 (by first | rfl | assumption | (simp only [if_true, if_false, Bool.false_eq_true, Bool.true_eq_false, reduceIte, reduceCtorEq]; done) | (simp only [if_true, if_false, Bool.false_eq_true, Bool.true_eq_false, reduceIte, reduceCtorEq]; rfl) | (simp [if_true, if_false, Bool.false_eq_true, Bool.true_eq_false, reduceIte, reduceCtorEq]; done) | (simp [bI, ]; done)) rfl rfl
abbrev rm_L_voters : Room := { frames := 8, cells := 1, slots := 6, locals := 132 }
set_option maxHeartbeats 4000000 in
set_option maxRecDepth 100000 in
theorem c_L_voters (l : Launch) (hflags : l.stackTraces = false) (E : Ev) (x : Nat) (A T B : Nat → Nat) (S U : CS) (G : HS) (s : Int32) (o : Nat) (f : Nat → Int64) (hT : t_ship G s = 0) : XI l E yL_voters wsL_voters rm_L_voters [.ref x, .int s, .ref o] (wX x A T B ++ wC E A (B 0) S ++ wC E T (B 0) U ++ wG E B G ++ [(o, aJ E 1 f)]) 0 0 (wX x A T B ++ wC E A (B 0) S ++ wC E T (B 0) U ++ wG E B G ++ [(o, aJ E 1 (vp_updL f 0 ((f_voters G s : Int32).toInt64)))]) := by
  refine k_bXIH (cc := cL_voters) (maxL := 4) (ret := (some .int)) (by decide) rfl (Nat.le_of_ble_eq_true rfl) ?_
  intro p9 e s9 m args below meth c A9 ls hC ht9 hZ hl hw
  obtain ⟨hx, hb, hml, hr, hown, hts, hlocks, hK, hG, hA⟩ := hC
  have hl : lv_has ls 4 [(0, .ref x), (1, .int s), (2, .ref o)] := hl
  refine lv_aload_n hx hb dL_voters_0 rfl (lv_at hl 2 rfl) ?_
  refine lv_iconst (v := 0) hx hb dL_voters_1 (by decide) ?_
  refine lv_aload_n hx hb dL_voters_2 rfl (lv_at hl 0 rfl) ?_
  refine lv_iload_n hx hb dL_voters_3 rfl (lv_at hl 1 rfl) ?_
  refine krx_i (ws' := wX x A T B ++ wC E A (B 0) S ++ wC E T (B 0) U ++ wG E B G ++ [(o, aJ E 1 f)]) (vx_runV (As := [.int s]) (rest := [.int 0, .ref o]) ⟨hx, hb, hml, hown, hts⟩ (c_X2_voters l hflags E x A T B S U G s  _) (cwV 1 hts gL_voters_X2_voters rfl rfl rfl ⟨rfl, hd_X2_voters⟩ ⟨Nat.le_of_ble_eq_true rfl, Nat.le_of_ble_eq_true rfl⟩) (pwV (ci := 2) (q0 := 0) (C := RX2) hw hK rfl rfl rfl (rpX (AV := [.ref x, .int s]) hw hK hG hZ hA rp_82)) rfl rfl hl.1 rfl (lv_room (Nat.le_of_ble_eq_true rfl)) dL_voters_4 ⟨Nat.le_of_ble_eq_true rfl, Nat.le_of_ble_eq_true rfl⟩) hw hA rp_82 rp_82 (fun H locs ce9 q9 t_1 hw hy1 hy2 hy3 => absurd hT t_1) (fun H locs t_1 hw => ?_)
  refine lv_i2l (v := (f_voters G s : Int32).toInt64) hx hb dL_voters_7 rfl ?_
  refine k_lst (ws' := wX x A T B ++ wC E A (B 0) S ++ wC E T (B 0) U ++ wG E B G ++ [(o, aJ E 1 (vp_updL f 0 ((f_voters G s : Int32).toInt64)))]) hx hb hK hw 21 rfl (vp_in_nI (n := 0) (N := 1) (by decide) (by decide)) dL_voters_8 rfl (fun H locs hw => ?_)
  refine lv_goto (tgt := 15) hx hb dL_voters_9 (by decide) ?_
  refine lv_iconst (v := 0) hx hb dL_voters_15 (by decide) ?_
  refine W.widen (k := (rm_L_voters).cells) (n := (rm_L_voters).slots) (Nat.le_of_ble_eq_true rfl) (Nat.le_of_ble_eq_true rfl) ?_
  exact k_xiret hx hb hr hlocks hK hw rfl dL_voters_16 (by first | rfl | assumption | (simp only [if_true, if_false, Bool.false_eq_true, Bool.true_eq_false, reduceIte, reduceCtorEq]; done) | (simp only [if_true, if_false, Bool.false_eq_true, Bool.true_eq_false, reduceIte, reduceCtorEq]; rfl) | (simp [if_true, if_false, Bool.false_eq_true, Bool.true_eq_false, reduceIte, reduceCtorEq]; done) | (simp [bI, ]; done)) rfl rfl
set_option maxHeartbeats 4000000 in
set_option maxRecDepth 100000 in
theorem c_L_voters_1 (l : Launch) (hflags : l.stackTraces = false) (E : Ev) (x : Nat) (A T B : Nat → Nat) (S U : CS) (G : HS) (s : Int32) (o : Nat) (f : Nat → Int64) (hT : t_ship G s = 1) : XI l E yL_voters wsL_voters rm_L_voters [.ref x, .int s, .ref o] (wX x A T B ++ wC E A (B 0) S ++ wC E T (B 0) U ++ wG E B G ++ [(o, aJ E 1 f)]) 0 1 (wX x A T B ++ wC E A (B 0) S ++ wC E T (B 0) U ++ wG E B G ++ [(o, aJ E 1 f)]) := by
  refine k_bXIH (cc := cL_voters) (maxL := 4) (ret := (some .int)) (by decide) rfl (Nat.le_of_ble_eq_true rfl) ?_
  intro p9 e s9 m args below meth c A9 ls hC ht9 hZ hl hw
  obtain ⟨hx, hb, hml, hr, hown, hts, hlocks, hK, hG, hA⟩ := hC
  have hq0 := hts (.classLink RL 21 "java/lang/IndexOutOfBoundsException") (List.mem_of_getElem? (i := 1) rfl)
  have hl : lv_has ls 4 [(0, .ref x), (1, .int s), (2, .ref o)] := hl
  refine lv_aload_n hx hb dL_voters_0 rfl (lv_at hl 2 rfl) ?_
  refine lv_iconst (v := 0) hx hb dL_voters_1 (by decide) ?_
  refine lv_aload_n hx hb dL_voters_2 rfl (lv_at hl 0 rfl) ?_
  refine lv_iload_n hx hb dL_voters_3 rfl (lv_at hl 1 rfl) ?_
  refine krx_i (ws' := wX x A T B ++ wC E A (B 0) S ++ wC E T (B 0) U ++ wG E B G ++ [(o, aJ E 1 f)]) (vx_runV (As := [.int s]) (rest := [.int 0, .ref o]) ⟨hx, hb, hml, hown, hts⟩ (c_X2_voters l hflags E x A T B S U G s  _) (cwV 1 hts gL_voters_X2_voters rfl rfl rfl ⟨rfl, hd_X2_voters⟩ ⟨Nat.le_of_ble_eq_true rfl, Nat.le_of_ble_eq_true rfl⟩) (pwV (ci := 2) (q0 := 0) (C := RX2) hw hK rfl rfl rfl (rpX (AV := [.ref x, .int s]) hw hK hG hZ hA rp_82)) rfl rfl hl.1 rfl (lv_room (Nat.le_of_ble_eq_true rfl)) dL_voters_4 ⟨Nat.le_of_ble_eq_true rfl, Nat.le_of_ble_eq_true rfl⟩) hw hA rp_82 rp_82 (fun H locs ce9 q9 t_1 hw hy1 hy2 hy3 => ?_) (fun H locs t_1 hw => absurd (t_1.symm.trans hT) (by decide))
  have hy3 : s9.vm.findClass "java/lang/IndexOutOfBoundsException" = some ce9.cls := by rw [hT] at hy3; exact hy3
  refine vx_catch hown [] ⟨0, 9, 12, 21⟩ [] (ht9.trans rfl) (fun z hz => absurd hz List.not_mem_nil) (by decide) (by decide) hq0 (va_Nw.use rfl (hG.nw 23 (w := .castable "java/lang/IndexOutOfBoundsException" "java/lang/IndexOutOfBoundsException") rfl)) hy1 hy2 hy3 ?_
  refine lv_astore_n (lv' := [(3, .ref q9), (0, .ref x), (1, .int s), (2, .ref o)]) hx hb dL_voters_12 rfl hl (by decide) rfl (fun ls hl => ?_)
  refine lv_iconst (v := 1) hx hb dL_voters_13 (by decide) ?_
  refine W.widen (k := (rm_L_voters).cells) (n := (rm_L_voters).slots) (Nat.le_of_ble_eq_true rfl) (Nat.le_of_ble_eq_true rfl) ?_
  exact k_xiret hx hb hr hlocks hK hw rfl dL_voters_14 (by first | rfl | assumption | (simp only [if_true, if_false, Bool.false_eq_true, Bool.true_eq_false, reduceIte, reduceCtorEq]; done) | (simp only [if_true, if_false, Bool.false_eq_true, Bool.true_eq_false, reduceIte, reduceCtorEq]; rfl) | (simp [if_true, if_false, Bool.false_eq_true, Bool.true_eq_false, reduceIte, reduceCtorEq]; done) | (simp [bI, ]; done)) rfl rfl
abbrev rm_L_votesForLost : Room := { frames := 8, cells := 1, slots := 6, locals := 132 }
set_option maxHeartbeats 4000000 in
set_option maxRecDepth 100000 in
theorem c_L_votesForLost (l : Launch) (hflags : l.stackTraces = false) (E : Ev) (x : Nat) (A T B : Nat → Nat) (S U : CS) (G : HS) (s : Int32) (o : Nat) (f : Nat → Int64) (hT : t_ship G s = 0) : XI l E yL_votesForLost wsL_votesForLost rm_L_votesForLost [.ref x, .int s, .ref o] (wX x A T B ++ wC E A (B 0) S ++ wC E T (B 0) U ++ wG E B G ++ [(o, aJ E 1 f)]) 0 0 (wX x A T B ++ wC E A (B 0) S ++ wC E T (B 0) U ++ wG E B G ++ [(o, aJ E 1 (vp_updL f 0 ((f_votes G s : Int32).toInt64)))]) := by
  refine k_bXIH (cc := cL_votesForLost) (maxL := 4) (ret := (some .int)) (by decide) rfl (Nat.le_of_ble_eq_true rfl) ?_
  intro p9 e s9 m args below meth c A9 ls hC ht9 hZ hl hw
  obtain ⟨hx, hb, hml, hr, hown, hts, hlocks, hK, hG, hA⟩ := hC
  have hl : lv_has ls 4 [(0, .ref x), (1, .int s), (2, .ref o)] := hl
  refine lv_aload_n hx hb dL_votesForLost_0 rfl (lv_at hl 2 rfl) ?_
  refine lv_iconst (v := 0) hx hb dL_votesForLost_1 (by decide) ?_
  refine lv_aload_n hx hb dL_votesForLost_2 rfl (lv_at hl 0 rfl) ?_
  refine lv_iload_n hx hb dL_votesForLost_3 rfl (lv_at hl 1 rfl) ?_
  refine krx_i (ws' := wX x A T B ++ wC E A (B 0) S ++ wC E T (B 0) U ++ wG E B G ++ [(o, aJ E 1 f)]) (vx_runV (As := [.int s]) (rest := [.int 0, .ref o]) ⟨hx, hb, hml, hown, hts⟩ (c_X2_votesForLost l hflags E x A T B S U G s  _) (cwV 1 hts gL_votesForLost_X2_votesForLost rfl rfl rfl ⟨rfl, hd_X2_votesForLost⟩ ⟨Nat.le_of_ble_eq_true rfl, Nat.le_of_ble_eq_true rfl⟩) (pwV (ci := 2) (q0 := 0) (C := RX2) hw hK rfl rfl rfl (rpX (AV := [.ref x, .int s]) hw hK hG hZ hA rp_82)) rfl rfl hl.1 rfl (lv_room (Nat.le_of_ble_eq_true rfl)) dL_votesForLost_4 ⟨Nat.le_of_ble_eq_true rfl, Nat.le_of_ble_eq_true rfl⟩) hw hA rp_82 rp_82 (fun H locs ce9 q9 t_1 hw hy1 hy2 hy3 => absurd hT t_1) (fun H locs t_1 hw => ?_)
  refine lv_i2l (v := (f_votes G s : Int32).toInt64) hx hb dL_votesForLost_7 rfl ?_
  refine k_lst (ws' := wX x A T B ++ wC E A (B 0) S ++ wC E T (B 0) U ++ wG E B G ++ [(o, aJ E 1 (vp_updL f 0 ((f_votes G s : Int32).toInt64)))]) hx hb hK hw 21 rfl (vp_in_nI (n := 0) (N := 1) (by decide) (by decide)) dL_votesForLost_8 rfl (fun H locs hw => ?_)
  refine lv_goto (tgt := 15) hx hb dL_votesForLost_9 (by decide) ?_
  refine lv_iconst (v := 0) hx hb dL_votesForLost_15 (by decide) ?_
  refine W.widen (k := (rm_L_votesForLost).cells) (n := (rm_L_votesForLost).slots) (Nat.le_of_ble_eq_true rfl) (Nat.le_of_ble_eq_true rfl) ?_
  exact k_xiret hx hb hr hlocks hK hw rfl dL_votesForLost_16 (by first | rfl | assumption | (simp only [if_true, if_false, Bool.false_eq_true, Bool.true_eq_false, reduceIte, reduceCtorEq]; done) | (simp only [if_true, if_false, Bool.false_eq_true, Bool.true_eq_false, reduceIte, reduceCtorEq]; rfl) | (simp [if_true, if_false, Bool.false_eq_true, Bool.true_eq_false, reduceIte, reduceCtorEq]; done) | (simp [bI, ]; done)) rfl rfl
set_option maxHeartbeats 4000000 in
set_option maxRecDepth 100000 in
theorem c_L_votesForLost_1 (l : Launch) (hflags : l.stackTraces = false) (E : Ev) (x : Nat) (A T B : Nat → Nat) (S U : CS) (G : HS) (s : Int32) (o : Nat) (f : Nat → Int64) (hT : t_ship G s = 1) : XI l E yL_votesForLost wsL_votesForLost rm_L_votesForLost [.ref x, .int s, .ref o] (wX x A T B ++ wC E A (B 0) S ++ wC E T (B 0) U ++ wG E B G ++ [(o, aJ E 1 f)]) 0 1 (wX x A T B ++ wC E A (B 0) S ++ wC E T (B 0) U ++ wG E B G ++ [(o, aJ E 1 f)]) := by
  refine k_bXIH (cc := cL_votesForLost) (maxL := 4) (ret := (some .int)) (by decide) rfl (Nat.le_of_ble_eq_true rfl) ?_
  intro p9 e s9 m args below meth c A9 ls hC ht9 hZ hl hw
  obtain ⟨hx, hb, hml, hr, hown, hts, hlocks, hK, hG, hA⟩ := hC
  have hq0 := hts (.classLink RL 21 "java/lang/IndexOutOfBoundsException") (List.mem_of_getElem? (i := 1) rfl)
  have hl : lv_has ls 4 [(0, .ref x), (1, .int s), (2, .ref o)] := hl
  refine lv_aload_n hx hb dL_votesForLost_0 rfl (lv_at hl 2 rfl) ?_
  refine lv_iconst (v := 0) hx hb dL_votesForLost_1 (by decide) ?_
  refine lv_aload_n hx hb dL_votesForLost_2 rfl (lv_at hl 0 rfl) ?_
  refine lv_iload_n hx hb dL_votesForLost_3 rfl (lv_at hl 1 rfl) ?_
  refine krx_i (ws' := wX x A T B ++ wC E A (B 0) S ++ wC E T (B 0) U ++ wG E B G ++ [(o, aJ E 1 f)]) (vx_runV (As := [.int s]) (rest := [.int 0, .ref o]) ⟨hx, hb, hml, hown, hts⟩ (c_X2_votesForLost l hflags E x A T B S U G s  _) (cwV 1 hts gL_votesForLost_X2_votesForLost rfl rfl rfl ⟨rfl, hd_X2_votesForLost⟩ ⟨Nat.le_of_ble_eq_true rfl, Nat.le_of_ble_eq_true rfl⟩) (pwV (ci := 2) (q0 := 0) (C := RX2) hw hK rfl rfl rfl (rpX (AV := [.ref x, .int s]) hw hK hG hZ hA rp_82)) rfl rfl hl.1 rfl (lv_room (Nat.le_of_ble_eq_true rfl)) dL_votesForLost_4 ⟨Nat.le_of_ble_eq_true rfl, Nat.le_of_ble_eq_true rfl⟩) hw hA rp_82 rp_82 (fun H locs ce9 q9 t_1 hw hy1 hy2 hy3 => ?_) (fun H locs t_1 hw => absurd (t_1.symm.trans hT) (by decide))
  have hy3 : s9.vm.findClass "java/lang/IndexOutOfBoundsException" = some ce9.cls := by rw [hT] at hy3; exact hy3
  refine vx_catch hown [] ⟨0, 9, 12, 21⟩ [] (ht9.trans rfl) (fun z hz => absurd hz List.not_mem_nil) (by decide) (by decide) hq0 (va_Nw.use rfl (hG.nw 23 (w := .castable "java/lang/IndexOutOfBoundsException" "java/lang/IndexOutOfBoundsException") rfl)) hy1 hy2 hy3 ?_
  refine lv_astore_n (lv' := [(3, .ref q9), (0, .ref x), (1, .int s), (2, .ref o)]) hx hb dL_votesForLost_12 rfl hl (by decide) rfl (fun ls hl => ?_)
  refine lv_iconst (v := 1) hx hb dL_votesForLost_13 (by decide) ?_
  refine W.widen (k := (rm_L_votesForLost).cells) (n := (rm_L_votesForLost).slots) (Nat.le_of_ble_eq_true rfl) (Nat.le_of_ble_eq_true rfl) ?_
  exact k_xiret hx hb hr hlocks hK hw rfl dL_votesForLost_14 (by first | rfl | assumption | (simp only [if_true, if_false, Bool.false_eq_true, Bool.true_eq_false, reduceIte, reduceCtorEq]; done) | (simp only [if_true, if_false, Bool.false_eq_true, Bool.true_eq_false, reduceIte, reduceCtorEq]; rfl) | (simp [if_true, if_false, Bool.false_eq_true, Bool.true_eq_false, reduceIte, reduceCtorEq]; done) | (simp [bI, ]; done)) rfl rfl
abbrev rm_L_votesMissing : Room := { frames := 8, cells := 1, slots := 6, locals := 132 }
set_option maxHeartbeats 4000000 in
set_option maxRecDepth 100000 in
theorem c_L_votesMissing (l : Launch) (hflags : l.stackTraces = false) (E : Ev) (x : Nat) (A T B : Nat → Nat) (S U : CS) (G : HS) (s : Int32) (o : Nat) (f : Nat → Int64) (hT : t_ship G s = 0) : XI l E yL_votesMissing wsL_votesMissing rm_L_votesMissing [.ref x, .int s, .ref o] (wX x A T B ++ wC E A (B 0) S ++ wC E T (B 0) U ++ wG E B G ++ [(o, aJ E 1 f)]) 0 0 (wX x A T B ++ wC E A (B 0) S ++ wC E T (B 0) U ++ wG E B G ++ [(o, aJ E 1 (vp_updL f 0 ((f_vtl G s : Int32).toInt64)))]) := by
  refine k_bXIH (cc := cL_votesMissing) (maxL := 4) (ret := (some .int)) (by decide) rfl (Nat.le_of_ble_eq_true rfl) ?_
  intro p9 e s9 m args below meth c A9 ls hC ht9 hZ hl hw
  obtain ⟨hx, hb, hml, hr, hown, hts, hlocks, hK, hG, hA⟩ := hC
  have hl : lv_has ls 4 [(0, .ref x), (1, .int s), (2, .ref o)] := hl
  refine lv_aload_n hx hb dL_votesMissing_0 rfl (lv_at hl 2 rfl) ?_
  refine lv_iconst (v := 0) hx hb dL_votesMissing_1 (by decide) ?_
  refine lv_aload_n hx hb dL_votesMissing_2 rfl (lv_at hl 0 rfl) ?_
  refine lv_iload_n hx hb dL_votesMissing_3 rfl (lv_at hl 1 rfl) ?_
  refine krx_i (ws' := wX x A T B ++ wC E A (B 0) S ++ wC E T (B 0) U ++ wG E B G ++ [(o, aJ E 1 f)]) (vx_runV (As := [.int s]) (rest := [.int 0, .ref o]) ⟨hx, hb, hml, hown, hts⟩ (c_X2_votesMissing l hflags E x A T B S U G s  _) (cwV 1 hts gL_votesMissing_X2_votesMissing rfl rfl rfl ⟨rfl, hd_X2_votesMissing⟩ ⟨Nat.le_of_ble_eq_true rfl, Nat.le_of_ble_eq_true rfl⟩) (pwV (ci := 2) (q0 := 0) (C := RX2) hw hK rfl rfl rfl (rpX (AV := [.ref x, .int s]) hw hK hG hZ hA rp_82)) rfl rfl hl.1 rfl (lv_room (Nat.le_of_ble_eq_true rfl)) dL_votesMissing_4 ⟨Nat.le_of_ble_eq_true rfl, Nat.le_of_ble_eq_true rfl⟩) hw hA rp_82 rp_82 (fun H locs ce9 q9 t_1 hw hy1 hy2 hy3 => absurd hT t_1) (fun H locs t_1 hw => ?_)
  refine lv_i2l (v := (f_vtl G s : Int32).toInt64) hx hb dL_votesMissing_7 rfl ?_
  refine k_lst (ws' := wX x A T B ++ wC E A (B 0) S ++ wC E T (B 0) U ++ wG E B G ++ [(o, aJ E 1 (vp_updL f 0 ((f_vtl G s : Int32).toInt64)))]) hx hb hK hw 21 rfl (vp_in_nI (n := 0) (N := 1) (by decide) (by decide)) dL_votesMissing_8 rfl (fun H locs hw => ?_)
  refine lv_goto (tgt := 15) hx hb dL_votesMissing_9 (by decide) ?_
  refine lv_iconst (v := 0) hx hb dL_votesMissing_15 (by decide) ?_
  refine W.widen (k := (rm_L_votesMissing).cells) (n := (rm_L_votesMissing).slots) (Nat.le_of_ble_eq_true rfl) (Nat.le_of_ble_eq_true rfl) ?_
  exact k_xiret hx hb hr hlocks hK hw rfl dL_votesMissing_16 (by first | rfl | assumption | (simp only [if_true, if_false, Bool.false_eq_true, Bool.true_eq_false, reduceIte, reduceCtorEq]; done) | (simp only [if_true, if_false, Bool.false_eq_true, Bool.true_eq_false, reduceIte, reduceCtorEq]; rfl) | (simp [if_true, if_false, Bool.false_eq_true, Bool.true_eq_false, reduceIte, reduceCtorEq]; done) | (simp [bI, ]; done)) rfl rfl
set_option maxHeartbeats 4000000 in
set_option maxRecDepth 100000 in
theorem c_L_votesMissing_1 (l : Launch) (hflags : l.stackTraces = false) (E : Ev) (x : Nat) (A T B : Nat → Nat) (S U : CS) (G : HS) (s : Int32) (o : Nat) (f : Nat → Int64) (hT : t_ship G s = 1) : XI l E yL_votesMissing wsL_votesMissing rm_L_votesMissing [.ref x, .int s, .ref o] (wX x A T B ++ wC E A (B 0) S ++ wC E T (B 0) U ++ wG E B G ++ [(o, aJ E 1 f)]) 0 1 (wX x A T B ++ wC E A (B 0) S ++ wC E T (B 0) U ++ wG E B G ++ [(o, aJ E 1 f)]) := by
  refine k_bXIH (cc := cL_votesMissing) (maxL := 4) (ret := (some .int)) (by decide) rfl (Nat.le_of_ble_eq_true rfl) ?_
  intro p9 e s9 m args below meth c A9 ls hC ht9 hZ hl hw
  obtain ⟨hx, hb, hml, hr, hown, hts, hlocks, hK, hG, hA⟩ := hC
  have hq0 := hts (.classLink RL 21 "java/lang/IndexOutOfBoundsException") (List.mem_of_getElem? (i := 1) rfl)
  have hl : lv_has ls 4 [(0, .ref x), (1, .int s), (2, .ref o)] := hl
  refine lv_aload_n hx hb dL_votesMissing_0 rfl (lv_at hl 2 rfl) ?_
  refine lv_iconst (v := 0) hx hb dL_votesMissing_1 (by decide) ?_
  refine lv_aload_n hx hb dL_votesMissing_2 rfl (lv_at hl 0 rfl) ?_
  refine lv_iload_n hx hb dL_votesMissing_3 rfl (lv_at hl 1 rfl) ?_
  refine krx_i (ws' := wX x A T B ++ wC E A (B 0) S ++ wC E T (B 0) U ++ wG E B G ++ [(o, aJ E 1 f)]) (vx_runV (As := [.int s]) (rest := [.int 0, .ref o]) ⟨hx, hb, hml, hown, hts⟩ (c_X2_votesMissing l hflags E x A T B S U G s  _) (cwV 1 hts gL_votesMissing_X2_votesMissing rfl rfl rfl ⟨rfl, hd_X2_votesMissing⟩ ⟨Nat.le_of_ble_eq_true rfl, Nat.le_of_ble_eq_true rfl⟩) (pwV (ci := 2) (q0 := 0) (C := RX2) hw hK rfl rfl rfl (rpX (AV := [.ref x, .int s]) hw hK hG hZ hA rp_82)) rfl rfl hl.1 rfl (lv_room (Nat.le_of_ble_eq_true rfl)) dL_votesMissing_4 ⟨Nat.le_of_ble_eq_true rfl, Nat.le_of_ble_eq_true rfl⟩) hw hA rp_82 rp_82 (fun H locs ce9 q9 t_1 hw hy1 hy2 hy3 => ?_) (fun H locs t_1 hw => absurd (t_1.symm.trans hT) (by decide))
  have hy3 : s9.vm.findClass "java/lang/IndexOutOfBoundsException" = some ce9.cls := by rw [hT] at hy3; exact hy3
  refine vx_catch hown [] ⟨0, 9, 12, 21⟩ [] (ht9.trans rfl) (fun z hz => absurd hz List.not_mem_nil) (by decide) (by decide) hq0 (va_Nw.use rfl (hG.nw 23 (w := .castable "java/lang/IndexOutOfBoundsException" "java/lang/IndexOutOfBoundsException") rfl)) hy1 hy2 hy3 ?_
  refine lv_astore_n (lv' := [(3, .ref q9), (0, .ref x), (1, .int s), (2, .ref o)]) hx hb dL_votesMissing_12 rfl hl (by decide) rfl (fun ls hl => ?_)
  refine lv_iconst (v := 1) hx hb dL_votesMissing_13 (by decide) ?_
  refine W.widen (k := (rm_L_votesMissing).cells) (n := (rm_L_votesMissing).slots) (Nat.le_of_ble_eq_true rfl) (Nat.le_of_ble_eq_true rfl) ?_
  exact k_xiret hx hb hr hlocks hK hw rfl dL_votesMissing_14 (by first | rfl | assumption | (simp only [if_true, if_false, Bool.false_eq_true, Bool.true_eq_false, reduceIte, reduceCtorEq]; done) | (simp only [if_true, if_false, Bool.false_eq_true, Bool.true_eq_false, reduceIte, reduceCtorEq]; rfl) | (simp [if_true, if_false, Bool.false_eq_true, Bool.true_eq_false, reduceIte, reduceCtorEq]; done) | (simp [bI, ]; done)) rfl rfl
abbrev rm_L_shipOf : Room := { frames := 8, cells := 1, slots := 6, locals := 132 }
set_option maxHeartbeats 4000000 in
set_option maxRecDepth 100000 in
theorem c_L_shipOf (l : Launch) (hflags : l.stackTraces = false) (E : Ev) (x : Nat) (A T B : Nat → Nat) (S U : CS) (G : HS) (p : Int32) (o : Nat) (f : Nat → Int64) (hT : t_sail G p = 0) : XI l E yL_shipOf wsL_shipOf rm_L_shipOf [.ref x, .int p, .ref o] (wX x A T B ++ wC E A (B 0) S ++ wC E T (B 0) U ++ wG E B G ++ [(o, aJ E 1 f)]) 0 0 (wX x A T B ++ wC E A (B 0) S ++ wC E T (B 0) U ++ wG E B G ++ [(o, aJ E 1 (vp_updL f 0 ((f_ship G p : Int32).toInt64)))]) := by
  refine k_bXIH (cc := cL_shipOf) (maxL := 4) (ret := (some .int)) (by decide) rfl (Nat.le_of_ble_eq_true rfl) ?_
  intro p9 e s9 m args below meth c A9 ls hC ht9 hZ hl hw
  obtain ⟨hx, hb, hml, hr, hown, hts, hlocks, hK, hG, hA⟩ := hC
  have hl : lv_has ls 4 [(0, .ref x), (1, .int p), (2, .ref o)] := hl
  refine lv_aload_n hx hb dL_shipOf_0 rfl (lv_at hl 2 rfl) ?_
  refine lv_iconst (v := 0) hx hb dL_shipOf_1 (by decide) ?_
  refine lv_aload_n hx hb dL_shipOf_2 rfl (lv_at hl 0 rfl) ?_
  refine lv_iload_n hx hb dL_shipOf_3 rfl (lv_at hl 1 rfl) ?_
  refine krx_i (ws' := wX x A T B ++ wC E A (B 0) S ++ wC E T (B 0) U ++ wG E B G ++ [(o, aJ E 1 f)]) (vx_runV (As := [.int p]) (rest := [.int 0, .ref o]) ⟨hx, hb, hml, hown, hts⟩ (c_X2_shipOf l hflags E x A T B S U G p  _) (cwV 1 hts gL_shipOf_X2_shipOf rfl rfl rfl ⟨rfl, hd_X2_shipOf⟩ ⟨Nat.le_of_ble_eq_true rfl, Nat.le_of_ble_eq_true rfl⟩) (pwV (ci := 2) (q0 := 0) (C := RX2) hw hK rfl rfl rfl (rpX (AV := [.ref x, .int p]) hw hK hG hZ hA rp_82)) rfl rfl hl.1 rfl (lv_room (Nat.le_of_ble_eq_true rfl)) dL_shipOf_4 ⟨Nat.le_of_ble_eq_true rfl, Nat.le_of_ble_eq_true rfl⟩) hw hA rp_82 rp_82 (fun H locs ce9 q9 t_1 hw hy1 hy2 hy3 => absurd hT t_1) (fun H locs t_1 hw => ?_)
  refine lv_i2l (v := (f_ship G p : Int32).toInt64) hx hb dL_shipOf_7 rfl ?_
  refine k_lst (ws' := wX x A T B ++ wC E A (B 0) S ++ wC E T (B 0) U ++ wG E B G ++ [(o, aJ E 1 (vp_updL f 0 ((f_ship G p : Int32).toInt64)))]) hx hb hK hw 21 rfl (vp_in_nI (n := 0) (N := 1) (by decide) (by decide)) dL_shipOf_8 rfl (fun H locs hw => ?_)
  refine lv_goto (tgt := 15) hx hb dL_shipOf_9 (by decide) ?_
  refine lv_iconst (v := 0) hx hb dL_shipOf_15 (by decide) ?_
  refine W.widen (k := (rm_L_shipOf).cells) (n := (rm_L_shipOf).slots) (Nat.le_of_ble_eq_true rfl) (Nat.le_of_ble_eq_true rfl) ?_
  exact k_xiret hx hb hr hlocks hK hw rfl dL_shipOf_16 (by first | rfl | assumption | (simp only [if_true, if_false, Bool.false_eq_true, Bool.true_eq_false, reduceIte, reduceCtorEq]; done) | (simp only [if_true, if_false, Bool.false_eq_true, Bool.true_eq_false, reduceIte, reduceCtorEq]; rfl) | (simp [if_true, if_false, Bool.false_eq_true, Bool.true_eq_false, reduceIte, reduceCtorEq]; done) | (simp [bI, ]; done)) rfl rfl
set_option maxHeartbeats 4000000 in
set_option maxRecDepth 100000 in
theorem c_L_shipOf_1 (l : Launch) (hflags : l.stackTraces = false) (E : Ev) (x : Nat) (A T B : Nat → Nat) (S U : CS) (G : HS) (p : Int32) (o : Nat) (f : Nat → Int64) (hT : t_sail G p = 1) : XI l E yL_shipOf wsL_shipOf rm_L_shipOf [.ref x, .int p, .ref o] (wX x A T B ++ wC E A (B 0) S ++ wC E T (B 0) U ++ wG E B G ++ [(o, aJ E 1 f)]) 0 1 (wX x A T B ++ wC E A (B 0) S ++ wC E T (B 0) U ++ wG E B G ++ [(o, aJ E 1 f)]) := by
  refine k_bXIH (cc := cL_shipOf) (maxL := 4) (ret := (some .int)) (by decide) rfl (Nat.le_of_ble_eq_true rfl) ?_
  intro p9 e s9 m args below meth c A9 ls hC ht9 hZ hl hw
  obtain ⟨hx, hb, hml, hr, hown, hts, hlocks, hK, hG, hA⟩ := hC
  have hq0 := hts (.classLink RL 21 "java/lang/IndexOutOfBoundsException") (List.mem_of_getElem? (i := 1) rfl)
  have hl : lv_has ls 4 [(0, .ref x), (1, .int p), (2, .ref o)] := hl
  refine lv_aload_n hx hb dL_shipOf_0 rfl (lv_at hl 2 rfl) ?_
  refine lv_iconst (v := 0) hx hb dL_shipOf_1 (by decide) ?_
  refine lv_aload_n hx hb dL_shipOf_2 rfl (lv_at hl 0 rfl) ?_
  refine lv_iload_n hx hb dL_shipOf_3 rfl (lv_at hl 1 rfl) ?_
  refine krx_i (ws' := wX x A T B ++ wC E A (B 0) S ++ wC E T (B 0) U ++ wG E B G ++ [(o, aJ E 1 f)]) (vx_runV (As := [.int p]) (rest := [.int 0, .ref o]) ⟨hx, hb, hml, hown, hts⟩ (c_X2_shipOf l hflags E x A T B S U G p  _) (cwV 1 hts gL_shipOf_X2_shipOf rfl rfl rfl ⟨rfl, hd_X2_shipOf⟩ ⟨Nat.le_of_ble_eq_true rfl, Nat.le_of_ble_eq_true rfl⟩) (pwV (ci := 2) (q0 := 0) (C := RX2) hw hK rfl rfl rfl (rpX (AV := [.ref x, .int p]) hw hK hG hZ hA rp_82)) rfl rfl hl.1 rfl (lv_room (Nat.le_of_ble_eq_true rfl)) dL_shipOf_4 ⟨Nat.le_of_ble_eq_true rfl, Nat.le_of_ble_eq_true rfl⟩) hw hA rp_82 rp_82 (fun H locs ce9 q9 t_1 hw hy1 hy2 hy3 => ?_) (fun H locs t_1 hw => absurd (t_1.symm.trans hT) (by decide))
  have hy3 : s9.vm.findClass "java/lang/IndexOutOfBoundsException" = some ce9.cls := by rw [hT] at hy3; exact hy3
  refine vx_catch hown [] ⟨0, 9, 12, 21⟩ [] (ht9.trans rfl) (fun z hz => absurd hz List.not_mem_nil) (by decide) (by decide) hq0 (va_Nw.use rfl (hG.nw 23 (w := .castable "java/lang/IndexOutOfBoundsException" "java/lang/IndexOutOfBoundsException") rfl)) hy1 hy2 hy3 ?_
  refine lv_astore_n (lv' := [(3, .ref q9), (0, .ref x), (1, .int p), (2, .ref o)]) hx hb dL_shipOf_12 rfl hl (by decide) rfl (fun ls hl => ?_)
  refine lv_iconst (v := 1) hx hb dL_shipOf_13 (by decide) ?_
  refine W.widen (k := (rm_L_shipOf).cells) (n := (rm_L_shipOf).slots) (Nat.le_of_ble_eq_true rfl) (Nat.le_of_ble_eq_true rfl) ?_
  exact k_xiret hx hb hr hlocks hK hw rfl dL_shipOf_14 (by first | rfl | assumption | (simp only [if_true, if_false, Bool.false_eq_true, Bool.true_eq_false, reduceIte, reduceCtorEq]; done) | (simp only [if_true, if_false, Bool.false_eq_true, Bool.true_eq_false, reduceIte, reduceCtorEq]; rfl) | (simp [if_true, if_false, Bool.false_eq_true, Bool.true_eq_false, reduceIte, reduceCtorEq]; done) | (simp [bI, ]; done)) rfl rfl
abbrev rm_L_mastOf : Room := { frames := 8, cells := 1, slots := 6, locals := 132 }
set_option maxHeartbeats 4000000 in
set_option maxRecDepth 100000 in
theorem c_L_mastOf (l : Launch) (hflags : l.stackTraces = false) (E : Ev) (x : Nat) (A T B : Nat → Nat) (S U : CS) (G : HS) (p : Int32) (o : Nat) (f : Nat → Int64) (hT : t_sail G p = 0) : XI l E yL_mastOf wsL_mastOf rm_L_mastOf [.ref x, .int p, .ref o] (wX x A T B ++ wC E A (B 0) S ++ wC E T (B 0) U ++ wG E B G ++ [(o, aJ E 1 f)]) 0 0 (wX x A T B ++ wC E A (B 0) S ++ wC E T (B 0) U ++ wG E B G ++ [(o, aJ E 1 (vp_updL f 0 ((f_at 16 (g_mt G) p : Int32).toInt64)))]) := by
  refine k_bXIH (cc := cL_mastOf) (maxL := 4) (ret := (some .int)) (by decide) rfl (Nat.le_of_ble_eq_true rfl) ?_
  intro p9 e s9 m args below meth c A9 ls hC ht9 hZ hl hw
  obtain ⟨hx, hb, hml, hr, hown, hts, hlocks, hK, hG, hA⟩ := hC
  have hl : lv_has ls 4 [(0, .ref x), (1, .int p), (2, .ref o)] := hl
  refine lv_aload_n hx hb dL_mastOf_0 rfl (lv_at hl 2 rfl) ?_
  refine lv_iconst (v := 0) hx hb dL_mastOf_1 (by decide) ?_
  refine lv_aload_n hx hb dL_mastOf_2 rfl (lv_at hl 0 rfl) ?_
  refine lv_iload_n hx hb dL_mastOf_3 rfl (lv_at hl 1 rfl) ?_
  refine krx_i (ws' := wX x A T B ++ wC E A (B 0) S ++ wC E T (B 0) U ++ wG E B G ++ [(o, aJ E 1 f)]) (vx_runV (As := [.int p]) (rest := [.int 0, .ref o]) ⟨hx, hb, hml, hown, hts⟩ (c_X2_mastOf l hflags E x A T B S U G p  _) (cwV 1 hts gL_mastOf_X2_mastOf rfl rfl rfl ⟨rfl, hd_X2_mastOf⟩ ⟨Nat.le_of_ble_eq_true rfl, Nat.le_of_ble_eq_true rfl⟩) (pwV (ci := 2) (q0 := 0) (C := RX2) hw hK rfl rfl rfl (rpX (AV := [.ref x, .int p]) hw hK hG hZ hA rp_82)) rfl rfl hl.1 rfl (lv_room (Nat.le_of_ble_eq_true rfl)) dL_mastOf_4 ⟨Nat.le_of_ble_eq_true rfl, Nat.le_of_ble_eq_true rfl⟩) hw hA rp_82 rp_82 (fun H locs ce9 q9 t_1 hw hy1 hy2 hy3 => absurd hT t_1) (fun H locs t_1 hw => ?_)
  refine lv_i2l (v := (f_at 16 (g_mt G) p : Int32).toInt64) hx hb dL_mastOf_7 rfl ?_
  refine k_lst (ws' := wX x A T B ++ wC E A (B 0) S ++ wC E T (B 0) U ++ wG E B G ++ [(o, aJ E 1 (vp_updL f 0 ((f_at 16 (g_mt G) p : Int32).toInt64)))]) hx hb hK hw 21 rfl (vp_in_nI (n := 0) (N := 1) (by decide) (by decide)) dL_mastOf_8 rfl (fun H locs hw => ?_)
  refine lv_goto (tgt := 15) hx hb dL_mastOf_9 (by decide) ?_
  refine lv_iconst (v := 0) hx hb dL_mastOf_15 (by decide) ?_
  refine W.widen (k := (rm_L_mastOf).cells) (n := (rm_L_mastOf).slots) (Nat.le_of_ble_eq_true rfl) (Nat.le_of_ble_eq_true rfl) ?_
  exact k_xiret hx hb hr hlocks hK hw rfl dL_mastOf_16 (by first | rfl | assumption | (simp only [if_true, if_false, Bool.false_eq_true, Bool.true_eq_false, reduceIte, reduceCtorEq]; done) | (simp only [if_true, if_false, Bool.false_eq_true, Bool.true_eq_false, reduceIte, reduceCtorEq]; rfl) | (simp [if_true, if_false, Bool.false_eq_true, Bool.true_eq_false, reduceIte, reduceCtorEq]; done) | (simp [bI, ]; done)) rfl rfl
set_option maxHeartbeats 4000000 in
set_option maxRecDepth 100000 in
theorem c_L_mastOf_1 (l : Launch) (hflags : l.stackTraces = false) (E : Ev) (x : Nat) (A T B : Nat → Nat) (S U : CS) (G : HS) (p : Int32) (o : Nat) (f : Nat → Int64) (hT : t_sail G p = 1) : XI l E yL_mastOf wsL_mastOf rm_L_mastOf [.ref x, .int p, .ref o] (wX x A T B ++ wC E A (B 0) S ++ wC E T (B 0) U ++ wG E B G ++ [(o, aJ E 1 f)]) 0 1 (wX x A T B ++ wC E A (B 0) S ++ wC E T (B 0) U ++ wG E B G ++ [(o, aJ E 1 f)]) := by
  refine k_bXIH (cc := cL_mastOf) (maxL := 4) (ret := (some .int)) (by decide) rfl (Nat.le_of_ble_eq_true rfl) ?_
  intro p9 e s9 m args below meth c A9 ls hC ht9 hZ hl hw
  obtain ⟨hx, hb, hml, hr, hown, hts, hlocks, hK, hG, hA⟩ := hC
  have hq0 := hts (.classLink RL 21 "java/lang/IndexOutOfBoundsException") (List.mem_of_getElem? (i := 1) rfl)
  have hl : lv_has ls 4 [(0, .ref x), (1, .int p), (2, .ref o)] := hl
  refine lv_aload_n hx hb dL_mastOf_0 rfl (lv_at hl 2 rfl) ?_
  refine lv_iconst (v := 0) hx hb dL_mastOf_1 (by decide) ?_
  refine lv_aload_n hx hb dL_mastOf_2 rfl (lv_at hl 0 rfl) ?_
  refine lv_iload_n hx hb dL_mastOf_3 rfl (lv_at hl 1 rfl) ?_
  refine krx_i (ws' := wX x A T B ++ wC E A (B 0) S ++ wC E T (B 0) U ++ wG E B G ++ [(o, aJ E 1 f)]) (vx_runV (As := [.int p]) (rest := [.int 0, .ref o]) ⟨hx, hb, hml, hown, hts⟩ (c_X2_mastOf l hflags E x A T B S U G p  _) (cwV 1 hts gL_mastOf_X2_mastOf rfl rfl rfl ⟨rfl, hd_X2_mastOf⟩ ⟨Nat.le_of_ble_eq_true rfl, Nat.le_of_ble_eq_true rfl⟩) (pwV (ci := 2) (q0 := 0) (C := RX2) hw hK rfl rfl rfl (rpX (AV := [.ref x, .int p]) hw hK hG hZ hA rp_82)) rfl rfl hl.1 rfl (lv_room (Nat.le_of_ble_eq_true rfl)) dL_mastOf_4 ⟨Nat.le_of_ble_eq_true rfl, Nat.le_of_ble_eq_true rfl⟩) hw hA rp_82 rp_82 (fun H locs ce9 q9 t_1 hw hy1 hy2 hy3 => ?_) (fun H locs t_1 hw => absurd (t_1.symm.trans hT) (by decide))
  have hy3 : s9.vm.findClass "java/lang/IndexOutOfBoundsException" = some ce9.cls := by rw [hT] at hy3; exact hy3
  refine vx_catch hown [] ⟨0, 9, 12, 21⟩ [] (ht9.trans rfl) (fun z hz => absurd hz List.not_mem_nil) (by decide) (by decide) hq0 (va_Nw.use rfl (hG.nw 23 (w := .castable "java/lang/IndexOutOfBoundsException" "java/lang/IndexOutOfBoundsException") rfl)) hy1 hy2 hy3 ?_
  refine lv_astore_n (lv' := [(3, .ref q9), (0, .ref x), (1, .int p), (2, .ref o)]) hx hb dL_mastOf_12 rfl hl (by decide) rfl (fun ls hl => ?_)
  refine lv_iconst (v := 1) hx hb dL_mastOf_13 (by decide) ?_
  refine W.widen (k := (rm_L_mastOf).cells) (n := (rm_L_mastOf).slots) (Nat.le_of_ble_eq_true rfl) (Nat.le_of_ble_eq_true rfl) ?_
  exact k_xiret hx hb hr hlocks hK hw rfl dL_mastOf_14 (by first | rfl | assumption | (simp only [if_true, if_false, Bool.false_eq_true, Bool.true_eq_false, reduceIte, reduceCtorEq]; done) | (simp only [if_true, if_false, Bool.false_eq_true, Bool.true_eq_false, reduceIte, reduceCtorEq]; rfl) | (simp [if_true, if_false, Bool.false_eq_true, Bool.true_eq_false, reduceIte, reduceCtorEq]; done) | (simp [bI, ]; done)) rfl rfl
abbrev rm_L_hasVoter : Room := { frames := 8, cells := 1, slots := 6, locals := 132 }
set_option maxHeartbeats 4000000 in
set_option maxRecDepth 100000 in
theorem c_L_hasVoter (l : Launch) (hflags : l.stackTraces = false) (E : Ev) (x : Nat) (A T B : Nat → Nat) (S U : CS) (G : HS) (p : Int32) (o : Nat) (f : Nat → Int64) (hT : t_sail G p = 0) : XI l E yL_hasVoter wsL_hasVoter rm_L_hasVoter [.ref x, .int p, .ref o] (wX x A T B ++ wC E A (B 0) S ++ wC E T (B 0) U ++ wG E B G ++ [(o, aJ E 1 f)]) 0 0 (wX x A T B ++ wC E A (B 0) S ++ wC E T (B 0) U ++ wG E B G ++ [(o, aJ E 1 (vp_updL f 0 (if f_is 16 (g_vo G) p = true then 1 else 0)))]) := by
  refine k_bXIH (cc := cL_hasVoter) (maxL := 4) (ret := (some .int)) (by decide) rfl (Nat.le_of_ble_eq_true rfl) ?_
  intro p9 e s9 m args below meth c A9 ls hC ht9 hZ hl hw
  obtain ⟨hx, hb, hml, hr, hown, hts, hlocks, hK, hG, hA⟩ := hC
  have hl : lv_has ls 4 [(0, .ref x), (1, .int p), (2, .ref o)] := hl
  refine lv_aload_n hx hb dL_hasVoter_0 rfl (lv_at hl 2 rfl) ?_
  refine lv_iconst (v := 0) hx hb dL_hasVoter_1 (by decide) ?_
  refine lv_aload_n hx hb dL_hasVoter_2 rfl (lv_at hl 0 rfl) ?_
  refine lv_iload_n hx hb dL_hasVoter_3 rfl (lv_at hl 1 rfl) ?_
  refine krx_i (ws' := wX x A T B ++ wC E A (B 0) S ++ wC E T (B 0) U ++ wG E B G ++ [(o, aJ E 1 f)]) (vx_runV (As := [.int p]) (rest := [.int 0, .ref o]) ⟨hx, hb, hml, hown, hts⟩ (c_X2_hasVoter l hflags E x A T B S U G p  _) (cwV 1 hts gL_hasVoter_X2_hasVoter rfl rfl rfl ⟨rfl, hd_X2_hasVoter⟩ ⟨Nat.le_of_ble_eq_true rfl, Nat.le_of_ble_eq_true rfl⟩) (pwV (ci := 2) (q0 := 0) (C := RX2) hw hK rfl rfl rfl (rpX (AV := [.ref x, .int p]) hw hK hG hZ hA rp_82)) rfl rfl hl.1 rfl (lv_room (Nat.le_of_ble_eq_true rfl)) dL_hasVoter_4 ⟨Nat.le_of_ble_eq_true rfl, Nat.le_of_ble_eq_true rfl⟩) hw hA rp_82 rp_82 (fun H locs ce9 q9 t_1 hw hy1 hy2 hy3 => absurd hT t_1) (fun H locs t_1 hw => ?_)
  refine lv_if_eq (tgt := 14) hx hb dL_hasVoter_7 (by decide) (fun c_2 => ?_) (fun c_2 => ?_)
  · have c_2 := bI_z c_2
    refine lv_lconst (v := 0) hx hb dL_hasVoter_14 (by decide) ?_
    refine k_lst (ws' := wX x A T B ++ wC E A (B 0) S ++ wC E T (B 0) U ++ wG E B G ++ [(o, aJ E 1 (vp_updL f 0 0))]) hx hb hK hw 21 rfl (vp_in_nI (n := 0) (N := 1) (by decide) (by decide)) dL_hasVoter_15 rfl (fun H locs hw => ?_)
    refine lv_goto (tgt := 22) hx hb dL_hasVoter_16 (by decide) ?_
    refine lv_iconst (v := 0) hx hb dL_hasVoter_22 (by decide) ?_
    refine W.widen (k := (rm_L_hasVoter).cells) (n := (rm_L_hasVoter).slots) (Nat.le_of_ble_eq_true rfl) (Nat.le_of_ble_eq_true rfl) ?_
    exact k_xiret hx hb hr hlocks hK hw rfl dL_hasVoter_23 (by first | assumption | (simp only [c_2, if_true, if_false, Bool.false_eq_true, Bool.true_eq_false, reduceIte, reduceCtorEq]; done) | (simp only [c_2, if_true, if_false, Bool.false_eq_true, Bool.true_eq_false, reduceIte, reduceCtorEq]; rfl) | rfl | (simp [c_2, if_true, if_false, Bool.false_eq_true, Bool.true_eq_false, reduceIte, reduceCtorEq]; done) | (simp [bI, c_2]; done)) rfl (by first | assumption | (simp only [c_2, if_true, if_false, Bool.false_eq_true, Bool.true_eq_false, reduceIte, reduceCtorEq]; done) | (simp only [c_2, if_true, if_false, Bool.false_eq_true, Bool.true_eq_false, reduceIte, reduceCtorEq]; rfl) | rfl | (simp [c_2, if_true, if_false, Bool.false_eq_true, Bool.true_eq_false, reduceIte, reduceCtorEq]; done) | (simp [bI, c_2]; done))
  · have c_2 := bI_nz c_2
    refine lv_lconst (v := 1) hx hb dL_hasVoter_10 (by decide) ?_
    refine lv_goto (tgt := 15) hx hb dL_hasVoter_11 (by decide) ?_
    refine k_lst (ws' := wX x A T B ++ wC E A (B 0) S ++ wC E T (B 0) U ++ wG E B G ++ [(o, aJ E 1 (vp_updL f 0 1))]) hx hb hK hw 21 rfl (vp_in_nI (n := 0) (N := 1) (by decide) (by decide)) dL_hasVoter_15 rfl (fun H locs hw => ?_)
    refine lv_goto (tgt := 22) hx hb dL_hasVoter_16 (by decide) ?_
    refine lv_iconst (v := 0) hx hb dL_hasVoter_22 (by decide) ?_
    refine W.widen (k := (rm_L_hasVoter).cells) (n := (rm_L_hasVoter).slots) (Nat.le_of_ble_eq_true rfl) (Nat.le_of_ble_eq_true rfl) ?_
    exact k_xiret hx hb hr hlocks hK hw rfl dL_hasVoter_23 (by first | assumption | (simp only [c_2, if_true, if_false, Bool.false_eq_true, Bool.true_eq_false, reduceIte, reduceCtorEq]; done) | (simp only [c_2, if_true, if_false, Bool.false_eq_true, Bool.true_eq_false, reduceIte, reduceCtorEq]; rfl) | rfl | (simp [c_2, if_true, if_false, Bool.false_eq_true, Bool.true_eq_false, reduceIte, reduceCtorEq]; done) | (simp [bI, c_2]; done)) rfl (by first | assumption | (simp only [c_2, if_true, if_false, Bool.false_eq_true, Bool.true_eq_false, reduceIte, reduceCtorEq]; done) | (simp only [c_2, if_true, if_false, Bool.false_eq_true, Bool.true_eq_false, reduceIte, reduceCtorEq]; rfl) | rfl | (simp [c_2, if_true, if_false, Bool.false_eq_true, Bool.true_eq_false, reduceIte, reduceCtorEq]; done) | (simp [bI, c_2]; done))
set_option maxHeartbeats 4000000 in
set_option maxRecDepth 100000 in
theorem c_L_hasVoter_1 (l : Launch) (hflags : l.stackTraces = false) (E : Ev) (x : Nat) (A T B : Nat → Nat) (S U : CS) (G : HS) (p : Int32) (o : Nat) (f : Nat → Int64) (hT : t_sail G p = 1) : XI l E yL_hasVoter wsL_hasVoter rm_L_hasVoter [.ref x, .int p, .ref o] (wX x A T B ++ wC E A (B 0) S ++ wC E T (B 0) U ++ wG E B G ++ [(o, aJ E 1 f)]) 0 1 (wX x A T B ++ wC E A (B 0) S ++ wC E T (B 0) U ++ wG E B G ++ [(o, aJ E 1 f)]) := by
  refine k_bXIH (cc := cL_hasVoter) (maxL := 4) (ret := (some .int)) (by decide) rfl (Nat.le_of_ble_eq_true rfl) ?_
  intro p9 e s9 m args below meth c A9 ls hC ht9 hZ hl hw
  obtain ⟨hx, hb, hml, hr, hown, hts, hlocks, hK, hG, hA⟩ := hC
  have hq0 := hts (.classLink RL 21 "java/lang/IndexOutOfBoundsException") (List.mem_of_getElem? (i := 1) rfl)
  have hl : lv_has ls 4 [(0, .ref x), (1, .int p), (2, .ref o)] := hl
  refine lv_aload_n hx hb dL_hasVoter_0 rfl (lv_at hl 2 rfl) ?_
  refine lv_iconst (v := 0) hx hb dL_hasVoter_1 (by decide) ?_
  refine lv_aload_n hx hb dL_hasVoter_2 rfl (lv_at hl 0 rfl) ?_
  refine lv_iload_n hx hb dL_hasVoter_3 rfl (lv_at hl 1 rfl) ?_
  refine krx_i (ws' := wX x A T B ++ wC E A (B 0) S ++ wC E T (B 0) U ++ wG E B G ++ [(o, aJ E 1 f)]) (vx_runV (As := [.int p]) (rest := [.int 0, .ref o]) ⟨hx, hb, hml, hown, hts⟩ (c_X2_hasVoter l hflags E x A T B S U G p  _) (cwV 1 hts gL_hasVoter_X2_hasVoter rfl rfl rfl ⟨rfl, hd_X2_hasVoter⟩ ⟨Nat.le_of_ble_eq_true rfl, Nat.le_of_ble_eq_true rfl⟩) (pwV (ci := 2) (q0 := 0) (C := RX2) hw hK rfl rfl rfl (rpX (AV := [.ref x, .int p]) hw hK hG hZ hA rp_82)) rfl rfl hl.1 rfl (lv_room (Nat.le_of_ble_eq_true rfl)) dL_hasVoter_4 ⟨Nat.le_of_ble_eq_true rfl, Nat.le_of_ble_eq_true rfl⟩) hw hA rp_82 rp_82 (fun H locs ce9 q9 t_1 hw hy1 hy2 hy3 => ?_) (fun H locs t_1 hw => absurd (t_1.symm.trans hT) (by decide))
  have hy3 : s9.vm.findClass "java/lang/IndexOutOfBoundsException" = some ce9.cls := by rw [hT] at hy3; exact hy3
  refine vx_catch hown [] ⟨0, 16, 19, 21⟩ [] (ht9.trans rfl) (fun z hz => absurd hz List.not_mem_nil) (by decide) (by decide) hq0 (va_Nw.use rfl (hG.nw 23 (w := .castable "java/lang/IndexOutOfBoundsException" "java/lang/IndexOutOfBoundsException") rfl)) hy1 hy2 hy3 ?_
  refine lv_astore_n (lv' := [(3, .ref q9), (0, .ref x), (1, .int p), (2, .ref o)]) hx hb dL_hasVoter_19 rfl hl (by decide) rfl (fun ls hl => ?_)
  refine lv_iconst (v := 1) hx hb dL_hasVoter_20 (by decide) ?_
  refine W.widen (k := (rm_L_hasVoter).cells) (n := (rm_L_hasVoter).slots) (Nat.le_of_ble_eq_true rfl) (Nat.le_of_ble_eq_true rfl) ?_
  exact k_xiret hx hb hr hlocks hK hw rfl dL_hasVoter_21 (by first | rfl | assumption | (simp only [if_true, if_false, Bool.false_eq_true, Bool.true_eq_false, reduceIte, reduceCtorEq]; done) | (simp only [if_true, if_false, Bool.false_eq_true, Bool.true_eq_false, reduceIte, reduceCtorEq]; rfl) | (simp [if_true, if_false, Bool.false_eq_true, Bool.true_eq_false, reduceIte, reduceCtorEq]; done) | (simp [bI, ]; done)) rfl rfl
abbrev rm_L_isGivenUp : Room := { frames := 8, cells := 1, slots := 6, locals := 132 }
set_option maxHeartbeats 4000000 in
set_option maxRecDepth 100000 in
theorem c_L_isGivenUp (l : Launch) (hflags : l.stackTraces = false) (E : Ev) (x : Nat) (A T B : Nat → Nat) (S U : CS) (G : HS) (p : Int32) (o : Nat) (f : Nat → Int64) (hT : t_sail G p = 0) : XI l E yL_isGivenUp wsL_isGivenUp rm_L_isGivenUp [.ref x, .int p, .ref o] (wX x A T B ++ wC E A (B 0) S ++ wC E T (B 0) U ++ wG E B G ++ [(o, aJ E 1 f)]) 0 0 (wX x A T B ++ wC E A (B 0) S ++ wC E T (B 0) U ++ wG E B G ++ [(o, aJ E 1 (vp_updL f 0 (if f_is 16 (g_gi G) p = true then 1 else 0)))]) := by
  refine k_bXIH (cc := cL_isGivenUp) (maxL := 4) (ret := (some .int)) (by decide) rfl (Nat.le_of_ble_eq_true rfl) ?_
  intro p9 e s9 m args below meth c A9 ls hC ht9 hZ hl hw
  obtain ⟨hx, hb, hml, hr, hown, hts, hlocks, hK, hG, hA⟩ := hC
  have hl : lv_has ls 4 [(0, .ref x), (1, .int p), (2, .ref o)] := hl
  refine lv_aload_n hx hb dL_isGivenUp_0 rfl (lv_at hl 2 rfl) ?_
  refine lv_iconst (v := 0) hx hb dL_isGivenUp_1 (by decide) ?_
  refine lv_aload_n hx hb dL_isGivenUp_2 rfl (lv_at hl 0 rfl) ?_
  refine lv_iload_n hx hb dL_isGivenUp_3 rfl (lv_at hl 1 rfl) ?_
  refine krx_i (ws' := wX x A T B ++ wC E A (B 0) S ++ wC E T (B 0) U ++ wG E B G ++ [(o, aJ E 1 f)]) (vx_runV (As := [.int p]) (rest := [.int 0, .ref o]) ⟨hx, hb, hml, hown, hts⟩ (c_X2_isGivenUp l hflags E x A T B S U G p  _) (cwV 1 hts gL_isGivenUp_X2_isGivenUp rfl rfl rfl ⟨rfl, hd_X2_isGivenUp⟩ ⟨Nat.le_of_ble_eq_true rfl, Nat.le_of_ble_eq_true rfl⟩) (pwV (ci := 2) (q0 := 0) (C := RX2) hw hK rfl rfl rfl (rpX (AV := [.ref x, .int p]) hw hK hG hZ hA rp_82)) rfl rfl hl.1 rfl (lv_room (Nat.le_of_ble_eq_true rfl)) dL_isGivenUp_4 ⟨Nat.le_of_ble_eq_true rfl, Nat.le_of_ble_eq_true rfl⟩) hw hA rp_82 rp_82 (fun H locs ce9 q9 t_1 hw hy1 hy2 hy3 => absurd hT t_1) (fun H locs t_1 hw => ?_)
  refine lv_if_eq (tgt := 14) hx hb dL_isGivenUp_7 (by decide) (fun c_2 => ?_) (fun c_2 => ?_)
  · have c_2 := bI_z c_2
    refine lv_lconst (v := 0) hx hb dL_isGivenUp_14 (by decide) ?_
    refine k_lst (ws' := wX x A T B ++ wC E A (B 0) S ++ wC E T (B 0) U ++ wG E B G ++ [(o, aJ E 1 (vp_updL f 0 0))]) hx hb hK hw 21 rfl (vp_in_nI (n := 0) (N := 1) (by decide) (by decide)) dL_isGivenUp_15 rfl (fun H locs hw => ?_)
    refine lv_goto (tgt := 22) hx hb dL_isGivenUp_16 (by decide) ?_
    refine lv_iconst (v := 0) hx hb dL_isGivenUp_22 (by decide) ?_
    refine W.widen (k := (rm_L_isGivenUp).cells) (n := (rm_L_isGivenUp).slots) (Nat.le_of_ble_eq_true rfl) (Nat.le_of_ble_eq_true rfl) ?_
    exact k_xiret hx hb hr hlocks hK hw rfl dL_isGivenUp_23 (by first | assumption | (simp only [c_2, if_true, if_false, Bool.false_eq_true, Bool.true_eq_false, reduceIte, reduceCtorEq]; done) | (simp only [c_2, if_true, if_false, Bool.false_eq_true, Bool.true_eq_false, reduceIte, reduceCtorEq]; rfl) | rfl | (simp [c_2, if_true, if_false, Bool.false_eq_true, Bool.true_eq_false, reduceIte, reduceCtorEq]; done) | (simp [bI, c_2]; done)) rfl (by first | assumption | (simp only [c_2, if_true, if_false, Bool.false_eq_true, Bool.true_eq_false, reduceIte, reduceCtorEq]; done) | (simp only [c_2, if_true, if_false, Bool.false_eq_true, Bool.true_eq_false, reduceIte, reduceCtorEq]; rfl) | rfl | (simp [c_2, if_true, if_false, Bool.false_eq_true, Bool.true_eq_false, reduceIte, reduceCtorEq]; done) | (simp [bI, c_2]; done))
  · have c_2 := bI_nz c_2
    refine lv_lconst (v := 1) hx hb dL_isGivenUp_10 (by decide) ?_
    refine lv_goto (tgt := 15) hx hb dL_isGivenUp_11 (by decide) ?_
    refine k_lst (ws' := wX x A T B ++ wC E A (B 0) S ++ wC E T (B 0) U ++ wG E B G ++ [(o, aJ E 1 (vp_updL f 0 1))]) hx hb hK hw 21 rfl (vp_in_nI (n := 0) (N := 1) (by decide) (by decide)) dL_isGivenUp_15 rfl (fun H locs hw => ?_)
    refine lv_goto (tgt := 22) hx hb dL_isGivenUp_16 (by decide) ?_
    refine lv_iconst (v := 0) hx hb dL_isGivenUp_22 (by decide) ?_
    refine W.widen (k := (rm_L_isGivenUp).cells) (n := (rm_L_isGivenUp).slots) (Nat.le_of_ble_eq_true rfl) (Nat.le_of_ble_eq_true rfl) ?_
    exact k_xiret hx hb hr hlocks hK hw rfl dL_isGivenUp_23 (by first | assumption | (simp only [c_2, if_true, if_false, Bool.false_eq_true, Bool.true_eq_false, reduceIte, reduceCtorEq]; done) | (simp only [c_2, if_true, if_false, Bool.false_eq_true, Bool.true_eq_false, reduceIte, reduceCtorEq]; rfl) | rfl | (simp [c_2, if_true, if_false, Bool.false_eq_true, Bool.true_eq_false, reduceIte, reduceCtorEq]; done) | (simp [bI, c_2]; done)) rfl (by first | assumption | (simp only [c_2, if_true, if_false, Bool.false_eq_true, Bool.true_eq_false, reduceIte, reduceCtorEq]; done) | (simp only [c_2, if_true, if_false, Bool.false_eq_true, Bool.true_eq_false, reduceIte, reduceCtorEq]; rfl) | rfl | (simp [c_2, if_true, if_false, Bool.false_eq_true, Bool.true_eq_false, reduceIte, reduceCtorEq]; done) | (simp [bI, c_2]; done))
set_option maxHeartbeats 4000000 in
set_option maxRecDepth 100000 in
theorem c_L_isGivenUp_1 (l : Launch) (hflags : l.stackTraces = false) (E : Ev) (x : Nat) (A T B : Nat → Nat) (S U : CS) (G : HS) (p : Int32) (o : Nat) (f : Nat → Int64) (hT : t_sail G p = 1) : XI l E yL_isGivenUp wsL_isGivenUp rm_L_isGivenUp [.ref x, .int p, .ref o] (wX x A T B ++ wC E A (B 0) S ++ wC E T (B 0) U ++ wG E B G ++ [(o, aJ E 1 f)]) 0 1 (wX x A T B ++ wC E A (B 0) S ++ wC E T (B 0) U ++ wG E B G ++ [(o, aJ E 1 f)]) := by
  refine k_bXIH (cc := cL_isGivenUp) (maxL := 4) (ret := (some .int)) (by decide) rfl (Nat.le_of_ble_eq_true rfl) ?_
  intro p9 e s9 m args below meth c A9 ls hC ht9 hZ hl hw
  obtain ⟨hx, hb, hml, hr, hown, hts, hlocks, hK, hG, hA⟩ := hC
  have hq0 := hts (.classLink RL 21 "java/lang/IndexOutOfBoundsException") (List.mem_of_getElem? (i := 1) rfl)
  have hl : lv_has ls 4 [(0, .ref x), (1, .int p), (2, .ref o)] := hl
  refine lv_aload_n hx hb dL_isGivenUp_0 rfl (lv_at hl 2 rfl) ?_
  refine lv_iconst (v := 0) hx hb dL_isGivenUp_1 (by decide) ?_
  refine lv_aload_n hx hb dL_isGivenUp_2 rfl (lv_at hl 0 rfl) ?_
  refine lv_iload_n hx hb dL_isGivenUp_3 rfl (lv_at hl 1 rfl) ?_
  refine krx_i (ws' := wX x A T B ++ wC E A (B 0) S ++ wC E T (B 0) U ++ wG E B G ++ [(o, aJ E 1 f)]) (vx_runV (As := [.int p]) (rest := [.int 0, .ref o]) ⟨hx, hb, hml, hown, hts⟩ (c_X2_isGivenUp l hflags E x A T B S U G p  _) (cwV 1 hts gL_isGivenUp_X2_isGivenUp rfl rfl rfl ⟨rfl, hd_X2_isGivenUp⟩ ⟨Nat.le_of_ble_eq_true rfl, Nat.le_of_ble_eq_true rfl⟩) (pwV (ci := 2) (q0 := 0) (C := RX2) hw hK rfl rfl rfl (rpX (AV := [.ref x, .int p]) hw hK hG hZ hA rp_82)) rfl rfl hl.1 rfl (lv_room (Nat.le_of_ble_eq_true rfl)) dL_isGivenUp_4 ⟨Nat.le_of_ble_eq_true rfl, Nat.le_of_ble_eq_true rfl⟩) hw hA rp_82 rp_82 (fun H locs ce9 q9 t_1 hw hy1 hy2 hy3 => ?_) (fun H locs t_1 hw => absurd (t_1.symm.trans hT) (by decide))
  have hy3 : s9.vm.findClass "java/lang/IndexOutOfBoundsException" = some ce9.cls := by rw [hT] at hy3; exact hy3
  refine vx_catch hown [] ⟨0, 16, 19, 21⟩ [] (ht9.trans rfl) (fun z hz => absurd hz List.not_mem_nil) (by decide) (by decide) hq0 (va_Nw.use rfl (hG.nw 23 (w := .castable "java/lang/IndexOutOfBoundsException" "java/lang/IndexOutOfBoundsException") rfl)) hy1 hy2 hy3 ?_
  refine lv_astore_n (lv' := [(3, .ref q9), (0, .ref x), (1, .int p), (2, .ref o)]) hx hb dL_isGivenUp_19 rfl hl (by decide) rfl (fun ls hl => ?_)
  refine lv_iconst (v := 1) hx hb dL_isGivenUp_20 (by decide) ?_
  refine W.widen (k := (rm_L_isGivenUp).cells) (n := (rm_L_isGivenUp).slots) (Nat.le_of_ble_eq_true rfl) (Nat.le_of_ble_eq_true rfl) ?_
  exact k_xiret hx hb hr hlocks hK hw rfl dL_isGivenUp_21 (by first | rfl | assumption | (simp only [if_true, if_false, Bool.false_eq_true, Bool.true_eq_false, reduceIte, reduceCtorEq]; done) | (simp only [if_true, if_false, Bool.false_eq_true, Bool.true_eq_false, reduceIte, reduceCtorEq]; rfl) | (simp [if_true, if_false, Bool.false_eq_true, Bool.true_eq_false, reduceIte, reduceCtorEq]; done) | (simp [bI, ]; done)) rfl rfl
abbrev rm_L_candleOf : Room := { frames := 8, cells := 1, slots := 6, locals := 132 }
set_option maxHeartbeats 4000000 in
set_option maxRecDepth 100000 in
theorem c_L_candleOf (l : Launch) (hflags : l.stackTraces = false) (E : Ev) (x : Nat) (A T B : Nat → Nat) (S U : CS) (G : HS) (p : Int32) (o : Nat) (f : Nat → Int64) (hT : t_sail G p = 0) : XI l E yL_candleOf wsL_candleOf rm_L_candleOf [.ref x, .int p, .ref o] (wX x A T B ++ wC E A (B 0) S ++ wC E T (B 0) U ++ wG E B G ++ [(o, aJ E 1 f)]) 0 0 (wX x A T B ++ wC E A (B 0) S ++ wC E T (B 0) U ++ wG E B G ++ [(o, aJ E 1 (vp_updL f 0 ((f_at 16 (c_ca S) p : Int32).toInt64)))]) := by
  refine k_bXIH (cc := cL_candleOf) (maxL := 4) (ret := (some .int)) (by decide) rfl (Nat.le_of_ble_eq_true rfl) ?_
  intro p9 e s9 m args below meth c A9 ls hC ht9 hZ hl hw
  obtain ⟨hx, hb, hml, hr, hown, hts, hlocks, hK, hG, hA⟩ := hC
  have hl : lv_has ls 4 [(0, .ref x), (1, .int p), (2, .ref o)] := hl
  refine lv_aload_n hx hb dL_candleOf_0 rfl (lv_at hl 2 rfl) ?_
  refine lv_iconst (v := 0) hx hb dL_candleOf_1 (by decide) ?_
  refine lv_aload_n hx hb dL_candleOf_2 rfl (lv_at hl 0 rfl) ?_
  refine lv_iload_n hx hb dL_candleOf_3 rfl (lv_at hl 1 rfl) ?_
  refine krx_i (ws' := wX x A T B ++ wC E A (B 0) S ++ wC E T (B 0) U ++ wG E B G ++ [(o, aJ E 1 f)]) (vx_runV (As := [.int p]) (rest := [.int 0, .ref o]) ⟨hx, hb, hml, hown, hts⟩ (c_X2_candleOf l hflags E x A T B S U G p  _) (cwV 1 hts gL_candleOf_X2_candleOf rfl rfl rfl ⟨rfl, hd_X2_candleOf⟩ ⟨Nat.le_of_ble_eq_true rfl, Nat.le_of_ble_eq_true rfl⟩) (pwV (ci := 2) (q0 := 0) (C := RX2) hw hK rfl rfl rfl (rpX (AV := [.ref x, .int p]) hw hK hG hZ hA rp_82)) rfl rfl hl.1 rfl (lv_room (Nat.le_of_ble_eq_true rfl)) dL_candleOf_4 ⟨Nat.le_of_ble_eq_true rfl, Nat.le_of_ble_eq_true rfl⟩) hw hA rp_82 rp_82 (fun H locs ce9 q9 t_1 hw hy1 hy2 hy3 => absurd hT t_1) (fun H locs t_1 hw => ?_)
  refine lv_i2l (v := (f_at 16 (c_ca S) p : Int32).toInt64) hx hb dL_candleOf_7 rfl ?_
  refine k_lst (ws' := wX x A T B ++ wC E A (B 0) S ++ wC E T (B 0) U ++ wG E B G ++ [(o, aJ E 1 (vp_updL f 0 ((f_at 16 (c_ca S) p : Int32).toInt64)))]) hx hb hK hw 21 rfl (vp_in_nI (n := 0) (N := 1) (by decide) (by decide)) dL_candleOf_8 rfl (fun H locs hw => ?_)
  refine lv_goto (tgt := 15) hx hb dL_candleOf_9 (by decide) ?_
  refine lv_iconst (v := 0) hx hb dL_candleOf_15 (by decide) ?_
  refine W.widen (k := (rm_L_candleOf).cells) (n := (rm_L_candleOf).slots) (Nat.le_of_ble_eq_true rfl) (Nat.le_of_ble_eq_true rfl) ?_
  exact k_xiret hx hb hr hlocks hK hw rfl dL_candleOf_16 (by first | rfl | assumption | (simp only [if_true, if_false, Bool.false_eq_true, Bool.true_eq_false, reduceIte, reduceCtorEq]; done) | (simp only [if_true, if_false, Bool.false_eq_true, Bool.true_eq_false, reduceIte, reduceCtorEq]; rfl) | (simp [if_true, if_false, Bool.false_eq_true, Bool.true_eq_false, reduceIte, reduceCtorEq]; done) | (simp [bI, ]; done)) rfl rfl
set_option maxHeartbeats 4000000 in
set_option maxRecDepth 100000 in
theorem c_L_candleOf_1 (l : Launch) (hflags : l.stackTraces = false) (E : Ev) (x : Nat) (A T B : Nat → Nat) (S U : CS) (G : HS) (p : Int32) (o : Nat) (f : Nat → Int64) (hT : t_sail G p = 1) : XI l E yL_candleOf wsL_candleOf rm_L_candleOf [.ref x, .int p, .ref o] (wX x A T B ++ wC E A (B 0) S ++ wC E T (B 0) U ++ wG E B G ++ [(o, aJ E 1 f)]) 0 1 (wX x A T B ++ wC E A (B 0) S ++ wC E T (B 0) U ++ wG E B G ++ [(o, aJ E 1 f)]) := by
  refine k_bXIH (cc := cL_candleOf) (maxL := 4) (ret := (some .int)) (by decide) rfl (Nat.le_of_ble_eq_true rfl) ?_
  intro p9 e s9 m args below meth c A9 ls hC ht9 hZ hl hw
  obtain ⟨hx, hb, hml, hr, hown, hts, hlocks, hK, hG, hA⟩ := hC
  have hq0 := hts (.classLink RL 21 "java/lang/IndexOutOfBoundsException") (List.mem_of_getElem? (i := 1) rfl)
  have hl : lv_has ls 4 [(0, .ref x), (1, .int p), (2, .ref o)] := hl
  refine lv_aload_n hx hb dL_candleOf_0 rfl (lv_at hl 2 rfl) ?_
  refine lv_iconst (v := 0) hx hb dL_candleOf_1 (by decide) ?_
  refine lv_aload_n hx hb dL_candleOf_2 rfl (lv_at hl 0 rfl) ?_
  refine lv_iload_n hx hb dL_candleOf_3 rfl (lv_at hl 1 rfl) ?_
  refine krx_i (ws' := wX x A T B ++ wC E A (B 0) S ++ wC E T (B 0) U ++ wG E B G ++ [(o, aJ E 1 f)]) (vx_runV (As := [.int p]) (rest := [.int 0, .ref o]) ⟨hx, hb, hml, hown, hts⟩ (c_X2_candleOf l hflags E x A T B S U G p  _) (cwV 1 hts gL_candleOf_X2_candleOf rfl rfl rfl ⟨rfl, hd_X2_candleOf⟩ ⟨Nat.le_of_ble_eq_true rfl, Nat.le_of_ble_eq_true rfl⟩) (pwV (ci := 2) (q0 := 0) (C := RX2) hw hK rfl rfl rfl (rpX (AV := [.ref x, .int p]) hw hK hG hZ hA rp_82)) rfl rfl hl.1 rfl (lv_room (Nat.le_of_ble_eq_true rfl)) dL_candleOf_4 ⟨Nat.le_of_ble_eq_true rfl, Nat.le_of_ble_eq_true rfl⟩) hw hA rp_82 rp_82 (fun H locs ce9 q9 t_1 hw hy1 hy2 hy3 => ?_) (fun H locs t_1 hw => absurd (t_1.symm.trans hT) (by decide))
  have hy3 : s9.vm.findClass "java/lang/IndexOutOfBoundsException" = some ce9.cls := by rw [hT] at hy3; exact hy3
  refine vx_catch hown [] ⟨0, 9, 12, 21⟩ [] (ht9.trans rfl) (fun z hz => absurd hz List.not_mem_nil) (by decide) (by decide) hq0 (va_Nw.use rfl (hG.nw 23 (w := .castable "java/lang/IndexOutOfBoundsException" "java/lang/IndexOutOfBoundsException") rfl)) hy1 hy2 hy3 ?_
  refine lv_astore_n (lv' := [(3, .ref q9), (0, .ref x), (1, .int p), (2, .ref o)]) hx hb dL_candleOf_12 rfl hl (by decide) rfl (fun ls hl => ?_)
  refine lv_iconst (v := 1) hx hb dL_candleOf_13 (by decide) ?_
  refine W.widen (k := (rm_L_candleOf).cells) (n := (rm_L_candleOf).slots) (Nat.le_of_ble_eq_true rfl) (Nat.le_of_ble_eq_true rfl) ?_
  exact k_xiret hx hb hr hlocks hK hw rfl dL_candleOf_14 (by first | rfl | assumption | (simp only [if_true, if_false, Bool.false_eq_true, Bool.true_eq_false, reduceIte, reduceCtorEq]; done) | (simp only [if_true, if_false, Bool.false_eq_true, Bool.true_eq_false, reduceIte, reduceCtorEq]; rfl) | (simp [if_true, if_false, Bool.false_eq_true, Bool.true_eq_false, reduceIte, reduceCtorEq]; done) | (simp [bI, ]; done)) rfl rfl
abbrev rm_L_isDark : Room := { frames := 8, cells := 1, slots := 6, locals := 132 }
set_option maxHeartbeats 4000000 in
set_option maxRecDepth 100000 in
theorem c_L_isDark (l : Launch) (hflags : l.stackTraces = false) (E : Ev) (x : Nat) (A T B : Nat → Nat) (S U : CS) (G : HS) (p : Int32) (o : Nat) (f : Nat → Int64) (hT : t_sail G p = 0) : XI l E yL_isDark wsL_isDark rm_L_isDark [.ref x, .int p, .ref o] (wX x A T B ++ wC E A (B 0) S ++ wC E T (B 0) U ++ wG E B G ++ [(o, aJ E 1 f)]) 0 0 (wX x A T B ++ wC E A (B 0) S ++ wC E T (B 0) U ++ wG E B G ++ [(o, aJ E 1 (vp_updL f 0 (if f_dark G S p = true then 1 else 0)))]) := by
  refine k_bXIH (cc := cL_isDark) (maxL := 4) (ret := (some .int)) (by decide) rfl (Nat.le_of_ble_eq_true rfl) ?_
  intro p9 e s9 m args below meth c A9 ls hC ht9 hZ hl hw
  obtain ⟨hx, hb, hml, hr, hown, hts, hlocks, hK, hG, hA⟩ := hC
  have hl : lv_has ls 4 [(0, .ref x), (1, .int p), (2, .ref o)] := hl
  refine lv_aload_n hx hb dL_isDark_0 rfl (lv_at hl 2 rfl) ?_
  refine lv_iconst (v := 0) hx hb dL_isDark_1 (by decide) ?_
  refine lv_aload_n hx hb dL_isDark_2 rfl (lv_at hl 0 rfl) ?_
  refine lv_iload_n hx hb dL_isDark_3 rfl (lv_at hl 1 rfl) ?_
  refine krx_i (ws' := wX x A T B ++ wC E A (B 0) S ++ wC E T (B 0) U ++ wG E B G ++ [(o, aJ E 1 f)]) (vx_runV (As := [.int p]) (rest := [.int 0, .ref o]) ⟨hx, hb, hml, hown, hts⟩ (c_X2_isDark l hflags E x A T B S U G p  _) (cwV 1 hts gL_isDark_X2_isDark rfl rfl rfl ⟨rfl, hd_X2_isDark⟩ ⟨Nat.le_of_ble_eq_true rfl, Nat.le_of_ble_eq_true rfl⟩) (pwV (ci := 2) (q0 := 0) (C := RX2) hw hK rfl rfl rfl (rpX (AV := [.ref x, .int p]) hw hK hG hZ hA rp_82)) rfl rfl hl.1 rfl (lv_room (Nat.le_of_ble_eq_true rfl)) dL_isDark_4 ⟨Nat.le_of_ble_eq_true rfl, Nat.le_of_ble_eq_true rfl⟩) hw hA rp_82 rp_82 (fun H locs ce9 q9 t_1 hw hy1 hy2 hy3 => absurd hT t_1) (fun H locs t_1 hw => ?_)
  refine lv_if_eq (tgt := 14) hx hb dL_isDark_7 (by decide) (fun c_2 => ?_) (fun c_2 => ?_)
  · have c_2 := bI_z c_2
    refine lv_lconst (v := 0) hx hb dL_isDark_14 (by decide) ?_
    refine k_lst (ws' := wX x A T B ++ wC E A (B 0) S ++ wC E T (B 0) U ++ wG E B G ++ [(o, aJ E 1 (vp_updL f 0 0))]) hx hb hK hw 21 rfl (vp_in_nI (n := 0) (N := 1) (by decide) (by decide)) dL_isDark_15 rfl (fun H locs hw => ?_)
    refine lv_goto (tgt := 22) hx hb dL_isDark_16 (by decide) ?_
    refine lv_iconst (v := 0) hx hb dL_isDark_22 (by decide) ?_
    refine W.widen (k := (rm_L_isDark).cells) (n := (rm_L_isDark).slots) (Nat.le_of_ble_eq_true rfl) (Nat.le_of_ble_eq_true rfl) ?_
    exact k_xiret hx hb hr hlocks hK hw rfl dL_isDark_23 (by first | assumption | (simp only [c_2, if_true, if_false, Bool.false_eq_true, Bool.true_eq_false, reduceIte, reduceCtorEq]; done) | (simp only [c_2, if_true, if_false, Bool.false_eq_true, Bool.true_eq_false, reduceIte, reduceCtorEq]; rfl) | rfl | (simp [c_2, if_true, if_false, Bool.false_eq_true, Bool.true_eq_false, reduceIte, reduceCtorEq]; done) | (simp [bI, c_2]; done)) rfl (by first | assumption | (simp only [c_2, if_true, if_false, Bool.false_eq_true, Bool.true_eq_false, reduceIte, reduceCtorEq]; done) | (simp only [c_2, if_true, if_false, Bool.false_eq_true, Bool.true_eq_false, reduceIte, reduceCtorEq]; rfl) | rfl | (simp [c_2, if_true, if_false, Bool.false_eq_true, Bool.true_eq_false, reduceIte, reduceCtorEq]; done) | (simp [bI, c_2]; done))
  · have c_2 := bI_nz c_2
    refine lv_lconst (v := 1) hx hb dL_isDark_10 (by decide) ?_
    refine lv_goto (tgt := 15) hx hb dL_isDark_11 (by decide) ?_
    refine k_lst (ws' := wX x A T B ++ wC E A (B 0) S ++ wC E T (B 0) U ++ wG E B G ++ [(o, aJ E 1 (vp_updL f 0 1))]) hx hb hK hw 21 rfl (vp_in_nI (n := 0) (N := 1) (by decide) (by decide)) dL_isDark_15 rfl (fun H locs hw => ?_)
    refine lv_goto (tgt := 22) hx hb dL_isDark_16 (by decide) ?_
    refine lv_iconst (v := 0) hx hb dL_isDark_22 (by decide) ?_
    refine W.widen (k := (rm_L_isDark).cells) (n := (rm_L_isDark).slots) (Nat.le_of_ble_eq_true rfl) (Nat.le_of_ble_eq_true rfl) ?_
    exact k_xiret hx hb hr hlocks hK hw rfl dL_isDark_23 (by first | assumption | (simp only [c_2, if_true, if_false, Bool.false_eq_true, Bool.true_eq_false, reduceIte, reduceCtorEq]; done) | (simp only [c_2, if_true, if_false, Bool.false_eq_true, Bool.true_eq_false, reduceIte, reduceCtorEq]; rfl) | rfl | (simp [c_2, if_true, if_false, Bool.false_eq_true, Bool.true_eq_false, reduceIte, reduceCtorEq]; done) | (simp [bI, c_2]; done)) rfl (by first | assumption | (simp only [c_2, if_true, if_false, Bool.false_eq_true, Bool.true_eq_false, reduceIte, reduceCtorEq]; done) | (simp only [c_2, if_true, if_false, Bool.false_eq_true, Bool.true_eq_false, reduceIte, reduceCtorEq]; rfl) | rfl | (simp [c_2, if_true, if_false, Bool.false_eq_true, Bool.true_eq_false, reduceIte, reduceCtorEq]; done) | (simp [bI, c_2]; done))
set_option maxHeartbeats 4000000 in
set_option maxRecDepth 100000 in
theorem c_L_isDark_1 (l : Launch) (hflags : l.stackTraces = false) (E : Ev) (x : Nat) (A T B : Nat → Nat) (S U : CS) (G : HS) (p : Int32) (o : Nat) (f : Nat → Int64) (hT : t_sail G p = 1) : XI l E yL_isDark wsL_isDark rm_L_isDark [.ref x, .int p, .ref o] (wX x A T B ++ wC E A (B 0) S ++ wC E T (B 0) U ++ wG E B G ++ [(o, aJ E 1 f)]) 0 1 (wX x A T B ++ wC E A (B 0) S ++ wC E T (B 0) U ++ wG E B G ++ [(o, aJ E 1 f)]) := by
  refine k_bXIH (cc := cL_isDark) (maxL := 4) (ret := (some .int)) (by decide) rfl (Nat.le_of_ble_eq_true rfl) ?_
  intro p9 e s9 m args below meth c A9 ls hC ht9 hZ hl hw
  obtain ⟨hx, hb, hml, hr, hown, hts, hlocks, hK, hG, hA⟩ := hC
  have hq0 := hts (.classLink RL 21 "java/lang/IndexOutOfBoundsException") (List.mem_of_getElem? (i := 1) rfl)
  have hl : lv_has ls 4 [(0, .ref x), (1, .int p), (2, .ref o)] := hl
  refine lv_aload_n hx hb dL_isDark_0 rfl (lv_at hl 2 rfl) ?_
  refine lv_iconst (v := 0) hx hb dL_isDark_1 (by decide) ?_
  refine lv_aload_n hx hb dL_isDark_2 rfl (lv_at hl 0 rfl) ?_
  refine lv_iload_n hx hb dL_isDark_3 rfl (lv_at hl 1 rfl) ?_
  refine krx_i (ws' := wX x A T B ++ wC E A (B 0) S ++ wC E T (B 0) U ++ wG E B G ++ [(o, aJ E 1 f)]) (vx_runV (As := [.int p]) (rest := [.int 0, .ref o]) ⟨hx, hb, hml, hown, hts⟩ (c_X2_isDark l hflags E x A T B S U G p  _) (cwV 1 hts gL_isDark_X2_isDark rfl rfl rfl ⟨rfl, hd_X2_isDark⟩ ⟨Nat.le_of_ble_eq_true rfl, Nat.le_of_ble_eq_true rfl⟩) (pwV (ci := 2) (q0 := 0) (C := RX2) hw hK rfl rfl rfl (rpX (AV := [.ref x, .int p]) hw hK hG hZ hA rp_82)) rfl rfl hl.1 rfl (lv_room (Nat.le_of_ble_eq_true rfl)) dL_isDark_4 ⟨Nat.le_of_ble_eq_true rfl, Nat.le_of_ble_eq_true rfl⟩) hw hA rp_82 rp_82 (fun H locs ce9 q9 t_1 hw hy1 hy2 hy3 => ?_) (fun H locs t_1 hw => absurd (t_1.symm.trans hT) (by decide))
  have hy3 : s9.vm.findClass "java/lang/IndexOutOfBoundsException" = some ce9.cls := by rw [hT] at hy3; exact hy3
  refine vx_catch hown [] ⟨0, 16, 19, 21⟩ [] (ht9.trans rfl) (fun z hz => absurd hz List.not_mem_nil) (by decide) (by decide) hq0 (va_Nw.use rfl (hG.nw 23 (w := .castable "java/lang/IndexOutOfBoundsException" "java/lang/IndexOutOfBoundsException") rfl)) hy1 hy2 hy3 ?_
  refine lv_astore_n (lv' := [(3, .ref q9), (0, .ref x), (1, .int p), (2, .ref o)]) hx hb dL_isDark_19 rfl hl (by decide) rfl (fun ls hl => ?_)
  refine lv_iconst (v := 1) hx hb dL_isDark_20 (by decide) ?_
  refine W.widen (k := (rm_L_isDark).cells) (n := (rm_L_isDark).slots) (Nat.le_of_ble_eq_true rfl) (Nat.le_of_ble_eq_true rfl) ?_
  exact k_xiret hx hb hr hlocks hK hw rfl dL_isDark_21 (by first | rfl | assumption | (simp only [if_true, if_false, Bool.false_eq_true, Bool.true_eq_false, reduceIte, reduceCtorEq]; done) | (simp only [if_true, if_false, Bool.false_eq_true, Bool.true_eq_false, reduceIte, reduceCtorEq]; rfl) | (simp [if_true, if_false, Bool.false_eq_true, Bool.true_eq_false, reduceIte, reduceCtorEq]; done) | (simp [bI, ]; done)) rfl rfl
abbrev rm_L_trustOf : Room := { frames := 8, cells := 1, slots := 6, locals := 132 }
set_option maxHeartbeats 4000000 in
set_option maxRecDepth 100000 in
theorem c_L_trustOf (l : Launch) (hflags : l.stackTraces = false) (E : Ev) (x : Nat) (A T B : Nat → Nat) (S U : CS) (G : HS) (w : Int32) (o : Nat) (f : Nat → Int64) (hT : t_wat G w = 0) : XI l E yL_trustOf wsL_trustOf rm_L_trustOf [.ref x, .int w, .ref o] (wX x A T B ++ wC E A (B 0) S ++ wC E T (B 0) U ++ wG E B G ++ [(o, aJ E 1 f)]) 0 0 (wX x A T B ++ wC E A (B 0) S ++ wC E T (B 0) U ++ wG E B G ++ [(o, aJ E 1 (vp_updL f 0 ((f_at 4 (c_tr S) w : Int32).toInt64)))]) := by
  refine k_bXIH (cc := cL_trustOf) (maxL := 4) (ret := (some .int)) (by decide) rfl (Nat.le_of_ble_eq_true rfl) ?_
  intro p9 e s9 m args below meth c A9 ls hC ht9 hZ hl hw
  obtain ⟨hx, hb, hml, hr, hown, hts, hlocks, hK, hG, hA⟩ := hC
  have hl : lv_has ls 4 [(0, .ref x), (1, .int w), (2, .ref o)] := hl
  refine lv_aload_n hx hb dL_trustOf_0 rfl (lv_at hl 2 rfl) ?_
  refine lv_iconst (v := 0) hx hb dL_trustOf_1 (by decide) ?_
  refine lv_aload_n hx hb dL_trustOf_2 rfl (lv_at hl 0 rfl) ?_
  refine lv_iload_n hx hb dL_trustOf_3 rfl (lv_at hl 1 rfl) ?_
  refine krx_i (ws' := wX x A T B ++ wC E A (B 0) S ++ wC E T (B 0) U ++ wG E B G ++ [(o, aJ E 1 f)]) (vx_runV (As := [.int w]) (rest := [.int 0, .ref o]) ⟨hx, hb, hml, hown, hts⟩ (c_X2_trustOf l hflags E x A T B S U G w  _) (cwV 1 hts gL_trustOf_X2_trustOf rfl rfl rfl ⟨rfl, hd_X2_trustOf⟩ ⟨Nat.le_of_ble_eq_true rfl, Nat.le_of_ble_eq_true rfl⟩) (pwV (ci := 2) (q0 := 0) (C := RX2) hw hK rfl rfl rfl (rpX (AV := [.ref x, .int w]) hw hK hG hZ hA rp_82)) rfl rfl hl.1 rfl (lv_room (Nat.le_of_ble_eq_true rfl)) dL_trustOf_4 ⟨Nat.le_of_ble_eq_true rfl, Nat.le_of_ble_eq_true rfl⟩) hw hA rp_82 rp_82 (fun H locs ce9 q9 t_1 hw hy1 hy2 hy3 => absurd hT t_1) (fun H locs t_1 hw => ?_)
  refine lv_i2l (v := (f_at 4 (c_tr S) w : Int32).toInt64) hx hb dL_trustOf_7 rfl ?_
  refine k_lst (ws' := wX x A T B ++ wC E A (B 0) S ++ wC E T (B 0) U ++ wG E B G ++ [(o, aJ E 1 (vp_updL f 0 ((f_at 4 (c_tr S) w : Int32).toInt64)))]) hx hb hK hw 21 rfl (vp_in_nI (n := 0) (N := 1) (by decide) (by decide)) dL_trustOf_8 rfl (fun H locs hw => ?_)
  refine lv_goto (tgt := 15) hx hb dL_trustOf_9 (by decide) ?_
  refine lv_iconst (v := 0) hx hb dL_trustOf_15 (by decide) ?_
  refine W.widen (k := (rm_L_trustOf).cells) (n := (rm_L_trustOf).slots) (Nat.le_of_ble_eq_true rfl) (Nat.le_of_ble_eq_true rfl) ?_
  exact k_xiret hx hb hr hlocks hK hw rfl dL_trustOf_16 (by first | rfl | assumption | (simp only [if_true, if_false, Bool.false_eq_true, Bool.true_eq_false, reduceIte, reduceCtorEq]; done) | (simp only [if_true, if_false, Bool.false_eq_true, Bool.true_eq_false, reduceIte, reduceCtorEq]; rfl) | (simp [if_true, if_false, Bool.false_eq_true, Bool.true_eq_false, reduceIte, reduceCtorEq]; done) | (simp [bI, ]; done)) rfl rfl
set_option maxHeartbeats 4000000 in
set_option maxRecDepth 100000 in
theorem c_L_trustOf_1 (l : Launch) (hflags : l.stackTraces = false) (E : Ev) (x : Nat) (A T B : Nat → Nat) (S U : CS) (G : HS) (w : Int32) (o : Nat) (f : Nat → Int64) (hT : t_wat G w = 1) : XI l E yL_trustOf wsL_trustOf rm_L_trustOf [.ref x, .int w, .ref o] (wX x A T B ++ wC E A (B 0) S ++ wC E T (B 0) U ++ wG E B G ++ [(o, aJ E 1 f)]) 0 1 (wX x A T B ++ wC E A (B 0) S ++ wC E T (B 0) U ++ wG E B G ++ [(o, aJ E 1 f)]) := by
  refine k_bXIH (cc := cL_trustOf) (maxL := 4) (ret := (some .int)) (by decide) rfl (Nat.le_of_ble_eq_true rfl) ?_
  intro p9 e s9 m args below meth c A9 ls hC ht9 hZ hl hw
  obtain ⟨hx, hb, hml, hr, hown, hts, hlocks, hK, hG, hA⟩ := hC
  have hq0 := hts (.classLink RL 21 "java/lang/IndexOutOfBoundsException") (List.mem_of_getElem? (i := 1) rfl)
  have hl : lv_has ls 4 [(0, .ref x), (1, .int w), (2, .ref o)] := hl
  refine lv_aload_n hx hb dL_trustOf_0 rfl (lv_at hl 2 rfl) ?_
  refine lv_iconst (v := 0) hx hb dL_trustOf_1 (by decide) ?_
  refine lv_aload_n hx hb dL_trustOf_2 rfl (lv_at hl 0 rfl) ?_
  refine lv_iload_n hx hb dL_trustOf_3 rfl (lv_at hl 1 rfl) ?_
  refine krx_i (ws' := wX x A T B ++ wC E A (B 0) S ++ wC E T (B 0) U ++ wG E B G ++ [(o, aJ E 1 f)]) (vx_runV (As := [.int w]) (rest := [.int 0, .ref o]) ⟨hx, hb, hml, hown, hts⟩ (c_X2_trustOf l hflags E x A T B S U G w  _) (cwV 1 hts gL_trustOf_X2_trustOf rfl rfl rfl ⟨rfl, hd_X2_trustOf⟩ ⟨Nat.le_of_ble_eq_true rfl, Nat.le_of_ble_eq_true rfl⟩) (pwV (ci := 2) (q0 := 0) (C := RX2) hw hK rfl rfl rfl (rpX (AV := [.ref x, .int w]) hw hK hG hZ hA rp_82)) rfl rfl hl.1 rfl (lv_room (Nat.le_of_ble_eq_true rfl)) dL_trustOf_4 ⟨Nat.le_of_ble_eq_true rfl, Nat.le_of_ble_eq_true rfl⟩) hw hA rp_82 rp_82 (fun H locs ce9 q9 t_1 hw hy1 hy2 hy3 => ?_) (fun H locs t_1 hw => absurd (t_1.symm.trans hT) (by decide))
  have hy3 : s9.vm.findClass "java/lang/IndexOutOfBoundsException" = some ce9.cls := by rw [hT] at hy3; exact hy3
  refine vx_catch hown [] ⟨0, 9, 12, 21⟩ [] (ht9.trans rfl) (fun z hz => absurd hz List.not_mem_nil) (by decide) (by decide) hq0 (va_Nw.use rfl (hG.nw 23 (w := .castable "java/lang/IndexOutOfBoundsException" "java/lang/IndexOutOfBoundsException") rfl)) hy1 hy2 hy3 ?_
  refine lv_astore_n (lv' := [(3, .ref q9), (0, .ref x), (1, .int w), (2, .ref o)]) hx hb dL_trustOf_12 rfl hl (by decide) rfl (fun ls hl => ?_)
  refine lv_iconst (v := 1) hx hb dL_trustOf_13 (by decide) ?_
  refine W.widen (k := (rm_L_trustOf).cells) (n := (rm_L_trustOf).slots) (Nat.le_of_ble_eq_true rfl) (Nat.le_of_ble_eq_true rfl) ?_
  exact k_xiret hx hb hr hlocks hK hw rfl dL_trustOf_14 (by first | rfl | assumption | (simp only [if_true, if_false, Bool.false_eq_true, Bool.true_eq_false, reduceIte, reduceCtorEq]; done) | (simp only [if_true, if_false, Bool.false_eq_true, Bool.true_eq_false, reduceIte, reduceCtorEq]; rfl) | (simp [if_true, if_false, Bool.false_eq_true, Bool.true_eq_false, reduceIte, reduceCtorEq]; done) | (simp [bI, ]; done)) rfl rfl
abbrev rm_L_wouldRing : Room := { frames := 9, cells := 3, slots := 18, locals := 155 }
set_option maxHeartbeats 4000000 in
set_option maxRecDepth 100000 in
theorem c_L_wouldRing (l : Launch) (hflags : l.stackTraces = false) (E : Ev) (x : Nat) (A T B : Nat → Nat) (S U : CS) (G : HS) (w : Int32) (s : Int32) (o : Nat) (f : Nat → Int64) (hT : t_new G S w s = 0) : XI l E yL_wouldRing wsL_wouldRing rm_L_wouldRing [.ref x, .int w, .int s, .ref o] (wX x A T B ++ wC E A (B 0) S ++ wC E T (B 0) U ++ wG E B G ++ [(o, aJ E 1 f)]) 0 0 (wX x A T B ++ wC E A (B 0) S ++ wC E T (B 0) U ++ wG E B G ++ [(o, aJ E 1 (vp_updL f 0 (if f_would S w s = true then 1 else 0)))]) := by
  refine k_bXIH (cc := cL_wouldRing) (maxL := 5) (ret := (some .int)) (by decide) rfl (Nat.le_of_ble_eq_true rfl) ?_
  intro p9 e s9 m args below meth c A9 ls hC ht9 hZ hl hw
  obtain ⟨hx, hb, hml, hr, hown, hts, hlocks, hK, hG, hA⟩ := hC
  have hl : lv_has ls 5 [(0, .ref x), (1, .int w), (2, .int s), (3, .ref o)] := hl
  refine lv_aload_n hx hb dL_wouldRing_0 rfl (lv_at hl 3 rfl) ?_
  refine lv_iconst (v := 0) hx hb dL_wouldRing_1 (by decide) ?_
  refine lv_aload_n hx hb dL_wouldRing_2 rfl (lv_at hl 0 rfl) ?_
  refine lv_iload_n hx hb dL_wouldRing_3 rfl (lv_at hl 1 rfl) ?_
  refine lv_iload_n hx hb dL_wouldRing_4 rfl (lv_at hl 2 rfl) ?_
  refine krx_i (ws' := wX x A T B ++ wC E A (B 0) S ++ wC E T (B 0) U ++ wG E B G ++ [(o, aJ E 1 f)]) (vx_runV (As := [.int w, .int s]) (rest := [.int 0, .ref o]) ⟨hx, hb, hml, hown, hts⟩ (c_X2_wouldRing l hflags E x A T B S U G w s  _) (cwV 2 hts gL_wouldRing_X2_wouldRing rfl rfl rfl ⟨rfl, hd_X2_wouldRing⟩ ⟨Nat.le_of_ble_eq_true rfl, Nat.le_of_ble_eq_true rfl⟩) (pwV (ci := 2) (q0 := 0) (C := RX2) hw hK rfl rfl rfl (rpX (AV := [.ref x, .int w, .int s]) hw hK hG hZ hA rp_82)) rfl rfl hl.1 rfl (lv_room (Nat.le_of_ble_eq_true rfl)) dL_wouldRing_5 ⟨Nat.le_of_ble_eq_true rfl, Nat.le_of_ble_eq_true rfl⟩) hw hA rp_82 rp_82 (fun H locs ce9 q9 t_1 hw hy1 hy2 hy3 => absurd hT t_1) (fun H locs t_1 hw => ?_)
  refine lv_if_eq (tgt := 15) hx hb dL_wouldRing_8 (by decide) (fun c_2 => ?_) (fun c_2 => ?_)
  · have c_2 := bI_z c_2
    refine lv_lconst (v := 0) hx hb dL_wouldRing_15 (by decide) ?_
    refine k_lst (ws' := wX x A T B ++ wC E A (B 0) S ++ wC E T (B 0) U ++ wG E B G ++ [(o, aJ E 1 (vp_updL f 0 0))]) hx hb hK hw 21 rfl (vp_in_nI (n := 0) (N := 1) (by decide) (by decide)) dL_wouldRing_16 rfl (fun H locs hw => ?_)
    refine lv_goto (tgt := 28) hx hb dL_wouldRing_17 (by decide) ?_
    refine lv_iconst (v := 0) hx hb dL_wouldRing_28 (by decide) ?_
    refine W.widen (k := (rm_L_wouldRing).cells) (n := (rm_L_wouldRing).slots) (Nat.le_of_ble_eq_true rfl) (Nat.le_of_ble_eq_true rfl) ?_
    exact k_xiret hx hb hr hlocks hK hw rfl dL_wouldRing_29 (by first | assumption | (simp only [c_2, if_true, if_false, Bool.false_eq_true, Bool.true_eq_false, reduceIte, reduceCtorEq]; done) | (simp only [c_2, if_true, if_false, Bool.false_eq_true, Bool.true_eq_false, reduceIte, reduceCtorEq]; rfl) | rfl | (simp [c_2, if_true, if_false, Bool.false_eq_true, Bool.true_eq_false, reduceIte, reduceCtorEq]; done) | (simp [bI, c_2]; done)) rfl (by first | assumption | (simp only [c_2, if_true, if_false, Bool.false_eq_true, Bool.true_eq_false, reduceIte, reduceCtorEq]; done) | (simp only [c_2, if_true, if_false, Bool.false_eq_true, Bool.true_eq_false, reduceIte, reduceCtorEq]; rfl) | rfl | (simp [c_2, if_true, if_false, Bool.false_eq_true, Bool.true_eq_false, reduceIte, reduceCtorEq]; done) | (simp [bI, c_2]; done))
  · have c_2 := bI_nz c_2
    refine lv_lconst (v := 1) hx hb dL_wouldRing_11 (by decide) ?_
    refine lv_goto (tgt := 16) hx hb dL_wouldRing_12 (by decide) ?_
    refine k_lst (ws' := wX x A T B ++ wC E A (B 0) S ++ wC E T (B 0) U ++ wG E B G ++ [(o, aJ E 1 (vp_updL f 0 1))]) hx hb hK hw 21 rfl (vp_in_nI (n := 0) (N := 1) (by decide) (by decide)) dL_wouldRing_16 rfl (fun H locs hw => ?_)
    refine lv_goto (tgt := 28) hx hb dL_wouldRing_17 (by decide) ?_
    refine lv_iconst (v := 0) hx hb dL_wouldRing_28 (by decide) ?_
    refine W.widen (k := (rm_L_wouldRing).cells) (n := (rm_L_wouldRing).slots) (Nat.le_of_ble_eq_true rfl) (Nat.le_of_ble_eq_true rfl) ?_
    exact k_xiret hx hb hr hlocks hK hw rfl dL_wouldRing_29 (by first | assumption | (simp only [c_2, if_true, if_false, Bool.false_eq_true, Bool.true_eq_false, reduceIte, reduceCtorEq]; done) | (simp only [c_2, if_true, if_false, Bool.false_eq_true, Bool.true_eq_false, reduceIte, reduceCtorEq]; rfl) | rfl | (simp [c_2, if_true, if_false, Bool.false_eq_true, Bool.true_eq_false, reduceIte, reduceCtorEq]; done) | (simp [bI, c_2]; done)) rfl (by first | assumption | (simp only [c_2, if_true, if_false, Bool.false_eq_true, Bool.true_eq_false, reduceIte, reduceCtorEq]; done) | (simp only [c_2, if_true, if_false, Bool.false_eq_true, Bool.true_eq_false, reduceIte, reduceCtorEq]; rfl) | rfl | (simp [c_2, if_true, if_false, Bool.false_eq_true, Bool.true_eq_false, reduceIte, reduceCtorEq]; done) | (simp [bI, c_2]; done))
set_option maxHeartbeats 4000000 in
set_option maxRecDepth 100000 in
theorem c_L_wouldRing_1 (l : Launch) (hflags : l.stackTraces = false) (E : Ev) (x : Nat) (A T B : Nat → Nat) (S U : CS) (G : HS) (w : Int32) (s : Int32) (o : Nat) (f : Nat → Int64) (hT : t_new G S w s = 1) : XI l E yL_wouldRing wsL_wouldRing rm_L_wouldRing [.ref x, .int w, .int s, .ref o] (wX x A T B ++ wC E A (B 0) S ++ wC E T (B 0) U ++ wG E B G ++ [(o, aJ E 1 f)]) 0 1 (wX x A T B ++ wC E A (B 0) S ++ wC E T (B 0) U ++ wG E B G ++ [(o, aJ E 1 f)]) := by
  refine k_bXIH (cc := cL_wouldRing) (maxL := 5) (ret := (some .int)) (by decide) rfl (Nat.le_of_ble_eq_true rfl) ?_
  intro p9 e s9 m args below meth c A9 ls hC ht9 hZ hl hw
  obtain ⟨hx, hb, hml, hr, hown, hts, hlocks, hK, hG, hA⟩ := hC
  have hq0 := hts (.classLink RL 21 "java/lang/IndexOutOfBoundsException") (List.mem_of_getElem? (i := 1) rfl)
  have hl : lv_has ls 5 [(0, .ref x), (1, .int w), (2, .int s), (3, .ref o)] := hl
  refine lv_aload_n hx hb dL_wouldRing_0 rfl (lv_at hl 3 rfl) ?_
  refine lv_iconst (v := 0) hx hb dL_wouldRing_1 (by decide) ?_
  refine lv_aload_n hx hb dL_wouldRing_2 rfl (lv_at hl 0 rfl) ?_
  refine lv_iload_n hx hb dL_wouldRing_3 rfl (lv_at hl 1 rfl) ?_
  refine lv_iload_n hx hb dL_wouldRing_4 rfl (lv_at hl 2 rfl) ?_
  refine krx_i (ws' := wX x A T B ++ wC E A (B 0) S ++ wC E T (B 0) U ++ wG E B G ++ [(o, aJ E 1 f)]) (vx_runV (As := [.int w, .int s]) (rest := [.int 0, .ref o]) ⟨hx, hb, hml, hown, hts⟩ (c_X2_wouldRing l hflags E x A T B S U G w s  _) (cwV 2 hts gL_wouldRing_X2_wouldRing rfl rfl rfl ⟨rfl, hd_X2_wouldRing⟩ ⟨Nat.le_of_ble_eq_true rfl, Nat.le_of_ble_eq_true rfl⟩) (pwV (ci := 2) (q0 := 0) (C := RX2) hw hK rfl rfl rfl (rpX (AV := [.ref x, .int w, .int s]) hw hK hG hZ hA rp_82)) rfl rfl hl.1 rfl (lv_room (Nat.le_of_ble_eq_true rfl)) dL_wouldRing_5 ⟨Nat.le_of_ble_eq_true rfl, Nat.le_of_ble_eq_true rfl⟩) hw hA rp_82 rp_82 (fun H locs ce9 q9 t_1 hw hy1 hy2 hy3 => ?_) (fun H locs t_1 hw => absurd (t_1.symm.trans hT) (by decide))
  have hy3 : s9.vm.findClass "java/lang/IndexOutOfBoundsException" = some ce9.cls := by rw [hT] at hy3; exact hy3
  refine vx_catch hown [] ⟨0, 17, 20, 21⟩ [⟨0, 17, 24, 15⟩] (ht9.trans rfl) (fun z hz => absurd hz List.not_mem_nil) (by decide) (by decide) hq0 (va_Nw.use rfl (hG.nw 23 (w := .castable "java/lang/IndexOutOfBoundsException" "java/lang/IndexOutOfBoundsException") rfl)) hy1 hy2 hy3 ?_
  refine lv_astore (lv' := [(4, .ref q9), (0, .ref x), (1, .int w), (2, .int s), (3, .ref o)]) hx hb dL_wouldRing_20 hl (by decide) rfl (fun ls hl => ?_)
  refine lv_iconst (v := 1) hx hb dL_wouldRing_22 (by decide) ?_
  refine W.widen (k := (rm_L_wouldRing).cells) (n := (rm_L_wouldRing).slots) (Nat.le_of_ble_eq_true rfl) (Nat.le_of_ble_eq_true rfl) ?_
  exact k_xiret hx hb hr hlocks hK hw rfl dL_wouldRing_23 (by first | rfl | assumption | (simp only [if_true, if_false, Bool.false_eq_true, Bool.true_eq_false, reduceIte, reduceCtorEq]; done) | (simp only [if_true, if_false, Bool.false_eq_true, Bool.true_eq_false, reduceIte, reduceCtorEq]; rfl) | (simp [if_true, if_false, Bool.false_eq_true, Bool.true_eq_false, reduceIte, reduceCtorEq]; done) | (simp [bI, ]; done)) rfl rfl
set_option maxHeartbeats 4000000 in
set_option maxRecDepth 100000 in
theorem c_L_wouldRing_2 (l : Launch) (hflags : l.stackTraces = false) (E : Ev) (x : Nat) (A T B : Nat → Nat) (S U : CS) (G : HS) (w : Int32) (s : Int32) (o : Nat) (f : Nat → Int64) (hT : t_new G S w s = 2) : XI l E yL_wouldRing wsL_wouldRing rm_L_wouldRing [.ref x, .int w, .int s, .ref o] (wX x A T B ++ wC E A (B 0) S ++ wC E T (B 0) U ++ wG E B G ++ [(o, aJ E 1 f)]) 0 2 (wX x A T B ++ wC E A (B 0) S ++ wC E T (B 0) U ++ wG E B G ++ [(o, aJ E 1 f)]) := by
  refine k_bXIH (cc := cL_wouldRing) (maxL := 5) (ret := (some .int)) (by decide) rfl (Nat.le_of_ble_eq_true rfl) ?_
  intro p9 e s9 m args below meth c A9 ls hC ht9 hZ hl hw
  obtain ⟨hx, hb, hml, hr, hown, hts, hlocks, hK, hG, hA⟩ := hC
  have hq0 := hts (.classLink RL 21 "java/lang/IndexOutOfBoundsException") (List.mem_of_getElem? (i := 1) rfl)
  have hq1 := hts (.classLink RL 15 "java/lang/IllegalStateException") (List.mem_of_getElem? (i := 2) rfl)
  have hl : lv_has ls 5 [(0, .ref x), (1, .int w), (2, .int s), (3, .ref o)] := hl
  refine lv_aload_n hx hb dL_wouldRing_0 rfl (lv_at hl 3 rfl) ?_
  refine lv_iconst (v := 0) hx hb dL_wouldRing_1 (by decide) ?_
  refine lv_aload_n hx hb dL_wouldRing_2 rfl (lv_at hl 0 rfl) ?_
  refine lv_iload_n hx hb dL_wouldRing_3 rfl (lv_at hl 1 rfl) ?_
  refine lv_iload_n hx hb dL_wouldRing_4 rfl (lv_at hl 2 rfl) ?_
  refine krx_i (ws' := wX x A T B ++ wC E A (B 0) S ++ wC E T (B 0) U ++ wG E B G ++ [(o, aJ E 1 f)]) (vx_runV (As := [.int w, .int s]) (rest := [.int 0, .ref o]) ⟨hx, hb, hml, hown, hts⟩ (c_X2_wouldRing l hflags E x A T B S U G w s  _) (cwV 2 hts gL_wouldRing_X2_wouldRing rfl rfl rfl ⟨rfl, hd_X2_wouldRing⟩ ⟨Nat.le_of_ble_eq_true rfl, Nat.le_of_ble_eq_true rfl⟩) (pwV (ci := 2) (q0 := 0) (C := RX2) hw hK rfl rfl rfl (rpX (AV := [.ref x, .int w, .int s]) hw hK hG hZ hA rp_82)) rfl rfl hl.1 rfl (lv_room (Nat.le_of_ble_eq_true rfl)) dL_wouldRing_5 ⟨Nat.le_of_ble_eq_true rfl, Nat.le_of_ble_eq_true rfl⟩) hw hA rp_82 rp_82 (fun H locs ce9 q9 t_1 hw hy1 hy2 hy3 => ?_) (fun H locs t_1 hw => absurd (t_1.symm.trans hT) (by decide))
  have hy3 : s9.vm.findClass "java/lang/IllegalStateException" = some ce9.cls := by rw [hT] at hy3; exact hy3
  refine vx_catch hown [⟨0, 17, 20, 21⟩] ⟨0, 17, 24, 15⟩ [] (ht9.trans rfl) (fun z hz => by rcases List.mem_singleton.mp hz with rfl; exact Or.inr ⟨by decide, "java/lang/IndexOutOfBoundsException", hq0, hG.2.2 ("java/lang/IllegalStateException", "java/lang/IndexOutOfBoundsException") (List.mem_of_getElem? (i := 2) rfl)⟩) (by decide) (by decide) hq1 (va_Nw.use rfl (hG.nw 24 (w := .castable "java/lang/IllegalStateException" "java/lang/IllegalStateException") rfl)) hy1 hy2 hy3 ?_
  refine lv_astore (lv' := [(4, .ref q9), (0, .ref x), (1, .int w), (2, .int s), (3, .ref o)]) hx hb dL_wouldRing_24 hl (by decide) rfl (fun ls hl => ?_)
  refine lv_iconst (v := 2) hx hb dL_wouldRing_26 (by decide) ?_
  refine W.widen (k := (rm_L_wouldRing).cells) (n := (rm_L_wouldRing).slots) (Nat.le_of_ble_eq_true rfl) (Nat.le_of_ble_eq_true rfl) ?_
  exact k_xiret hx hb hr hlocks hK hw rfl dL_wouldRing_27 (by first | rfl | assumption | (simp only [if_true, if_false, Bool.false_eq_true, Bool.true_eq_false, reduceIte, reduceCtorEq]; done) | (simp only [if_true, if_false, Bool.false_eq_true, Bool.true_eq_false, reduceIte, reduceCtorEq]; rfl) | (simp [if_true, if_false, Bool.false_eq_true, Bool.true_eq_false, reduceIte, reduceCtorEq]; done) | (simp [bI, ]; done)) rfl rfl
abbrev rm_L_nightsUntilUnrung : Room := { frames := 8, cells := 2, slots := 12, locals := 133 }
set_option maxHeartbeats 4000000 in
set_option maxRecDepth 100000 in
theorem c_L_nightsUntilUnrung (l : Launch) (hflags : l.stackTraces = false) (E : Ev) (x : Nat) (A T B : Nat → Nat) (S U : CS) (G : HS) (s : Int32) (o : Nat) (f : Nat → Int64) (hT : t_unr G S s = 0) : XIE l E yL_nightsUntilUnrung wsL_nightsUntilUnrung rm_L_nightsUntilUnrung [.ref x, .int s, .ref o] (wX x A T B ++ wC E A (B 0) S ++ wC E T (B 0) U ++ wG E B G ++ [(o, aJ E 1 f)]) 0 0 (fun U9 => wX x A T B ++ wC E A (B 0) S ++ wC E T (B 0) U9 ++ wG E B G ++ [(o, aJ E 1 (vp_updL f 0 ((f_until G S s : Int32).toInt64)))]) := by
  refine k_bXIEH (cc := cL_nightsUntilUnrung) (maxL := 4) (ret := (some .int)) (by decide) rfl (Nat.le_of_ble_eq_true rfl) ?_
  intro p9 e s9 m args below meth c A9 ls hC ht9 hZ hl hw
  obtain ⟨hx, hb, hml, hr, hown, hts, hlocks, hK, hG, hA⟩ := hC
  have hl : lv_has ls 4 [(0, .ref x), (1, .int s), (2, .ref o)] := hl
  refine lv_aload_n hx hb dL_nightsUntilUnrung_0 rfl (lv_at hl 2 rfl) ?_
  refine lv_iconst (v := 0) hx hb dL_nightsUntilUnrung_1 (by decide) ?_
  refine lv_aload_n hx hb dL_nightsUntilUnrung_2 rfl (lv_at hl 0 rfl) ?_
  refine lv_iload_n hx hb dL_nightsUntilUnrung_3 rfl (lv_at hl 1 rfl) ?_
  refine krx_ie (wU' := fun U9 => wX x A T B ++ wC E A (B 0) S ++ wC E T (B 0) U9 ++ wG E B G ++ [(o, aJ E 1 f)]) (vx_runV (As := [.int s]) (rest := [.int 0, .ref o]) ⟨hx, hb, hml, hown, hts⟩ (c_X2_nightsUntilUnrung l hflags E x A T B S U G s  _) (cwV 1 hts gL_nightsUntilUnrung_X2_nightsUntilUnrung rfl rfl rfl ⟨rfl, hd_X2_nightsUntilUnrung⟩ ⟨Nat.le_of_ble_eq_true rfl, Nat.le_of_ble_eq_true rfl⟩) (pwV (ci := 2) (q0 := 0) (C := RX2) hw hK rfl rfl rfl (rpX (AV := [.ref x, .int s]) hw hK hG hZ hA rp_82)) rfl rfl hl.1 rfl (lv_room (Nat.le_of_ble_eq_true rfl)) dL_nightsUntilUnrung_4 ⟨Nat.le_of_ble_eq_true rfl, Nat.le_of_ble_eq_true rfl⟩) hw hA (fun _ => rp_85) rp_82 (fun H locs ce9 q9 t_2 hw hy1 hy2 hy3 => absurd hT t_2) (fun U_1 H locs t_2 hw => ?_)
  refine lv_i2l (v := (f_until G S s : Int32).toInt64) hx hb dL_nightsUntilUnrung_7 rfl ?_
  refine k_lst (ws' := wX x A T B ++ wC E A (B 0) S ++ wC E T (B 0) U_1 ++ wG E B G ++ [(o, aJ E 1 (vp_updL f 0 ((f_until G S s : Int32).toInt64)))]) hx hb hK hw 21 rfl (vp_in_nI (n := 0) (N := 1) (by decide) (by decide)) dL_nightsUntilUnrung_8 rfl (fun H locs hw => ?_)
  refine lv_goto (tgt := 18) hx hb dL_nightsUntilUnrung_9 (by decide) ?_
  refine lv_iconst (v := 0) hx hb dL_nightsUntilUnrung_18 (by decide) ?_
  refine W.widen (k := (rm_L_nightsUntilUnrung).cells) (n := (rm_L_nightsUntilUnrung).slots) (Nat.le_of_ble_eq_true rfl) (Nat.le_of_ble_eq_true rfl) ?_
  exact k_xieret U_1 hx hb hr hlocks hK hw rfl dL_nightsUntilUnrung_19 (by first | rfl | assumption | (simp only [if_true, if_false, Bool.false_eq_true, Bool.true_eq_false, reduceIte, reduceCtorEq]; done) | (simp only [if_true, if_false, Bool.false_eq_true, Bool.true_eq_false, reduceIte, reduceCtorEq]; rfl) | (simp [if_true, if_false, Bool.false_eq_true, Bool.true_eq_false, reduceIte, reduceCtorEq]; done) | (simp [bI, ]; done)) rfl rfl
set_option maxHeartbeats 4000000 in
set_option maxRecDepth 100000 in
theorem c_L_nightsUntilUnrung_1 (l : Launch) (hflags : l.stackTraces = false) (E : Ev) (x : Nat) (A T B : Nat → Nat) (S U : CS) (G : HS) (s : Int32) (o : Nat) (f : Nat → Int64) (hT : t_unr G S s = 1) : XI l E yL_nightsUntilUnrung wsL_nightsUntilUnrung rm_L_nightsUntilUnrung [.ref x, .int s, .ref o] (wX x A T B ++ wC E A (B 0) S ++ wC E T (B 0) U ++ wG E B G ++ [(o, aJ E 1 f)]) 0 1 (wX x A T B ++ wC E A (B 0) S ++ wC E T (B 0) U ++ wG E B G ++ [(o, aJ E 1 f)]) := by
  refine k_bXIH (cc := cL_nightsUntilUnrung) (maxL := 4) (ret := (some .int)) (by decide) rfl (Nat.le_of_ble_eq_true rfl) ?_
  intro p9 e s9 m args below meth c A9 ls hC ht9 hZ hl hw
  obtain ⟨hx, hb, hml, hr, hown, hts, hlocks, hK, hG, hA⟩ := hC
  have hq0 := hts (.classLink RL 21 "java/lang/IndexOutOfBoundsException") (List.mem_of_getElem? (i := 1) rfl)
  have hl : lv_has ls 4 [(0, .ref x), (1, .int s), (2, .ref o)] := hl
  refine lv_aload_n hx hb dL_nightsUntilUnrung_0 rfl (lv_at hl 2 rfl) ?_
  refine lv_iconst (v := 0) hx hb dL_nightsUntilUnrung_1 (by decide) ?_
  refine lv_aload_n hx hb dL_nightsUntilUnrung_2 rfl (lv_at hl 0 rfl) ?_
  refine lv_iload_n hx hb dL_nightsUntilUnrung_3 rfl (lv_at hl 1 rfl) ?_
  refine krx_ie (wU' := fun U9 => wX x A T B ++ wC E A (B 0) S ++ wC E T (B 0) U9 ++ wG E B G ++ [(o, aJ E 1 f)]) (vx_runV (As := [.int s]) (rest := [.int 0, .ref o]) ⟨hx, hb, hml, hown, hts⟩ (c_X2_nightsUntilUnrung l hflags E x A T B S U G s  _) (cwV 1 hts gL_nightsUntilUnrung_X2_nightsUntilUnrung rfl rfl rfl ⟨rfl, hd_X2_nightsUntilUnrung⟩ ⟨Nat.le_of_ble_eq_true rfl, Nat.le_of_ble_eq_true rfl⟩) (pwV (ci := 2) (q0 := 0) (C := RX2) hw hK rfl rfl rfl (rpX (AV := [.ref x, .int s]) hw hK hG hZ hA rp_82)) rfl rfl hl.1 rfl (lv_room (Nat.le_of_ble_eq_true rfl)) dL_nightsUntilUnrung_4 ⟨Nat.le_of_ble_eq_true rfl, Nat.le_of_ble_eq_true rfl⟩) hw hA (fun _ => rp_85) rp_82 (fun H locs ce9 q9 t_2 hw hy1 hy2 hy3 => ?_) (fun U_1 H locs t_2 hw => absurd (t_2.symm.trans hT) (by decide))
  have hy3 : s9.vm.findClass "java/lang/IndexOutOfBoundsException" = some ce9.cls := by rw [hT] at hy3; exact hy3
  refine vx_catch hown [] ⟨0, 9, 12, 21⟩ [⟨0, 9, 15, 15⟩] (ht9.trans rfl) (fun z hz => absurd hz List.not_mem_nil) (by decide) (by decide) hq0 (va_Nw.use rfl (hG.nw 23 (w := .castable "java/lang/IndexOutOfBoundsException" "java/lang/IndexOutOfBoundsException") rfl)) hy1 hy2 hy3 ?_
  refine lv_astore_n (lv' := [(3, .ref q9), (0, .ref x), (1, .int s), (2, .ref o)]) hx hb dL_nightsUntilUnrung_12 rfl hl (by decide) rfl (fun ls hl => ?_)
  refine lv_iconst (v := 1) hx hb dL_nightsUntilUnrung_13 (by decide) ?_
  refine W.widen (k := (rm_L_nightsUntilUnrung).cells) (n := (rm_L_nightsUntilUnrung).slots) (Nat.le_of_ble_eq_true rfl) (Nat.le_of_ble_eq_true rfl) ?_
  exact k_xiret hx hb hr hlocks hK hw rfl dL_nightsUntilUnrung_14 (by first | rfl | assumption | (simp only [if_true, if_false, Bool.false_eq_true, Bool.true_eq_false, reduceIte, reduceCtorEq]; done) | (simp only [if_true, if_false, Bool.false_eq_true, Bool.true_eq_false, reduceIte, reduceCtorEq]; rfl) | (simp [if_true, if_false, Bool.false_eq_true, Bool.true_eq_false, reduceIte, reduceCtorEq]; done) | (simp [bI, ]; done)) rfl rfl
set_option maxHeartbeats 4000000 in
set_option maxRecDepth 100000 in
theorem c_L_nightsUntilUnrung_2 (l : Launch) (hflags : l.stackTraces = false) (E : Ev) (x : Nat) (A T B : Nat → Nat) (S U : CS) (G : HS) (s : Int32) (o : Nat) (f : Nat → Int64) (hT : t_unr G S s = 2) : XI l E yL_nightsUntilUnrung wsL_nightsUntilUnrung rm_L_nightsUntilUnrung [.ref x, .int s, .ref o] (wX x A T B ++ wC E A (B 0) S ++ wC E T (B 0) U ++ wG E B G ++ [(o, aJ E 1 f)]) 0 2 (wX x A T B ++ wC E A (B 0) S ++ wC E T (B 0) U ++ wG E B G ++ [(o, aJ E 1 f)]) := by
  refine k_bXIH (cc := cL_nightsUntilUnrung) (maxL := 4) (ret := (some .int)) (by decide) rfl (Nat.le_of_ble_eq_true rfl) ?_
  intro p9 e s9 m args below meth c A9 ls hC ht9 hZ hl hw
  obtain ⟨hx, hb, hml, hr, hown, hts, hlocks, hK, hG, hA⟩ := hC
  have hq0 := hts (.classLink RL 21 "java/lang/IndexOutOfBoundsException") (List.mem_of_getElem? (i := 1) rfl)
  have hq1 := hts (.classLink RL 15 "java/lang/IllegalStateException") (List.mem_of_getElem? (i := 2) rfl)
  have hl : lv_has ls 4 [(0, .ref x), (1, .int s), (2, .ref o)] := hl
  refine lv_aload_n hx hb dL_nightsUntilUnrung_0 rfl (lv_at hl 2 rfl) ?_
  refine lv_iconst (v := 0) hx hb dL_nightsUntilUnrung_1 (by decide) ?_
  refine lv_aload_n hx hb dL_nightsUntilUnrung_2 rfl (lv_at hl 0 rfl) ?_
  refine lv_iload_n hx hb dL_nightsUntilUnrung_3 rfl (lv_at hl 1 rfl) ?_
  refine krx_ie (wU' := fun U9 => wX x A T B ++ wC E A (B 0) S ++ wC E T (B 0) U9 ++ wG E B G ++ [(o, aJ E 1 f)]) (vx_runV (As := [.int s]) (rest := [.int 0, .ref o]) ⟨hx, hb, hml, hown, hts⟩ (c_X2_nightsUntilUnrung l hflags E x A T B S U G s  _) (cwV 1 hts gL_nightsUntilUnrung_X2_nightsUntilUnrung rfl rfl rfl ⟨rfl, hd_X2_nightsUntilUnrung⟩ ⟨Nat.le_of_ble_eq_true rfl, Nat.le_of_ble_eq_true rfl⟩) (pwV (ci := 2) (q0 := 0) (C := RX2) hw hK rfl rfl rfl (rpX (AV := [.ref x, .int s]) hw hK hG hZ hA rp_82)) rfl rfl hl.1 rfl (lv_room (Nat.le_of_ble_eq_true rfl)) dL_nightsUntilUnrung_4 ⟨Nat.le_of_ble_eq_true rfl, Nat.le_of_ble_eq_true rfl⟩) hw hA (fun _ => rp_85) rp_82 (fun H locs ce9 q9 t_2 hw hy1 hy2 hy3 => ?_) (fun U_1 H locs t_2 hw => absurd (t_2.symm.trans hT) (by decide))
  have hy3 : s9.vm.findClass "java/lang/IllegalStateException" = some ce9.cls := by rw [hT] at hy3; exact hy3
  refine vx_catch hown [⟨0, 9, 12, 21⟩] ⟨0, 9, 15, 15⟩ [] (ht9.trans rfl) (fun z hz => by rcases List.mem_singleton.mp hz with rfl; exact Or.inr ⟨by decide, "java/lang/IndexOutOfBoundsException", hq0, hG.2.2 ("java/lang/IllegalStateException", "java/lang/IndexOutOfBoundsException") (List.mem_of_getElem? (i := 2) rfl)⟩) (by decide) (by decide) hq1 (va_Nw.use rfl (hG.nw 24 (w := .castable "java/lang/IllegalStateException" "java/lang/IllegalStateException") rfl)) hy1 hy2 hy3 ?_
  refine lv_astore_n (lv' := [(3, .ref q9), (0, .ref x), (1, .int s), (2, .ref o)]) hx hb dL_nightsUntilUnrung_15 rfl hl (by decide) rfl (fun ls hl => ?_)
  refine lv_iconst (v := 2) hx hb dL_nightsUntilUnrung_16 (by decide) ?_
  refine W.widen (k := (rm_L_nightsUntilUnrung).cells) (n := (rm_L_nightsUntilUnrung).slots) (Nat.le_of_ble_eq_true rfl) (Nat.le_of_ble_eq_true rfl) ?_
  exact k_xiret hx hb hr hlocks hK hw rfl dL_nightsUntilUnrung_17 (by first | rfl | assumption | (simp only [if_true, if_false, Bool.false_eq_true, Bool.true_eq_false, reduceIte, reduceCtorEq]; done) | (simp only [if_true, if_false, Bool.false_eq_true, Bool.true_eq_false, reduceIte, reduceCtorEq]; rfl) | (simp [if_true, if_false, Bool.false_eq_true, Bool.true_eq_false, reduceIte, reduceCtorEq]; done) | (simp [bI, ]; done)) rfl rfl
abbrev rm_L_waxAfter : Room := { frames := 8, cells := 1, slots := 6, locals := 154 }
set_option maxHeartbeats 4000000 in
set_option maxRecDepth 100000 in
theorem c_L_waxAfter (l : Launch) (hflags : l.stackTraces = false) (E : Ev) (x : Nat) (A T B : Nat → Nat) (S U : CS) (G : HS) (n : Int32) (o : Nat) (f : Nat → Int64) (hT : t_nights n 200 = 0) : XIE l E yL_waxAfter wsL_waxAfter rm_L_waxAfter [.ref x, .int n, .ref o] (wX x A T B ++ wC E A (B 0) S ++ wC E T (B 0) U ++ wG E B G ++ [(o, aJ E 1 f)]) 0 0 (fun U9 => wX x A T B ++ wC E A (B 0) S ++ wC E T (B 0) U9 ++ wG E B G ++ [(o, aJ E 1 (vp_updL f 0 ((c_wa (l_passS G S n.toNatClampNeg) : Int32).toInt64)))]) := by
  refine k_bXIEH (cc := cL_waxAfter) (maxL := 4) (ret := (some .int)) (by decide) rfl (Nat.le_of_ble_eq_true rfl) ?_
  intro p9 e s9 m args below meth c A9 ls hC ht9 hZ hl hw
  obtain ⟨hx, hb, hml, hr, hown, hts, hlocks, hK, hG, hA⟩ := hC
  have hl : lv_has ls 4 [(0, .ref x), (1, .int n), (2, .ref o)] := hl
  refine lv_aload_n hx hb dL_waxAfter_0 rfl (lv_at hl 2 rfl) ?_
  refine lv_iconst (v := 0) hx hb dL_waxAfter_1 (by decide) ?_
  refine lv_aload_n hx hb dL_waxAfter_2 rfl (lv_at hl 0 rfl) ?_
  refine lv_iload_n hx hb dL_waxAfter_3 rfl (lv_at hl 1 rfl) ?_
  refine krx_ie (wU' := fun U9 => wX x A T B ++ wC E A (B 0) S ++ wC E T (B 0) U9 ++ wG E B G ++ [(o, aJ E 1 f)]) (vx_runV (As := [.int n]) (rest := [.int 0, .ref o]) ⟨hx, hb, hml, hown, hts⟩ (c_X2_waxAfter l hflags E x A T B S U G n  _) (cwV 1 hts gL_waxAfter_X2_waxAfter rfl rfl rfl ⟨rfl, hd_X2_waxAfter⟩ ⟨Nat.le_of_ble_eq_true rfl, Nat.le_of_ble_eq_true rfl⟩) (pwV (ci := 2) (q0 := 0) (C := RX2) hw hK rfl rfl rfl (rpX (AV := [.ref x, .int n]) hw hK hG hZ hA rp_82)) rfl rfl hl.1 rfl (lv_room (Nat.le_of_ble_eq_true rfl)) dL_waxAfter_4 ⟨Nat.le_of_ble_eq_true rfl, Nat.le_of_ble_eq_true rfl⟩) hw hA (fun _ => rp_85) rp_82 (fun H locs ce9 q9 t_2 hw hy1 hy2 hy3 => absurd hT t_2) (fun U_1 H locs t_2 hw => ?_)
  refine lv_i2l (v := (c_wa (l_passS G S n.toNatClampNeg) : Int32).toInt64) hx hb dL_waxAfter_7 rfl ?_
  refine k_lst (ws' := wX x A T B ++ wC E A (B 0) S ++ wC E T (B 0) U_1 ++ wG E B G ++ [(o, aJ E 1 (vp_updL f 0 ((c_wa (l_passS G S n.toNatClampNeg) : Int32).toInt64)))]) hx hb hK hw 21 rfl (vp_in_nI (n := 0) (N := 1) (by decide) (by decide)) dL_waxAfter_8 rfl (fun H locs hw => ?_)
  refine lv_goto (tgt := 15) hx hb dL_waxAfter_9 (by decide) ?_
  refine lv_iconst (v := 0) hx hb dL_waxAfter_15 (by decide) ?_
  refine W.widen (k := (rm_L_waxAfter).cells) (n := (rm_L_waxAfter).slots) (Nat.le_of_ble_eq_true rfl) (Nat.le_of_ble_eq_true rfl) ?_
  exact k_xieret U_1 hx hb hr hlocks hK hw rfl dL_waxAfter_16 (by first | rfl | assumption | (simp only [if_true, if_false, Bool.false_eq_true, Bool.true_eq_false, reduceIte, reduceCtorEq]; done) | (simp only [if_true, if_false, Bool.false_eq_true, Bool.true_eq_false, reduceIte, reduceCtorEq]; rfl) | (simp [if_true, if_false, Bool.false_eq_true, Bool.true_eq_false, reduceIte, reduceCtorEq]; done) | (simp [bI, ]; done)) rfl rfl
set_option maxHeartbeats 4000000 in
set_option maxRecDepth 100000 in
theorem c_L_waxAfter_3 (l : Launch) (hflags : l.stackTraces = false) (E : Ev) (x : Nat) (A T B : Nat → Nat) (S U : CS) (G : HS) (n : Int32) (o : Nat) (f : Nat → Int64) (hT : t_nights n 200 = 3) : XI l E yL_waxAfter wsL_waxAfter rm_L_waxAfter [.ref x, .int n, .ref o] (wX x A T B ++ wC E A (B 0) S ++ wC E T (B 0) U ++ wG E B G ++ [(o, aJ E 1 f)]) 0 1 (wX x A T B ++ wC E A (B 0) S ++ wC E T (B 0) U ++ wG E B G ++ [(o, aJ E 1 f)]) := by
  refine k_bXIH (cc := cL_waxAfter) (maxL := 4) (ret := (some .int)) (by decide) rfl (Nat.le_of_ble_eq_true rfl) ?_
  intro p9 e s9 m args below meth c A9 ls hC ht9 hZ hl hw
  obtain ⟨hx, hb, hml, hr, hown, hts, hlocks, hK, hG, hA⟩ := hC
  have hq0 := hts (.classLink RL 13 "java/lang/IllegalArgumentException") (List.mem_of_getElem? (i := 1) rfl)
  have hl : lv_has ls 4 [(0, .ref x), (1, .int n), (2, .ref o)] := hl
  refine lv_aload_n hx hb dL_waxAfter_0 rfl (lv_at hl 2 rfl) ?_
  refine lv_iconst (v := 0) hx hb dL_waxAfter_1 (by decide) ?_
  refine lv_aload_n hx hb dL_waxAfter_2 rfl (lv_at hl 0 rfl) ?_
  refine lv_iload_n hx hb dL_waxAfter_3 rfl (lv_at hl 1 rfl) ?_
  refine krx_ie (wU' := fun U9 => wX x A T B ++ wC E A (B 0) S ++ wC E T (B 0) U9 ++ wG E B G ++ [(o, aJ E 1 f)]) (vx_runV (As := [.int n]) (rest := [.int 0, .ref o]) ⟨hx, hb, hml, hown, hts⟩ (c_X2_waxAfter l hflags E x A T B S U G n  _) (cwV 1 hts gL_waxAfter_X2_waxAfter rfl rfl rfl ⟨rfl, hd_X2_waxAfter⟩ ⟨Nat.le_of_ble_eq_true rfl, Nat.le_of_ble_eq_true rfl⟩) (pwV (ci := 2) (q0 := 0) (C := RX2) hw hK rfl rfl rfl (rpX (AV := [.ref x, .int n]) hw hK hG hZ hA rp_82)) rfl rfl hl.1 rfl (lv_room (Nat.le_of_ble_eq_true rfl)) dL_waxAfter_4 ⟨Nat.le_of_ble_eq_true rfl, Nat.le_of_ble_eq_true rfl⟩) hw hA (fun _ => rp_85) rp_82 (fun H locs ce9 q9 t_2 hw hy1 hy2 hy3 => ?_) (fun U_1 H locs t_2 hw => absurd (t_2.symm.trans hT) (by decide))
  have hy3 : s9.vm.findClass "java/lang/IllegalArgumentException" = some ce9.cls := by rw [hT] at hy3; exact hy3
  refine vx_catch hown [] ⟨0, 9, 12, 13⟩ [] (ht9.trans rfl) (fun z hz => absurd hz List.not_mem_nil) (by decide) (by decide) hq0 (va_Nw.use rfl (hG.nw 25 (w := .castable "java/lang/IllegalArgumentException" "java/lang/IllegalArgumentException") rfl)) hy1 hy2 hy3 ?_
  refine lv_astore_n (lv' := [(3, .ref q9), (0, .ref x), (1, .int n), (2, .ref o)]) hx hb dL_waxAfter_12 rfl hl (by decide) rfl (fun ls hl => ?_)
  refine lv_iconst (v := 1) hx hb dL_waxAfter_13 (by decide) ?_
  refine W.widen (k := (rm_L_waxAfter).cells) (n := (rm_L_waxAfter).slots) (Nat.le_of_ble_eq_true rfl) (Nat.le_of_ble_eq_true rfl) ?_
  exact k_xiret hx hb hr hlocks hK hw rfl dL_waxAfter_14 (by first | rfl | assumption | (simp only [if_true, if_false, Bool.false_eq_true, Bool.true_eq_false, reduceIte, reduceCtorEq]; done) | (simp only [if_true, if_false, Bool.false_eq_true, Bool.true_eq_false, reduceIte, reduceCtorEq]; rfl) | (simp [if_true, if_false, Bool.false_eq_true, Bool.true_eq_false, reduceIte, reduceCtorEq]; done) | (simp [bI, ]; done)) rfl rfl
abbrev rm_L_waxWanted : Room := { frames := 8, cells := 1, slots := 6, locals := 156 }
set_option maxHeartbeats 4000000 in
set_option maxRecDepth 100000 in
theorem c_L_waxWanted (l : Launch) (hflags : l.stackTraces = false) (E : Ev) (x : Nat) (A T B : Nat → Nat) (S U : CS) (G : HS) (n : Int32) (o : Nat) (f : Nat → Int64) (hT : t_nights n 60 = 0) : XIE l E yL_waxWanted wsL_waxWanted rm_L_waxWanted [.ref x, .int n, .ref o] (wX x A T B ++ wC E A (B 0) S ++ wC E T (B 0) U ++ wG E B G ++ [(o, aJ E 1 f)]) 0 0 (fun U9 => wX x A T B ++ wC E A (B 0) S ++ wC E T (B 0) U9 ++ wG E B G ++ [(o, aJ E 1 (vp_updL f 0 ((f_want G S n.toNatClampNeg : Int32).toInt64)))]) := by
  refine k_bXIEH (cc := cL_waxWanted) (maxL := 4) (ret := (some .int)) (by decide) rfl (Nat.le_of_ble_eq_true rfl) ?_
  intro p9 e s9 m args below meth c A9 ls hC ht9 hZ hl hw
  obtain ⟨hx, hb, hml, hr, hown, hts, hlocks, hK, hG, hA⟩ := hC
  have hl : lv_has ls 4 [(0, .ref x), (1, .int n), (2, .ref o)] := hl
  refine lv_aload_n hx hb dL_waxWanted_0 rfl (lv_at hl 2 rfl) ?_
  refine lv_iconst (v := 0) hx hb dL_waxWanted_1 (by decide) ?_
  refine lv_aload_n hx hb dL_waxWanted_2 rfl (lv_at hl 0 rfl) ?_
  refine lv_iload_n hx hb dL_waxWanted_3 rfl (lv_at hl 1 rfl) ?_
  refine krx_ie (wU' := fun U9 => wX x A T B ++ wC E A (B 0) S ++ wC E T (B 0) U9 ++ wG E B G ++ [(o, aJ E 1 f)]) (vx_runV (As := [.int n]) (rest := [.int 0, .ref o]) ⟨hx, hb, hml, hown, hts⟩ (c_X2_waxWanted l hflags E x A T B S U G n  _) (cwV 1 hts gL_waxWanted_X2_waxWanted rfl rfl rfl ⟨rfl, hd_X2_waxWanted⟩ ⟨Nat.le_of_ble_eq_true rfl, Nat.le_of_ble_eq_true rfl⟩) (pwV (ci := 2) (q0 := 0) (C := RX2) hw hK rfl rfl rfl (rpX (AV := [.ref x, .int n]) hw hK hG hZ hA rp_82)) rfl rfl hl.1 rfl (lv_room (Nat.le_of_ble_eq_true rfl)) dL_waxWanted_4 ⟨Nat.le_of_ble_eq_true rfl, Nat.le_of_ble_eq_true rfl⟩) hw hA (fun _ => rp_85) rp_82 (fun H locs ce9 q9 t_2 hw hy1 hy2 hy3 => absurd hT t_2) (fun U_1 H locs t_2 hw => ?_)
  refine lv_i2l (v := (f_want G S n.toNatClampNeg : Int32).toInt64) hx hb dL_waxWanted_7 rfl ?_
  refine k_lst (ws' := wX x A T B ++ wC E A (B 0) S ++ wC E T (B 0) U_1 ++ wG E B G ++ [(o, aJ E 1 (vp_updL f 0 ((f_want G S n.toNatClampNeg : Int32).toInt64)))]) hx hb hK hw 21 rfl (vp_in_nI (n := 0) (N := 1) (by decide) (by decide)) dL_waxWanted_8 rfl (fun H locs hw => ?_)
  refine lv_goto (tgt := 15) hx hb dL_waxWanted_9 (by decide) ?_
  refine lv_iconst (v := 0) hx hb dL_waxWanted_15 (by decide) ?_
  refine W.widen (k := (rm_L_waxWanted).cells) (n := (rm_L_waxWanted).slots) (Nat.le_of_ble_eq_true rfl) (Nat.le_of_ble_eq_true rfl) ?_
  exact k_xieret U_1 hx hb hr hlocks hK hw rfl dL_waxWanted_16 (by first | rfl | assumption | (simp only [if_true, if_false, Bool.false_eq_true, Bool.true_eq_false, reduceIte, reduceCtorEq]; done) | (simp only [if_true, if_false, Bool.false_eq_true, Bool.true_eq_false, reduceIte, reduceCtorEq]; rfl) | (simp [if_true, if_false, Bool.false_eq_true, Bool.true_eq_false, reduceIte, reduceCtorEq]; done) | (simp [bI, ]; done)) rfl rfl
set_option maxHeartbeats 4000000 in
set_option maxRecDepth 100000 in
theorem c_L_waxWanted_3 (l : Launch) (hflags : l.stackTraces = false) (E : Ev) (x : Nat) (A T B : Nat → Nat) (S U : CS) (G : HS) (n : Int32) (o : Nat) (f : Nat → Int64) (hT : t_nights n 60 = 3) : XI l E yL_waxWanted wsL_waxWanted rm_L_waxWanted [.ref x, .int n, .ref o] (wX x A T B ++ wC E A (B 0) S ++ wC E T (B 0) U ++ wG E B G ++ [(o, aJ E 1 f)]) 0 1 (wX x A T B ++ wC E A (B 0) S ++ wC E T (B 0) U ++ wG E B G ++ [(o, aJ E 1 f)]) := by
  refine k_bXIH (cc := cL_waxWanted) (maxL := 4) (ret := (some .int)) (by decide) rfl (Nat.le_of_ble_eq_true rfl) ?_
  intro p9 e s9 m args below meth c A9 ls hC ht9 hZ hl hw
  obtain ⟨hx, hb, hml, hr, hown, hts, hlocks, hK, hG, hA⟩ := hC
  have hq0 := hts (.classLink RL 13 "java/lang/IllegalArgumentException") (List.mem_of_getElem? (i := 1) rfl)
  have hl : lv_has ls 4 [(0, .ref x), (1, .int n), (2, .ref o)] := hl
  refine lv_aload_n hx hb dL_waxWanted_0 rfl (lv_at hl 2 rfl) ?_
  refine lv_iconst (v := 0) hx hb dL_waxWanted_1 (by decide) ?_
  refine lv_aload_n hx hb dL_waxWanted_2 rfl (lv_at hl 0 rfl) ?_
  refine lv_iload_n hx hb dL_waxWanted_3 rfl (lv_at hl 1 rfl) ?_
  refine krx_ie (wU' := fun U9 => wX x A T B ++ wC E A (B 0) S ++ wC E T (B 0) U9 ++ wG E B G ++ [(o, aJ E 1 f)]) (vx_runV (As := [.int n]) (rest := [.int 0, .ref o]) ⟨hx, hb, hml, hown, hts⟩ (c_X2_waxWanted l hflags E x A T B S U G n  _) (cwV 1 hts gL_waxWanted_X2_waxWanted rfl rfl rfl ⟨rfl, hd_X2_waxWanted⟩ ⟨Nat.le_of_ble_eq_true rfl, Nat.le_of_ble_eq_true rfl⟩) (pwV (ci := 2) (q0 := 0) (C := RX2) hw hK rfl rfl rfl (rpX (AV := [.ref x, .int n]) hw hK hG hZ hA rp_82)) rfl rfl hl.1 rfl (lv_room (Nat.le_of_ble_eq_true rfl)) dL_waxWanted_4 ⟨Nat.le_of_ble_eq_true rfl, Nat.le_of_ble_eq_true rfl⟩) hw hA (fun _ => rp_85) rp_82 (fun H locs ce9 q9 t_2 hw hy1 hy2 hy3 => ?_) (fun U_1 H locs t_2 hw => absurd (t_2.symm.trans hT) (by decide))
  have hy3 : s9.vm.findClass "java/lang/IllegalArgumentException" = some ce9.cls := by rw [hT] at hy3; exact hy3
  refine vx_catch hown [] ⟨0, 9, 12, 13⟩ [] (ht9.trans rfl) (fun z hz => absurd hz List.not_mem_nil) (by decide) (by decide) hq0 (va_Nw.use rfl (hG.nw 25 (w := .castable "java/lang/IllegalArgumentException" "java/lang/IllegalArgumentException") rfl)) hy1 hy2 hy3 ?_
  refine lv_astore_n (lv' := [(3, .ref q9), (0, .ref x), (1, .int n), (2, .ref o)]) hx hb dL_waxWanted_12 rfl hl (by decide) rfl (fun ls hl => ?_)
  refine lv_iconst (v := 1) hx hb dL_waxWanted_13 (by decide) ?_
  refine W.widen (k := (rm_L_waxWanted).cells) (n := (rm_L_waxWanted).slots) (Nat.le_of_ble_eq_true rfl) (Nat.le_of_ble_eq_true rfl) ?_
  exact k_xiret hx hb hr hlocks hK hw rfl dL_waxWanted_14 (by first | rfl | assumption | (simp only [if_true, if_false, Bool.false_eq_true, Bool.true_eq_false, reduceIte, reduceCtorEq]; done) | (simp only [if_true, if_false, Bool.false_eq_true, Bool.true_eq_false, reduceIte, reduceCtorEq]; rfl) | (simp [if_true, if_false, Bool.false_eq_true, Bool.true_eq_false, reduceIte, reduceCtorEq]; done) | (simp [bI, ]; done)) rfl rfl
