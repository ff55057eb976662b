abbrev rm_L_addShip : Room := { frames := 7, cells := 1, slots := 6, locals := 111 }
set_option maxHeartbeats 4000000 in
set_option maxRecDepth 100000 in
theorem c_L_addShip (l : Launch) (hflags : l.stackTraces = false) (E : Ev) (x : Nat) (A T B : Nat → Nat) (S U : CS) (G : HS) (k : Int32) (o : Nat) (f : Nat → Int64) (hT : t_addShip G k = 0) : XI l E yL_addShip wsL_addShip rm_L_addShip [.ref x, .int k, .ref o] (wX x A T B ++ wC E A (B 0) S ++ wC E T (B 0) U ++ wG E B G ++ [(o, aJ E 1 f)]) 0 0 (wX x A T B ++ wC E A (B 0) S ++ wC E T (B 0) U ++ wG E B (f_eship G k) ++ [(o, aJ E 1 (vp_updL f 0 ((nI (g_sc G) : Int32).toInt64)))]) := by
  refine k_bXIH (cc := cL_addShip) (maxL := 4) (ret := (some .int)) (by decide) rfl (Nat.le_of_ble_eq_true rfl) ?_
  intro p9 e s9 m args below meth c A9 ls hC ht9 hZ hl hw
  obtain ⟨hx, hb, hml, hr, hown, hts, hlocks, hK, hG, hA⟩ := hC
  have hl : lv_has ls 4 [(0, .ref x), (1, .int k), (2, .ref o)] := hl
  refine lv_aload_n hx hb dL_addShip_0 rfl (lv_at hl 2 rfl) ?_
  refine lv_iconst (v := 0) hx hb dL_addShip_1 (by decide) ?_
  refine lv_aload_n hx hb dL_addShip_2 rfl (lv_at hl 0 rfl) ?_
  refine lv_iload_n hx hb dL_addShip_3 rfl (lv_at hl 1 rfl) ?_
  refine krx_i (ws' := wX x A T B ++ wC E A (B 0) S ++ wC E T (B 0) U ++ wG E B (f_eship G k) ++ [(o, aJ E 1 f)]) (vx_runV (As := [.int k]) (rest := [.int 0, .ref o]) ⟨hx, hb, hml, hown, hts⟩ (c_X2_addShip l hflags E x A T B S U G k  _) (cwV 1 hts gL_addShip_X2_addShip rfl rfl rfl ⟨rfl, hd_X2_addShip⟩ ⟨Nat.le_of_ble_eq_true rfl, Nat.le_of_ble_eq_true rfl⟩) (pwV (ci := 2) (q0 := 0) (C := RX2) hw hK rfl rfl rfl (rpX (AV := [.ref x, .int k]) hw hK hG hZ hA rp_82)) rfl rfl hl.1 rfl (lv_room (Nat.le_of_ble_eq_true rfl)) dL_addShip_4 ⟨Nat.le_of_ble_eq_true rfl, Nat.le_of_ble_eq_true rfl⟩) hw hA rp_81 rp_82 (fun H locs ce9 q9 t_1 hw hy1 hy2 hy3 => absurd hT t_1) (fun H locs t_1 hw => ?_)
  refine lv_i2l (v := (nI (g_sc G) : Int32).toInt64) hx hb dL_addShip_7 rfl ?_
  refine k_lst (ws' := wX x A T B ++ wC E A (B 0) S ++ wC E T (B 0) U ++ wG E B (f_eship G k) ++ [(o, aJ E 1 (vp_updL f 0 ((nI (g_sc G) : Int32).toInt64)))]) hx hb hK hw 21 rfl (vp_in_nI (n := 0) (N := 1) (by decide) (by decide)) dL_addShip_8 rfl (fun H locs hw => ?_)
  refine lv_goto (tgt := 18) hx hb dL_addShip_9 (by decide) ?_
  refine lv_iconst (v := 0) hx hb dL_addShip_18 (by decide) ?_
  refine W.widen (k := (rm_L_addShip).cells) (n := (rm_L_addShip).slots) (Nat.le_of_ble_eq_true rfl) (Nat.le_of_ble_eq_true rfl) ?_
  exact k_xiret hx hb hr hlocks hK hw rfl dL_addShip_19 (by first | rfl | assumption | (simp only [if_true, if_false, Bool.false_eq_true, Bool.true_eq_false, reduceIte, reduceCtorEq]; done) | (simp only [if_true, if_false, Bool.false_eq_true, Bool.true_eq_false, reduceIte, reduceCtorEq]; rfl) | (simp [if_true, if_false, Bool.false_eq_true, Bool.true_eq_false, reduceIte, reduceCtorEq]; done) | (simp [bI, ]; done)) rfl rfl
set_option maxHeartbeats 4000000 in
set_option maxRecDepth 100000 in
theorem c_L_addShip_3 (l : Launch) (hflags : l.stackTraces = false) (E : Ev) (x : Nat) (A T B : Nat → Nat) (S U : CS) (G : HS) (k : Int32) (o : Nat) (f : Nat → Int64) (hT : t_addShip G k = 3) : XI l E yL_addShip wsL_addShip rm_L_addShip [.ref x, .int k, .ref o] (wX x A T B ++ wC E A (B 0) S ++ wC E T (B 0) U ++ wG E B G ++ [(o, aJ E 1 f)]) 0 1 (wX x A T B ++ wC E A (B 0) S ++ wC E T (B 0) U ++ wG E B G ++ [(o, aJ E 1 f)]) := by
  refine k_bXIH (cc := cL_addShip) (maxL := 4) (ret := (some .int)) (by decide) rfl (Nat.le_of_ble_eq_true rfl) ?_
  intro p9 e s9 m args below meth c A9 ls hC ht9 hZ hl hw
  obtain ⟨hx, hb, hml, hr, hown, hts, hlocks, hK, hG, hA⟩ := hC
  have hq0 := hts (.classLink RL 13 "java/lang/IllegalArgumentException") (List.mem_of_getElem? (i := 1) rfl)
  have hl : lv_has ls 4 [(0, .ref x), (1, .int k), (2, .ref o)] := hl
  refine lv_aload_n hx hb dL_addShip_0 rfl (lv_at hl 2 rfl) ?_
  refine lv_iconst (v := 0) hx hb dL_addShip_1 (by decide) ?_
  refine lv_aload_n hx hb dL_addShip_2 rfl (lv_at hl 0 rfl) ?_
  refine lv_iload_n hx hb dL_addShip_3 rfl (lv_at hl 1 rfl) ?_
  refine krx_i (ws' := wX x A T B ++ wC E A (B 0) S ++ wC E T (B 0) U ++ wG E B (f_eship G k) ++ [(o, aJ E 1 f)]) (vx_runV (As := [.int k]) (rest := [.int 0, .ref o]) ⟨hx, hb, hml, hown, hts⟩ (c_X2_addShip l hflags E x A T B S U G k  _) (cwV 1 hts gL_addShip_X2_addShip rfl rfl rfl ⟨rfl, hd_X2_addShip⟩ ⟨Nat.le_of_ble_eq_true rfl, Nat.le_of_ble_eq_true rfl⟩) (pwV (ci := 2) (q0 := 0) (C := RX2) hw hK rfl rfl rfl (rpX (AV := [.ref x, .int k]) hw hK hG hZ hA rp_82)) rfl rfl hl.1 rfl (lv_room (Nat.le_of_ble_eq_true rfl)) dL_addShip_4 ⟨Nat.le_of_ble_eq_true rfl, Nat.le_of_ble_eq_true rfl⟩) hw hA rp_81 rp_82 (fun H locs ce9 q9 t_1 hw hy1 hy2 hy3 => ?_) (fun H locs t_1 hw => absurd (t_1.symm.trans hT) (by decide))
  have hy3 : s9.vm.findClass "java/lang/IllegalArgumentException" = some ce9.cls := by rw [hT] at hy3; exact hy3
  refine vx_catch hown [] ⟨0, 9, 12, 13⟩ [⟨0, 9, 15, 15⟩] (ht9.trans rfl) (fun z hz => absurd hz List.not_mem_nil) (by decide) (by decide) hq0 (va_Nw.use rfl (hG.nw 25 (w := .castable "java/lang/IllegalArgumentException" "java/lang/IllegalArgumentException") rfl)) hy1 hy2 hy3 ?_
  refine lv_astore_n (lv' := [(3, .ref q9), (0, .ref x), (1, .int k), (2, .ref o)]) hx hb dL_addShip_12 rfl hl (by decide) rfl (fun ls hl => ?_)
  refine lv_iconst (v := 1) hx hb dL_addShip_13 (by decide) ?_
  refine W.widen (k := (rm_L_addShip).cells) (n := (rm_L_addShip).slots) (Nat.le_of_ble_eq_true rfl) (Nat.le_of_ble_eq_true rfl) ?_
  exact k_xiret hx hb hr hlocks hK hw rfl dL_addShip_14 (by first | rfl | assumption | (simp only [if_true, if_false, Bool.false_eq_true, Bool.true_eq_false, reduceIte, reduceCtorEq]; done) | (simp only [if_true, if_false, Bool.false_eq_true, Bool.true_eq_false, reduceIte, reduceCtorEq]; rfl) | (simp [if_true, if_false, Bool.false_eq_true, Bool.true_eq_false, reduceIte, reduceCtorEq]; done) | (simp [bI, ]; done)) rfl rfl
set_option maxHeartbeats 4000000 in
set_option maxRecDepth 100000 in
theorem c_L_addShip_2 (l : Launch) (hflags : l.stackTraces = false) (E : Ev) (x : Nat) (A T B : Nat → Nat) (S U : CS) (G : HS) (k : Int32) (o : Nat) (f : Nat → Int64) (hT : t_addShip G k = 2) : XI l E yL_addShip wsL_addShip rm_L_addShip [.ref x, .int k, .ref o] (wX x A T B ++ wC E A (B 0) S ++ wC E T (B 0) U ++ wG E B G ++ [(o, aJ E 1 f)]) 0 2 (wX x A T B ++ wC E A (B 0) S ++ wC E T (B 0) U ++ wG E B G ++ [(o, aJ E 1 f)]) := by
  refine k_bXIH (cc := cL_addShip) (maxL := 4) (ret := (some .int)) (by decide) rfl (Nat.le_of_ble_eq_true rfl) ?_
  intro p9 e s9 m args below meth c A9 ls hC ht9 hZ hl hw
  obtain ⟨hx, hb, hml, hr, hown, hts, hlocks, hK, hG, hA⟩ := hC
  have hq0 := hts (.classLink RL 13 "java/lang/IllegalArgumentException") (List.mem_of_getElem? (i := 1) rfl)
  have hq1 := hts (.classLink RL 15 "java/lang/IllegalStateException") (List.mem_of_getElem? (i := 2) rfl)
  have hl : lv_has ls 4 [(0, .ref x), (1, .int k), (2, .ref o)] := hl
  refine lv_aload_n hx hb dL_addShip_0 rfl (lv_at hl 2 rfl) ?_
  refine lv_iconst (v := 0) hx hb dL_addShip_1 (by decide) ?_
  refine lv_aload_n hx hb dL_addShip_2 rfl (lv_at hl 0 rfl) ?_
  refine lv_iload_n hx hb dL_addShip_3 rfl (lv_at hl 1 rfl) ?_
  refine krx_i (ws' := wX x A T B ++ wC E A (B 0) S ++ wC E T (B 0) U ++ wG E B (f_eship G k) ++ [(o, aJ E 1 f)]) (vx_runV (As := [.int k]) (rest := [.int 0, .ref o]) ⟨hx, hb, hml, hown, hts⟩ (c_X2_addShip l hflags E x A T B S U G k  _) (cwV 1 hts gL_addShip_X2_addShip rfl rfl rfl ⟨rfl, hd_X2_addShip⟩ ⟨Nat.le_of_ble_eq_true rfl, Nat.le_of_ble_eq_true rfl⟩) (pwV (ci := 2) (q0 := 0) (C := RX2) hw hK rfl rfl rfl (rpX (AV := [.ref x, .int k]) hw hK hG hZ hA rp_82)) rfl rfl hl.1 rfl (lv_room (Nat.le_of_ble_eq_true rfl)) dL_addShip_4 ⟨Nat.le_of_ble_eq_true rfl, Nat.le_of_ble_eq_true rfl⟩) hw hA rp_81 rp_82 (fun H locs ce9 q9 t_1 hw hy1 hy2 hy3 => ?_) (fun H locs t_1 hw => absurd (t_1.symm.trans hT) (by decide))
  have hy3 : s9.vm.findClass "java/lang/IllegalStateException" = some ce9.cls := by rw [hT] at hy3; exact hy3
  refine vx_catch hown [⟨0, 9, 12, 13⟩] ⟨0, 9, 15, 15⟩ [] (ht9.trans rfl) (fun z hz => by rcases List.mem_singleton.mp hz with rfl; exact Or.inr ⟨by decide, "java/lang/IllegalArgumentException", hq0, hG.2.2 ("java/lang/IllegalStateException", "java/lang/IllegalArgumentException") (List.mem_of_getElem? (i := 3) rfl)⟩) (by decide) (by decide) hq1 (va_Nw.use rfl (hG.nw 24 (w := .castable "java/lang/IllegalStateException" "java/lang/IllegalStateException") rfl)) hy1 hy2 hy3 ?_
  refine lv_astore_n (lv' := [(3, .ref q9), (0, .ref x), (1, .int k), (2, .ref o)]) hx hb dL_addShip_15 rfl hl (by decide) rfl (fun ls hl => ?_)
  refine lv_iconst (v := 2) hx hb dL_addShip_16 (by decide) ?_
  refine W.widen (k := (rm_L_addShip).cells) (n := (rm_L_addShip).slots) (Nat.le_of_ble_eq_true rfl) (Nat.le_of_ble_eq_true rfl) ?_
  exact k_xiret hx hb hr hlocks hK hw rfl dL_addShip_17 (by first | rfl | assumption | (simp only [if_true, if_false, Bool.false_eq_true, Bool.true_eq_false, reduceIte, reduceCtorEq]; done) | (simp only [if_true, if_false, Bool.false_eq_true, Bool.true_eq_false, reduceIte, reduceCtorEq]; rfl) | (simp [if_true, if_false, Bool.false_eq_true, Bool.true_eq_false, reduceIte, reduceCtorEq]; done) | (simp [bI, ]; done)) rfl rfl
abbrev rm_L_addSailor : Room := { frames := 8, cells := 2, slots := 12, locals := 134 }
set_option maxHeartbeats 4000000 in
set_option maxRecDepth 100000 in
theorem c_L_addSailor (l : Launch) (hflags : l.stackTraces = false) (E : Ev) (x : Nat) (A T B : Nat → Nat) (S U : CS) (G : HS) (s : Int32) (k : Int32) (v : Bool) (o : Nat) (f : Nat → Int64) (hT : t_addSailor G S s k = 0) : XI l E yL_addSailor wsL_addSailor rm_L_addSailor [.ref x, .int s, .int k, .int (bI v), .ref o] (wX x A T B ++ wC E A (B 0) S ++ wC E T (B 0) U ++ wG E B G ++ [(o, aJ E 1 f)]) 0 0 (wX x A T B ++ wC E A (B 0) S ++ wC E T (B 0) U ++ wG E B (f_esail G s k v) ++ [(o, aJ E 1 (vp_updL f 0 ((nI (g_pc G) : Int32).toInt64)))]) := by
  refine k_bXIH (cc := cL_addSailor) (maxL := 6) (ret := (some .int)) (by decide) rfl (Nat.le_of_ble_eq_true rfl) ?_
  intro p9 e s9 m args below meth c A9 ls hC ht9 hZ hl hw
  obtain ⟨hx, hb, hml, hr, hown, hts, hlocks, hK, hG, hA⟩ := hC
  have hl : lv_has ls 6 [(0, .ref x), (1, .int s), (2, .int k), (3, .int (bI v)), (4, .ref o)] := hl
  refine lv_aload hx hb dL_addSailor_0 (lv_at hl 4 rfl) ?_
  refine lv_iconst (v := 0) hx hb dL_addSailor_2 (by decide) ?_
  refine lv_aload_n hx hb dL_addSailor_3 rfl (lv_at hl 0 rfl) ?_
  refine lv_iload_n hx hb dL_addSailor_4 rfl (lv_at hl 1 rfl) ?_
  refine lv_iload_n hx hb dL_addSailor_5 rfl (lv_at hl 2 rfl) ?_
  refine lv_iload_n hx hb dL_addSailor_6 rfl (lv_at hl 3 rfl) ?_
  refine krx_i (ws' := wX x A T B ++ wC E A (B 0) S ++ wC E T (B 0) U ++ wG E B (f_esail G s k v) ++ [(o, aJ E 1 f)]) (vx_runV (As := [.int s, .int k, .int (bI v)]) (rest := [.int 0, .ref o]) ⟨hx, hb, hml, hown, hts⟩ (c_X2_addSailor l hflags E x A T B S U G s k v  _) (cwV 3 hts gL_addSailor_X2_addSailor rfl rfl rfl ⟨rfl, hd_X2_addSailor⟩ ⟨Nat.le_of_ble_eq_true rfl, Nat.le_of_ble_eq_true rfl⟩) (pwV (ci := 2) (q0 := 0) (C := RX2) hw hK rfl rfl rfl (rpX (AV := [.ref x, .int s, .int k, .int (bI v)]) hw hK hG hZ hA rp_82)) rfl rfl hl.1 rfl (lv_room (Nat.le_of_ble_eq_true rfl)) dL_addSailor_7 ⟨Nat.le_of_ble_eq_true rfl, Nat.le_of_ble_eq_true rfl⟩) hw hA rp_81 rp_82 (fun H locs ce9 q9 t_1 hw hy1 hy2 hy3 => absurd hT t_1) (fun H locs t_1 hw => ?_)
  refine lv_i2l (v := (nI (g_pc G) : Int32).toInt64) hx hb dL_addSailor_10 rfl ?_
  refine k_lst (ws' := wX x A T B ++ wC E A (B 0) S ++ wC E T (B 0) U ++ wG E B (f_esail G s k v) ++ [(o, aJ E 1 (vp_updL f 0 ((nI (g_pc G) : Int32).toInt64)))]) hx hb hK hw 21 rfl (vp_in_nI (n := 0) (N := 1) (by decide) (by decide)) dL_addSailor_11 rfl (fun H locs hw => ?_)
  refine lv_goto (tgt := 23) hx hb dL_addSailor_12 (by decide) ?_
  refine lv_iconst (v := 0) hx hb dL_addSailor_23 (by decide) ?_
  refine W.widen (k := (rm_L_addSailor).cells) (n := (rm_L_addSailor).slots) (Nat.le_of_ble_eq_true rfl) (Nat.le_of_ble_eq_true rfl) ?_
  exact k_xiret hx hb hr hlocks hK hw rfl dL_addSailor_24 (by first | rfl | assumption | (simp only [if_true, if_false, Bool.false_eq_true, Bool.true_eq_false, reduceIte, reduceCtorEq]; done) | (simp only [if_true, if_false, Bool.false_eq_true, Bool.true_eq_false, reduceIte, reduceCtorEq]; rfl) | (simp [if_true, if_false, Bool.false_eq_true, Bool.true_eq_false, reduceIte, reduceCtorEq]; done) | (simp [bI, ]; done)) rfl rfl
set_option maxHeartbeats 4000000 in
set_option maxRecDepth 100000 in
theorem c_L_addSailor_1 (l : Launch) (hflags : l.stackTraces = false) (E : Ev) (x : Nat) (A T B : Nat → Nat) (S U : CS) (G : HS) (s : Int32) (k : Int32) (v : Bool) (o : Nat) (f : Nat → Int64) (hT : t_addSailor G S s k = 1) : XI l E yL_addSailor wsL_addSailor rm_L_addSailor [.ref x, .int s, .int k, .int (bI v), .ref o] (wX x A T B ++ wC E A (B 0) S ++ wC E T (B 0) U ++ wG E B G ++ [(o, aJ E 1 f)]) 0 1 (wX x A T B ++ wC E A (B 0) S ++ wC E T (B 0) U ++ wG E B G ++ [(o, aJ E 1 f)]) := by
  refine k_bXIH (cc := cL_addSailor) (maxL := 6) (ret := (some .int)) (by decide) rfl (Nat.le_of_ble_eq_true rfl) ?_
  intro p9 e s9 m args below meth c A9 ls hC ht9 hZ hl hw
  obtain ⟨hx, hb, hml, hr, hown, hts, hlocks, hK, hG, hA⟩ := hC
  have hq0 := hts (.classLink RL 21 "java/lang/IndexOutOfBoundsException") (List.mem_of_getElem? (i := 1) rfl)
  have hl : lv_has ls 6 [(0, .ref x), (1, .int s), (2, .int k), (3, .int (bI v)), (4, .ref o)] := hl
  refine lv_aload hx hb dL_addSailor_0 (lv_at hl 4 rfl) ?_
  refine lv_iconst (v := 0) hx hb dL_addSailor_2 (by decide) ?_
  refine lv_aload_n hx hb dL_addSailor_3 rfl (lv_at hl 0 rfl) ?_
  refine lv_iload_n hx hb dL_addSailor_4 rfl (lv_at hl 1 rfl) ?_
  refine lv_iload_n hx hb dL_addSailor_5 rfl (lv_at hl 2 rfl) ?_
  refine lv_iload_n hx hb dL_addSailor_6 rfl (lv_at hl 3 rfl) ?_
  refine krx_i (ws' := wX x A T B ++ wC E A (B 0) S ++ wC E T (B 0) U ++ wG E B (f_esail G s k v) ++ [(o, aJ E 1 f)]) (vx_runV (As := [.int s, .int k, .int (bI v)]) (rest := [.int 0, .ref o]) ⟨hx, hb, hml, hown, hts⟩ (c_X2_addSailor l hflags E x A T B S U G s k v  _) (cwV 3 hts gL_addSailor_X2_addSailor rfl rfl rfl ⟨rfl, hd_X2_addSailor⟩ ⟨Nat.le_of_ble_eq_true rfl, Nat.le_of_ble_eq_true rfl⟩) (pwV (ci := 2) (q0 := 0) (C := RX2) hw hK rfl rfl rfl (rpX (AV := [.ref x, .int s, .int k, .int (bI v)]) hw hK hG hZ hA rp_82)) rfl rfl hl.1 rfl (lv_room (Nat.le_of_ble_eq_true rfl)) dL_addSailor_7 ⟨Nat.le_of_ble_eq_true rfl, Nat.le_of_ble_eq_true rfl⟩) hw hA rp_81 rp_82 (fun H locs ce9 q9 t_1 hw hy1 hy2 hy3 => ?_) (fun H locs t_1 hw => absurd (t_1.symm.trans hT) (by decide))
  have hy3 : s9.vm.findClass "java/lang/IndexOutOfBoundsException" = some ce9.cls := by rw [hT] at hy3; exact hy3
  refine vx_catch hown [] ⟨0, 12, 15, 21⟩ [⟨0, 12, 19, 15⟩] (ht9.trans rfl) (fun z hz => absurd hz List.not_mem_nil) (by decide) (by decide) hq0 (va_Nw.use rfl (hG.nw 23 (w := .castable "java/lang/IndexOutOfBoundsException" "java/lang/IndexOutOfBoundsException") rfl)) hy1 hy2 hy3 ?_
  refine lv_astore (lv' := [(5, .ref q9), (0, .ref x), (1, .int s), (2, .int k), (3, .int (bI v)), (4, .ref o)]) hx hb dL_addSailor_15 hl (by decide) rfl (fun ls hl => ?_)
  refine lv_iconst (v := 1) hx hb dL_addSailor_17 (by decide) ?_
  refine W.widen (k := (rm_L_addSailor).cells) (n := (rm_L_addSailor).slots) (Nat.le_of_ble_eq_true rfl) (Nat.le_of_ble_eq_true rfl) ?_
  exact k_xiret hx hb hr hlocks hK hw rfl dL_addSailor_18 (by first | rfl | assumption | (simp only [if_true, if_false, Bool.false_eq_true, Bool.true_eq_false, reduceIte, reduceCtorEq]; done) | (simp only [if_true, if_false, Bool.false_eq_true, Bool.true_eq_false, reduceIte, reduceCtorEq]; rfl) | (simp [if_true, if_false, Bool.false_eq_true, Bool.true_eq_false, reduceIte, reduceCtorEq]; done) | (simp [bI, ]; done)) rfl rfl
set_option maxHeartbeats 4000000 in
set_option maxRecDepth 100000 in
theorem c_L_addSailor_2 (l : Launch) (hflags : l.stackTraces = false) (E : Ev) (x : Nat) (A T B : Nat → Nat) (S U : CS) (G : HS) (s : Int32) (k : Int32) (v : Bool) (o : Nat) (f : Nat → Int64) (hT : t_addSailor G S s k = 2) : XI l E yL_addSailor wsL_addSailor rm_L_addSailor [.ref x, .int s, .int k, .int (bI v), .ref o] (wX x A T B ++ wC E A (B 0) S ++ wC E T (B 0) U ++ wG E B G ++ [(o, aJ E 1 f)]) 0 2 (wX x A T B ++ wC E A (B 0) S ++ wC E T (B 0) U ++ wG E B G ++ [(o, aJ E 1 f)]) := by
  refine k_bXIH (cc := cL_addSailor) (maxL := 6) (ret := (some .int)) (by decide) rfl (Nat.le_of_ble_eq_true rfl) ?_
  intro p9 e s9 m args below meth c A9 ls hC ht9 hZ hl hw
  obtain ⟨hx, hb, hml, hr, hown, hts, hlocks, hK, hG, hA⟩ := hC
  have hq0 := hts (.classLink RL 21 "java/lang/IndexOutOfBoundsException") (List.mem_of_getElem? (i := 1) rfl)
  have hq1 := hts (.classLink RL 15 "java/lang/IllegalStateException") (List.mem_of_getElem? (i := 2) rfl)
  have hl : lv_has ls 6 [(0, .ref x), (1, .int s), (2, .int k), (3, .int (bI v)), (4, .ref o)] := hl
  refine lv_aload hx hb dL_addSailor_0 (lv_at hl 4 rfl) ?_
  refine lv_iconst (v := 0) hx hb dL_addSailor_2 (by decide) ?_
  refine lv_aload_n hx hb dL_addSailor_3 rfl (lv_at hl 0 rfl) ?_
  refine lv_iload_n hx hb dL_addSailor_4 rfl (lv_at hl 1 rfl) ?_
  refine lv_iload_n hx hb dL_addSailor_5 rfl (lv_at hl 2 rfl) ?_
  refine lv_iload_n hx hb dL_addSailor_6 rfl (lv_at hl 3 rfl) ?_
  refine krx_i (ws' := wX x A T B ++ wC E A (B 0) S ++ wC E T (B 0) U ++ wG E B (f_esail G s k v) ++ [(o, aJ E 1 f)]) (vx_runV (As := [.int s, .int k, .int (bI v)]) (rest := [.int 0, .ref o]) ⟨hx, hb, hml, hown, hts⟩ (c_X2_addSailor l hflags E x A T B S U G s k v  _) (cwV 3 hts gL_addSailor_X2_addSailor rfl rfl rfl ⟨rfl, hd_X2_addSailor⟩ ⟨Nat.le_of_ble_eq_true rfl, Nat.le_of_ble_eq_true rfl⟩) (pwV (ci := 2) (q0 := 0) (C := RX2) hw hK rfl rfl rfl (rpX (AV := [.ref x, .int s, .int k, .int (bI v)]) hw hK hG hZ hA rp_82)) rfl rfl hl.1 rfl (lv_room (Nat.le_of_ble_eq_true rfl)) dL_addSailor_7 ⟨Nat.le_of_ble_eq_true rfl, Nat.le_of_ble_eq_true rfl⟩) hw hA rp_81 rp_82 (fun H locs ce9 q9 t_1 hw hy1 hy2 hy3 => ?_) (fun H locs t_1 hw => absurd (t_1.symm.trans hT) (by decide))
  have hy3 : s9.vm.findClass "java/lang/IllegalStateException" = some ce9.cls := by rw [hT] at hy3; exact hy3
  refine vx_catch hown [⟨0, 12, 15, 21⟩] ⟨0, 12, 19, 15⟩ [] (ht9.trans rfl) (fun z hz => by rcases List.mem_singleton.mp hz with rfl; exact Or.inr ⟨by decide, "java/lang/IndexOutOfBoundsException", hq0, hG.2.2 ("java/lang/IllegalStateException", "java/lang/IndexOutOfBoundsException") (List.mem_of_getElem? (i := 2) rfl)⟩) (by decide) (by decide) hq1 (va_Nw.use rfl (hG.nw 24 (w := .castable "java/lang/IllegalStateException" "java/lang/IllegalStateException") rfl)) hy1 hy2 hy3 ?_
  refine lv_astore (lv' := [(5, .ref q9), (0, .ref x), (1, .int s), (2, .int k), (3, .int (bI v)), (4, .ref o)]) hx hb dL_addSailor_19 hl (by decide) rfl (fun ls hl => ?_)
  refine lv_iconst (v := 2) hx hb dL_addSailor_21 (by decide) ?_
  refine W.widen (k := (rm_L_addSailor).cells) (n := (rm_L_addSailor).slots) (Nat.le_of_ble_eq_true rfl) (Nat.le_of_ble_eq_true rfl) ?_
  exact k_xiret hx hb hr hlocks hK hw rfl dL_addSailor_22 (by first | rfl | assumption | (simp only [if_true, if_false, Bool.false_eq_true, Bool.true_eq_false, reduceIte, reduceCtorEq]; done) | (simp only [if_true, if_false, Bool.false_eq_true, Bool.true_eq_false, reduceIte, reduceCtorEq]; rfl) | (simp [if_true, if_false, Bool.false_eq_true, Bool.true_eq_false, reduceIte, reduceCtorEq]; done) | (simp [bI, ]; done)) rfl rfl
abbrev rm_L_addWatcher : Room := { frames := 7, cells := 1, slots := 6, locals := 111 }
set_option maxHeartbeats 4000000 in
set_option maxRecDepth 100000 in
theorem c_L_addWatcher (l : Launch) (hflags : l.stackTraces = false) (E : Ev) (x : Nat) (A T B : Nat → Nat) (S U : CS) (G : HS) (o : Nat) (f : Nat → Int64) (hT : t_addWatcher G = 0) : XI l E yL_addWatcher wsL_addWatcher rm_L_addWatcher [.ref x, .ref o] (wX x A T B ++ wC E A (B 0) S ++ wC E T (B 0) U ++ wG E B G ++ [(o, aJ E 1 f)]) 0 0 (wX x A T B ++ wC E A (B 0) (f_addWatcher G S) ++ wC E T (B 0) U ++ wG E B (f_ewat G) ++ [(o, aJ E 1 (vp_updL f 0 ((nI (g_wc G) : Int32).toInt64)))]) := by
  refine k_bXIH (cc := cL_addWatcher) (maxL := 3) (ret := (some .int)) (by decide) rfl (Nat.le_of_ble_eq_true rfl) ?_
  intro p9 e s9 m args below meth c A9 ls hC ht9 hZ hl hw
  obtain ⟨hx, hb, hml, hr, hown, hts, hlocks, hK, hG, hA⟩ := hC
  have hl : lv_has ls 3 [(0, .ref x), (1, .ref o)] := hl
  refine lv_aload_n hx hb dL_addWatcher_0 rfl (lv_at hl 1 rfl) ?_
  refine lv_iconst (v := 0) hx hb dL_addWatcher_1 (by decide) ?_
  refine lv_aload_n hx hb dL_addWatcher_2 rfl (lv_at hl 0 rfl) ?_
  refine krx_i (ws' := wX x A T B ++ wC E A (B 0) (f_addWatcher G S) ++ wC E T (B 0) U ++ wG E B (f_ewat G) ++ [(o, aJ E 1 f)]) (vx_runV (As := []) (rest := [.int 0, .ref o]) ⟨hx, hb, hml, hown, hts⟩ (c_X2_addWatcher l hflags E x A T B S U G  _) (cwV 0 hts gL_addWatcher_X2_addWatcher rfl rfl rfl ⟨rfl, hd_X2_addWatcher⟩ ⟨Nat.le_of_ble_eq_true rfl, Nat.le_of_ble_eq_true rfl⟩) (pwV (ci := 2) (q0 := 0) (C := RX2) hw hK rfl rfl rfl (rpX (AV := [.ref x]) hw hK hG hZ hA rp_82)) rfl rfl hl.1 rfl (lv_room (Nat.le_of_ble_eq_true rfl)) dL_addWatcher_3 ⟨Nat.le_of_ble_eq_true rfl, Nat.le_of_ble_eq_true rfl⟩) hw hA rp_83 rp_82 (fun H locs ce9 q9 t_1 hw hy1 hy2 hy3 => absurd hT t_1) (fun H locs t_1 hw => ?_)
  refine lv_i2l (v := (nI (g_wc G) : Int32).toInt64) hx hb dL_addWatcher_6 rfl ?_
  refine k_lst (ws' := wX x A T B ++ wC E A (B 0) (f_addWatcher G S) ++ wC E T (B 0) U ++ wG E B (f_ewat G) ++ [(o, aJ E 1 (vp_updL f 0 ((nI (g_wc G) : Int32).toInt64)))]) hx hb hK hw 21 rfl (vp_in_nI (n := 0) (N := 1) (by decide) (by decide)) dL_addWatcher_7 rfl (fun H locs hw => ?_)
  refine lv_goto (tgt := 14) hx hb dL_addWatcher_8 (by decide) ?_
  refine lv_iconst (v := 0) hx hb dL_addWatcher_14 (by decide) ?_
  refine W.widen (k := (rm_L_addWatcher).cells) (n := (rm_L_addWatcher).slots) (Nat.le_of_ble_eq_true rfl) (Nat.le_of_ble_eq_true rfl) ?_
  exact k_xiret hx hb hr hlocks hK hw rfl dL_addWatcher_15 (by first | rfl | assumption | (simp only [if_true, if_false, Bool.false_eq_true, Bool.true_eq_false, reduceIte, reduceCtorEq]; done) | (simp only [if_true, if_false, Bool.false_eq_true, Bool.true_eq_false, reduceIte, reduceCtorEq]; rfl) | (simp [if_true, if_false, Bool.false_eq_true, Bool.true_eq_false, reduceIte, reduceCtorEq]; done) | (simp [bI, ]; done)) rfl rfl
set_option maxHeartbeats 4000000 in
set_option maxRecDepth 100000 in
theorem c_L_addWatcher_2 (l : Launch) (hflags : l.stackTraces = false) (E : Ev) (x : Nat) (A T B : Nat → Nat) (S U : CS) (G : HS) (o : Nat) (f : Nat → Int64) (hT : t_addWatcher G = 2) : XI l E yL_addWatcher wsL_addWatcher rm_L_addWatcher [.ref x, .ref o] (wX x A T B ++ wC E A (B 0) S ++ wC E T (B 0) U ++ wG E B G ++ [(o, aJ E 1 f)]) 0 1 (wX x A T B ++ wC E A (B 0) S ++ wC E T (B 0) U ++ wG E B G ++ [(o, aJ E 1 f)]) := by
  refine k_bXIH (cc := cL_addWatcher) (maxL := 3) (ret := (some .int)) (by decide) rfl (Nat.le_of_ble_eq_true rfl) ?_
  intro p9 e s9 m args below meth c A9 ls hC ht9 hZ hl hw
  obtain ⟨hx, hb, hml, hr, hown, hts, hlocks, hK, hG, hA⟩ := hC
  have hq0 := hts (.classLink RL 15 "java/lang/IllegalStateException") (List.mem_of_getElem? (i := 1) rfl)
  have hl : lv_has ls 3 [(0, .ref x), (1, .ref o)] := hl
  refine lv_aload_n hx hb dL_addWatcher_0 rfl (lv_at hl 1 rfl) ?_
  refine lv_iconst (v := 0) hx hb dL_addWatcher_1 (by decide) ?_
  refine lv_aload_n hx hb dL_addWatcher_2 rfl (lv_at hl 0 rfl) ?_
  refine krx_i (ws' := wX x A T B ++ wC E A (B 0) (f_addWatcher G S) ++ wC E T (B 0) U ++ wG E B (f_ewat G) ++ [(o, aJ E 1 f)]) (vx_runV (As := []) (rest := [.int 0, .ref o]) ⟨hx, hb, hml, hown, hts⟩ (c_X2_addWatcher l hflags E x A T B S U G  _) (cwV 0 hts gL_addWatcher_X2_addWatcher rfl rfl rfl ⟨rfl, hd_X2_addWatcher⟩ ⟨Nat.le_of_ble_eq_true rfl, Nat.le_of_ble_eq_true rfl⟩) (pwV (ci := 2) (q0 := 0) (C := RX2) hw hK rfl rfl rfl (rpX (AV := [.ref x]) hw hK hG hZ hA rp_82)) rfl rfl hl.1 rfl (lv_room (Nat.le_of_ble_eq_true rfl)) dL_addWatcher_3 ⟨Nat.le_of_ble_eq_true rfl, Nat.le_of_ble_eq_true rfl⟩) hw hA rp_83 rp_82 (fun H locs ce9 q9 t_1 hw hy1 hy2 hy3 => ?_) (fun H locs t_1 hw => absurd (t_1.symm.trans hT) (by decide))
  have hy3 : s9.vm.findClass "java/lang/IllegalStateException" = some ce9.cls := by rw [hT] at hy3; exact hy3
  refine vx_catch hown [] ⟨0, 8, 11, 15⟩ [] (ht9.trans rfl) (fun z hz => absurd hz List.not_mem_nil) (by decide) (by decide) hq0 (va_Nw.use rfl (hG.nw 24 (w := .castable "java/lang/IllegalStateException" "java/lang/IllegalStateException") rfl)) hy1 hy2 hy3 ?_
  refine lv_astore_n (lv' := [(2, .ref q9), (0, .ref x), (1, .ref o)]) hx hb dL_addWatcher_11 rfl hl (by decide) rfl (fun ls hl => ?_)
  refine lv_iconst (v := 1) hx hb dL_addWatcher_12 (by decide) ?_
  refine W.widen (k := (rm_L_addWatcher).cells) (n := (rm_L_addWatcher).slots) (Nat.le_of_ble_eq_true rfl) (Nat.le_of_ble_eq_true rfl) ?_
  exact k_xiret hx hb hr hlocks hK hw rfl dL_addWatcher_13 (by first | rfl | assumption | (simp only [if_true, if_false, Bool.false_eq_true, Bool.true_eq_false, reduceIte, reduceCtorEq]; done) | (simp only [if_true, if_false, Bool.false_eq_true, Bool.true_eq_false, reduceIte, reduceCtorEq]; rfl) | (simp [if_true, if_false, Bool.false_eq_true, Bool.true_eq_false, reduceIte, reduceCtorEq]; done) | (simp [bI, ]; done)) rfl rfl
abbrev rm_L_buyWax : Room := { frames := 7, cells := 1, slots := 6, locals := 111 }
set_option maxHeartbeats 4000000 in
set_option maxRecDepth 100000 in
theorem c_L_buyWax (l : Launch) (hflags : l.stackTraces = false) (E : Ev) (x : Nat) (A T B : Nat → Nat) (S U : CS) (G : HS) (k : Int32) (o : Nat) (f : Nat → Int64) (hT : t_buyWax k = 0) : XI l E yL_buyWax wsL_buyWax rm_L_buyWax [.ref x, .int k, .ref o] (wX x A T B ++ wC E A (B 0) S ++ wC E T (B 0) U ++ wG E B G ++ [(o, aJ E 1 f)]) 0 0 (wX x A T B ++ wC E A (B 0) (p_wa S (c_wa S + k)) ++ wC E T (B 0) U ++ wG E B G ++ [(o, aJ E 1 (vp_updL f 0 ((c_wa S + k : Int32).toInt64)))]) := by
  refine k_bXIH (cc := cL_buyWax) (maxL := 4) (ret := (some .int)) (by decide) rfl (Nat.le_of_ble_eq_true rfl) ?_
  intro p9 e s9 m args below meth c A9 ls hC ht9 hZ hl hw
  obtain ⟨hx, hb, hml, hr, hown, hts, hlocks, hK, hG, hA⟩ := hC
  have hl : lv_has ls 4 [(0, .ref x), (1, .int k), (2, .ref o)] := hl
  refine lv_aload_n hx hb dL_buyWax_0 rfl (lv_at hl 2 rfl) ?_
  refine lv_iconst (v := 0) hx hb dL_buyWax_1 (by decide) ?_
  refine lv_aload_n hx hb dL_buyWax_2 rfl (lv_at hl 0 rfl) ?_
  refine lv_iload_n hx hb dL_buyWax_3 rfl (lv_at hl 1 rfl) ?_
  refine krx_i (ws' := wX x A T B ++ wC E A (B 0) (p_wa S (c_wa S + k)) ++ wC E T (B 0) U ++ wG E B G ++ [(o, aJ E 1 f)]) (vx_runV (As := [.int k]) (rest := [.int 0, .ref o]) ⟨hx, hb, hml, hown, hts⟩ (c_X2_buyWax l hflags E x A T B S U G k  _) (cwV 1 hts gL_buyWax_X2_buyWax rfl rfl rfl ⟨rfl, hd_X2_buyWax⟩ ⟨Nat.le_of_ble_eq_true rfl, Nat.le_of_ble_eq_true rfl⟩) (pwV (ci := 2) (q0 := 0) (C := RX2) hw hK rfl rfl rfl (rpX (AV := [.ref x, .int k]) hw hK hG hZ hA rp_82)) rfl rfl hl.1 rfl (lv_room (Nat.le_of_ble_eq_true rfl)) dL_buyWax_4 ⟨Nat.le_of_ble_eq_true rfl, Nat.le_of_ble_eq_true rfl⟩) hw hA rp_84 rp_82 (fun H locs ce9 q9 t_1 hw hy1 hy2 hy3 => absurd hT t_1) (fun H locs t_1 hw => ?_)
  refine lv_i2l (v := (c_wa S + k : Int32).toInt64) hx hb dL_buyWax_7 rfl ?_
  refine k_lst (ws' := wX x A T B ++ wC E A (B 0) (p_wa S (c_wa S + k)) ++ wC E T (B 0) U ++ wG E B G ++ [(o, aJ E 1 (vp_updL f 0 ((c_wa S + k : Int32).toInt64)))]) hx hb hK hw 21 rfl (vp_in_nI (n := 0) (N := 1) (by decide) (by decide)) dL_buyWax_8 rfl (fun H locs hw => ?_)
  refine lv_goto (tgt := 15) hx hb dL_buyWax_9 (by decide) ?_
  refine lv_iconst (v := 0) hx hb dL_buyWax_15 (by decide) ?_
  refine W.widen (k := (rm_L_buyWax).cells) (n := (rm_L_buyWax).slots) (Nat.le_of_ble_eq_true rfl) (Nat.le_of_ble_eq_true rfl) ?_
  exact k_xiret hx hb hr hlocks hK hw rfl dL_buyWax_16 (by first | rfl | assumption | (simp only [if_true, if_false, Bool.false_eq_true, Bool.true_eq_false, reduceIte, reduceCtorEq]; done) | (simp only [if_true, if_false, Bool.false_eq_true, Bool.true_eq_false, reduceIte, reduceCtorEq]; rfl) | (simp [if_true, if_false, Bool.false_eq_true, Bool.true_eq_false, reduceIte, reduceCtorEq]; done) | (simp [bI, ]; done)) rfl rfl
set_option maxHeartbeats 4000000 in
set_option maxRecDepth 100000 in
theorem c_L_buyWax_3 (l : Launch) (hflags : l.stackTraces = false) (E : Ev) (x : Nat) (A T B : Nat → Nat) (S U : CS) (G : HS) (k : Int32) (o : Nat) (f : Nat → Int64) (hT : t_buyWax k = 3) : XI l E yL_buyWax wsL_buyWax rm_L_buyWax [.ref x, .int k, .ref o] (wX x A T B ++ wC E A (B 0) S ++ wC E T (B 0) U ++ wG E B G ++ [(o, aJ E 1 f)]) 0 1 (wX x A T B ++ wC E A (B 0) S ++ wC E T (B 0) U ++ wG E B G ++ [(o, aJ E 1 f)]) := by
  refine k_bXIH (cc := cL_buyWax) (maxL := 4) (ret := (some .int)) (by decide) rfl (Nat.le_of_ble_eq_true rfl) ?_
  intro p9 e s9 m args below meth c A9 ls hC ht9 hZ hl hw
  obtain ⟨hx, hb, hml, hr, hown, hts, hlocks, hK, hG, hA⟩ := hC
  have hq0 := hts (.classLink RL 13 "java/lang/IllegalArgumentException") (List.mem_of_getElem? (i := 1) rfl)
  have hl : lv_has ls 4 [(0, .ref x), (1, .int k), (2, .ref o)] := hl
  refine lv_aload_n hx hb dL_buyWax_0 rfl (lv_at hl 2 rfl) ?_
  refine lv_iconst (v := 0) hx hb dL_buyWax_1 (by decide) ?_
  refine lv_aload_n hx hb dL_buyWax_2 rfl (lv_at hl 0 rfl) ?_
  refine lv_iload_n hx hb dL_buyWax_3 rfl (lv_at hl 1 rfl) ?_
  refine krx_i (ws' := wX x A T B ++ wC E A (B 0) (p_wa S (c_wa S + k)) ++ wC E T (B 0) U ++ wG E B G ++ [(o, aJ E 1 f)]) (vx_runV (As := [.int k]) (rest := [.int 0, .ref o]) ⟨hx, hb, hml, hown, hts⟩ (c_X2_buyWax l hflags E x A T B S U G k  _) (cwV 1 hts gL_buyWax_X2_buyWax rfl rfl rfl ⟨rfl, hd_X2_buyWax⟩ ⟨Nat.le_of_ble_eq_true rfl, Nat.le_of_ble_eq_true rfl⟩) (pwV (ci := 2) (q0 := 0) (C := RX2) hw hK rfl rfl rfl (rpX (AV := [.ref x, .int k]) hw hK hG hZ hA rp_82)) rfl rfl hl.1 rfl (lv_room (Nat.le_of_ble_eq_true rfl)) dL_buyWax_4 ⟨Nat.le_of_ble_eq_true rfl, Nat.le_of_ble_eq_true rfl⟩) hw hA rp_84 rp_82 (fun H locs ce9 q9 t_1 hw hy1 hy2 hy3 => ?_) (fun H locs t_1 hw => absurd (t_1.symm.trans hT) (by decide))
  have hy3 : s9.vm.findClass "java/lang/IllegalArgumentException" = some ce9.cls := by rw [hT] at hy3; exact hy3
  refine vx_catch hown [] ⟨0, 9, 12, 13⟩ [] (ht9.trans rfl) (fun z hz => absurd hz List.not_mem_nil) (by decide) (by decide) hq0 (va_Nw.use rfl (hG.nw 25 (w := .castable "java/lang/IllegalArgumentException" "java/lang/IllegalArgumentException") rfl)) hy1 hy2 hy3 ?_
  refine lv_astore_n (lv' := [(3, .ref q9), (0, .ref x), (1, .int k), (2, .ref o)]) hx hb dL_buyWax_12 rfl hl (by decide) rfl (fun ls hl => ?_)
  refine lv_iconst (v := 1) hx hb dL_buyWax_13 (by decide) ?_
  refine W.widen (k := (rm_L_buyWax).cells) (n := (rm_L_buyWax).slots) (Nat.le_of_ble_eq_true rfl) (Nat.le_of_ble_eq_true rfl) ?_
  exact k_xiret hx hb hr hlocks hK hw rfl dL_buyWax_14 (by first | rfl | assumption | (simp only [if_true, if_false, Bool.false_eq_true, Bool.true_eq_false, reduceIte, reduceCtorEq]; done) | (simp only [if_true, if_false, Bool.false_eq_true, Bool.true_eq_false, reduceIte, reduceCtorEq]; rfl) | (simp [if_true, if_false, Bool.false_eq_true, Bool.true_eq_false, reduceIte, reduceCtorEq]; done) | (simp [bI, ]; done)) rfl rfl
abbrev rm_L_sail : Room := { frames := 8, cells := 2, slots := 12, locals := 132 }
set_option maxHeartbeats 4000000 in
set_option maxRecDepth 100000 in
theorem c_L_sail (l : Launch) (hflags : l.stackTraces = false) (E : Ev) (x : Nat) (A T B : Nat → Nat) (S U : CS) (G : HS) (s : Int32) (o : Nat) (f : Nat → Int64) (hT : t_goes G S s = 0) : XI l E yL_sail wsL_sail rm_L_sail [.ref x, .int s, .ref o] (wX x A T B ++ wC E A (B 0) S ++ wC E T (B 0) U ++ wG E B G ++ [(o, aJ E 1 f)]) 0 0 (wX x A T B ++ wC E A (B 0) (f_sailS (f_clear G s) S s) ++ wC E T (B 0) U ++ wG E B (f_clear G s) ++ [(o, aJ E 1 (vp_updL f 0 ((f_sailN (f_clear G s) S s : Int32).toInt64)))]) := by
  refine k_bXIH (cc := cL_sail) (maxL := 4) (ret := (some .int)) (by decide) rfl (Nat.le_of_ble_eq_true rfl) ?_
  intro p9 e s9 m args below meth c A9 ls hC ht9 hZ hl hw
  obtain ⟨hx, hb, hml, hr, hown, hts, hlocks, hK, hG, hA⟩ := hC
  have hl : lv_has ls 4 [(0, .ref x), (1, .int s), (2, .ref o)] := hl
  refine lv_aload_n hx hb dL_sail_0 rfl (lv_at hl 2 rfl) ?_
  refine lv_iconst (v := 0) hx hb dL_sail_1 (by decide) ?_
  refine lv_aload_n hx hb dL_sail_2 rfl (lv_at hl 0 rfl) ?_
  refine lv_iload_n hx hb dL_sail_3 rfl (lv_at hl 1 rfl) ?_
  refine krx_i (ws' := wX x A T B ++ wC E A (B 0) (f_sailS (f_clear G s) S s) ++ wC E T (B 0) U ++ wG E B (f_clear G s) ++ [(o, aJ E 1 f)]) (vx_runV (As := [.int s]) (rest := [.int 0, .ref o]) ⟨hx, hb, hml, hown, hts⟩ (c_X2_sail l hflags E x A T B S U G s  _) (cwV 1 hts gL_sail_X2_sail rfl rfl rfl ⟨rfl, hd_X2_sail⟩ ⟨Nat.le_of_ble_eq_true rfl, Nat.le_of_ble_eq_true rfl⟩) (pwV (ci := 2) (q0 := 0) (C := RX2) hw hK rfl rfl rfl (rpX (AV := [.ref x, .int s]) hw hK hG hZ hA rp_82)) rfl rfl hl.1 rfl (lv_room (Nat.le_of_ble_eq_true rfl)) dL_sail_4 ⟨Nat.le_of_ble_eq_true rfl, Nat.le_of_ble_eq_true rfl⟩) hw hA rp_83 rp_82 (fun H locs ce9 q9 t_1 hw hy1 hy2 hy3 => absurd hT t_1) (fun H locs t_1 hw => ?_)
  refine lv_i2l (v := (f_sailN (f_clear G s) S s : Int32).toInt64) hx hb dL_sail_7 rfl ?_
  refine k_lst (ws' := wX x A T B ++ wC E A (B 0) (f_sailS (f_clear G s) S s) ++ wC E T (B 0) U ++ wG E B (f_clear G s) ++ [(o, aJ E 1 (vp_updL f 0 ((f_sailN (f_clear G s) S s : Int32).toInt64)))]) hx hb hK hw 21 rfl (vp_in_nI (n := 0) (N := 1) (by decide) (by decide)) dL_sail_8 rfl (fun H locs hw => ?_)
  refine lv_goto (tgt := 18) hx hb dL_sail_9 (by decide) ?_
  refine lv_iconst (v := 0) hx hb dL_sail_18 (by decide) ?_
  refine W.widen (k := (rm_L_sail).cells) (n := (rm_L_sail).slots) (Nat.le_of_ble_eq_true rfl) (Nat.le_of_ble_eq_true rfl) ?_
  exact k_xiret hx hb hr hlocks hK hw rfl dL_sail_19 (by first | rfl | assumption | (simp only [if_true, if_false, Bool.false_eq_true, Bool.true_eq_false, reduceIte, reduceCtorEq]; done) | (simp only [if_true, if_false, Bool.false_eq_true, Bool.true_eq_false, reduceIte, reduceCtorEq]; rfl) | (simp [if_true, if_false, Bool.false_eq_true, Bool.true_eq_false, reduceIte, reduceCtorEq]; done) | (simp [bI, ]; done)) rfl rfl
set_option maxHeartbeats 4000000 in
set_option maxRecDepth 100000 in
theorem c_L_sail_1 (l : Launch) (hflags : l.stackTraces = false) (E : Ev) (x : Nat) (A T B : Nat → Nat) (S U : CS) (G : HS) (s : Int32) (o : Nat) (f : Nat → Int64) (hT : t_goes G S s = 1) : XI l E yL_sail wsL_sail rm_L_sail [.ref x, .int s, .ref o] (wX x A T B ++ wC E A (B 0) S ++ wC E T (B 0) U ++ wG E B G ++ [(o, aJ E 1 f)]) 0 1 (wX x A T B ++ wC E A (B 0) S ++ wC E T (B 0) U ++ wG E B G ++ [(o, aJ E 1 f)]) := by
  refine k_bXIH (cc := cL_sail) (maxL := 4) (ret := (some .int)) (by decide) rfl (Nat.le_of_ble_eq_true rfl) ?_
  intro p9 e s9 m args below meth c A9 ls hC ht9 hZ hl hw
  obtain ⟨hx, hb, hml, hr, hown, hts, hlocks, hK, hG, hA⟩ := hC
  have hq0 := hts (.classLink RL 21 "java/lang/IndexOutOfBoundsException") (List.mem_of_getElem? (i := 1) rfl)
  have hl : lv_has ls 4 [(0, .ref x), (1, .int s), (2, .ref o)] := hl
  refine lv_aload_n hx hb dL_sail_0 rfl (lv_at hl 2 rfl) ?_
  refine lv_iconst (v := 0) hx hb dL_sail_1 (by decide) ?_
  refine lv_aload_n hx hb dL_sail_2 rfl (lv_at hl 0 rfl) ?_
  refine lv_iload_n hx hb dL_sail_3 rfl (lv_at hl 1 rfl) ?_
  refine krx_i (ws' := wX x A T B ++ wC E A (B 0) (f_sailS (f_clear G s) S s) ++ wC E T (B 0) U ++ wG E B (f_clear G s) ++ [(o, aJ E 1 f)]) (vx_runV (As := [.int s]) (rest := [.int 0, .ref o]) ⟨hx, hb, hml, hown, hts⟩ (c_X2_sail l hflags E x A T B S U G s  _) (cwV 1 hts gL_sail_X2_sail rfl rfl rfl ⟨rfl, hd_X2_sail⟩ ⟨Nat.le_of_ble_eq_true rfl, Nat.le_of_ble_eq_true rfl⟩) (pwV (ci := 2) (q0 := 0) (C := RX2) hw hK rfl rfl rfl (rpX (AV := [.ref x, .int s]) hw hK hG hZ hA rp_82)) rfl rfl hl.1 rfl (lv_room (Nat.le_of_ble_eq_true rfl)) dL_sail_4 ⟨Nat.le_of_ble_eq_true rfl, Nat.le_of_ble_eq_true rfl⟩) hw hA rp_83 rp_82 (fun H locs ce9 q9 t_1 hw hy1 hy2 hy3 => ?_) (fun H locs t_1 hw => absurd (t_1.symm.trans hT) (by decide))
  have hy3 : s9.vm.findClass "java/lang/IndexOutOfBoundsException" = some ce9.cls := by rw [hT] at hy3; exact hy3
  refine vx_catch hown [] ⟨0, 9, 12, 21⟩ [⟨0, 9, 15, 15⟩] (ht9.trans rfl) (fun z hz => absurd hz List.not_mem_nil) (by decide) (by decide) hq0 (va_Nw.use rfl (hG.nw 23 (w := .castable "java/lang/IndexOutOfBoundsException" "java/lang/IndexOutOfBoundsException") rfl)) hy1 hy2 hy3 ?_
  refine lv_astore_n (lv' := [(3, .ref q9), (0, .ref x), (1, .int s), (2, .ref o)]) hx hb dL_sail_12 rfl hl (by decide) rfl (fun ls hl => ?_)
  refine lv_iconst (v := 1) hx hb dL_sail_13 (by decide) ?_
  refine W.widen (k := (rm_L_sail).cells) (n := (rm_L_sail).slots) (Nat.le_of_ble_eq_true rfl) (Nat.le_of_ble_eq_true rfl) ?_
  exact k_xiret hx hb hr hlocks hK hw rfl dL_sail_14 (by first | rfl | assumption | (simp only [if_true, if_false, Bool.false_eq_true, Bool.true_eq_false, reduceIte, reduceCtorEq]; done) | (simp only [if_true, if_false, Bool.false_eq_true, Bool.true_eq_false, reduceIte, reduceCtorEq]; rfl) | (simp [if_true, if_false, Bool.false_eq_true, Bool.true_eq_false, reduceIte, reduceCtorEq]; done) | (simp [bI, ]; done)) rfl rfl
set_option maxHeartbeats 4000000 in
set_option maxRecDepth 100000 in
theorem c_L_sail_2 (l : Launch) (hflags : l.stackTraces = false) (E : Ev) (x : Nat) (A T B : Nat → Nat) (S U : CS) (G : HS) (s : Int32) (o : Nat) (f : Nat → Int64) (hT : t_goes G S s = 2) : XI l E yL_sail wsL_sail rm_L_sail [.ref x, .int s, .ref o] (wX x A T B ++ wC E A (B 0) S ++ wC E T (B 0) U ++ wG E B G ++ [(o, aJ E 1 f)]) 0 2 (wX x A T B ++ wC E A (B 0) S ++ wC E T (B 0) U ++ wG E B G ++ [(o, aJ E 1 f)]) := by
  refine k_bXIH (cc := cL_sail) (maxL := 4) (ret := (some .int)) (by decide) rfl (Nat.le_of_ble_eq_true rfl) ?_
  intro p9 e s9 m args below meth c A9 ls hC ht9 hZ hl hw
  obtain ⟨hx, hb, hml, hr, hown, hts, hlocks, hK, hG, hA⟩ := hC
  have hq0 := hts (.classLink RL 21 "java/lang/IndexOutOfBoundsException") (List.mem_of_getElem? (i := 1) rfl)
  have hq1 := hts (.classLink RL 15 "java/lang/IllegalStateException") (List.mem_of_getElem? (i := 2) rfl)
  have hl : lv_has ls 4 [(0, .ref x), (1, .int s), (2, .ref o)] := hl
  refine lv_aload_n hx hb dL_sail_0 rfl (lv_at hl 2 rfl) ?_
  refine lv_iconst (v := 0) hx hb dL_sail_1 (by decide) ?_
  refine lv_aload_n hx hb dL_sail_2 rfl (lv_at hl 0 rfl) ?_
  refine lv_iload_n hx hb dL_sail_3 rfl (lv_at hl 1 rfl) ?_
  refine krx_i (ws' := wX x A T B ++ wC E A (B 0) (f_sailS (f_clear G s) S s) ++ wC E T (B 0) U ++ wG E B (f_clear G s) ++ [(o, aJ E 1 f)]) (vx_runV (As := [.int s]) (rest := [.int 0, .ref o]) ⟨hx, hb, hml, hown, hts⟩ (c_X2_sail l hflags E x A T B S U G s  _) (cwV 1 hts gL_sail_X2_sail rfl rfl rfl ⟨rfl, hd_X2_sail⟩ ⟨Nat.le_of_ble_eq_true rfl, Nat.le_of_ble_eq_true rfl⟩) (pwV (ci := 2) (q0 := 0) (C := RX2) hw hK rfl rfl rfl (rpX (AV := [.ref x, .int s]) hw hK hG hZ hA rp_82)) rfl rfl hl.1 rfl (lv_room (Nat.le_of_ble_eq_true rfl)) dL_sail_4 ⟨Nat.le_of_ble_eq_true rfl, Nat.le_of_ble_eq_true rfl⟩) hw hA rp_83 rp_82 (fun H locs ce9 q9 t_1 hw hy1 hy2 hy3 => ?_) (fun H locs t_1 hw => absurd (t_1.symm.trans hT) (by decide))
  have hy3 : s9.vm.findClass "java/lang/IllegalStateException" = some ce9.cls := by rw [hT] at hy3; exact hy3
  refine vx_catch hown [⟨0, 9, 12, 21⟩] ⟨0, 9, 15, 15⟩ [] (ht9.trans rfl) (fun z hz => by rcases List.mem_singleton.mp hz with rfl; exact Or.inr ⟨by decide, "java/lang/IndexOutOfBoundsException", hq0, hG.2.2 ("java/lang/IllegalStateException", "java/lang/IndexOutOfBoundsException") (List.mem_of_getElem? (i := 2) rfl)⟩) (by decide) (by decide) hq1 (va_Nw.use rfl (hG.nw 24 (w := .castable "java/lang/IllegalStateException" "java/lang/IllegalStateException") rfl)) hy1 hy2 hy3 ?_
  refine lv_astore_n (lv' := [(3, .ref q9), (0, .ref x), (1, .int s), (2, .ref o)]) hx hb dL_sail_15 rfl hl (by decide) rfl (fun ls hl => ?_)
  refine lv_iconst (v := 2) hx hb dL_sail_16 (by decide) ?_
  refine W.widen (k := (rm_L_sail).cells) (n := (rm_L_sail).slots) (Nat.le_of_ble_eq_true rfl) (Nat.le_of_ble_eq_true rfl) ?_
  exact k_xiret hx hb hr hlocks hK hw rfl dL_sail_17 (by first | rfl | assumption | (simp only [if_true, if_false, Bool.false_eq_true, Bool.true_eq_false, reduceIte, reduceCtorEq]; done) | (simp only [if_true, if_false, Bool.false_eq_true, Bool.true_eq_false, reduceIte, reduceCtorEq]; rfl) | (simp [if_true, if_false, Bool.false_eq_true, Bool.true_eq_false, reduceIte, reduceCtorEq]; done) | (simp [bI, ]; done)) rfl rfl
abbrev rm_L_comeHome : Room := { frames := 8, cells := 2, slots := 12, locals := 132 }
set_option maxHeartbeats 4000000 in
set_option maxRecDepth 100000 in
theorem c_L_comeHome (l : Launch) (hflags : l.stackTraces = false) (E : Ev) (x : Nat) (A T B : Nat → Nat) (S U : CS) (G : HS) (s : Int32) (o : Nat) (f : Nat → Int64) (hT : t_home G S s = 0) : XI l E yL_comeHome wsL_comeHome rm_L_comeHome [.ref x, .int s, .ref o] (wX x A T B ++ wC E A (B 0) S ++ wC E T (B 0) U ++ wG E B G ++ [(o, aJ E 1 f)]) 0 0 (wX x A T B ++ wC E A (B 0) (f_comes G S s) ++ wC E T (B 0) U ++ wG E B G ++ [(o, aJ E 1 (vp_updL f 0 ((f_at 5 (c_ou (f_comes G S s)) s : Int32).toInt64)))]) := by
  refine k_bXIH (cc := cL_comeHome) (maxL := 4) (ret := (some .int)) (by decide) rfl (Nat.le_of_ble_eq_true rfl) ?_
  intro p9 e s9 m args below meth c A9 ls hC ht9 hZ hl hw
  obtain ⟨hx, hb, hml, hr, hown, hts, hlocks, hK, hG, hA⟩ := hC
  have hl : lv_has ls 4 [(0, .ref x), (1, .int s), (2, .ref o)] := hl
  refine lv_aload_n hx hb dL_comeHome_0 rfl (lv_at hl 2 rfl) ?_
  refine lv_iconst (v := 0) hx hb dL_comeHome_1 (by decide) ?_
  refine lv_aload_n hx hb dL_comeHome_2 rfl (lv_at hl 0 rfl) ?_
  refine lv_iload_n hx hb dL_comeHome_3 rfl (lv_at hl 1 rfl) ?_
  refine krx_i (ws' := wX x A T B ++ wC E A (B 0) (f_comes G S s) ++ wC E T (B 0) U ++ wG E B G ++ [(o, aJ E 1 f)]) (vx_runV (As := [.int s]) (rest := [.int 0, .ref o]) ⟨hx, hb, hml, hown, hts⟩ (c_X2_comeHome l hflags E x A T B S U G s  _) (cwV 1 hts gL_comeHome_X2_comeHome rfl rfl rfl ⟨rfl, hd_X2_comeHome⟩ ⟨Nat.le_of_ble_eq_true rfl, Nat.le_of_ble_eq_true rfl⟩) (pwV (ci := 2) (q0 := 0) (C := RX2) hw hK rfl rfl rfl (rpX (AV := [.ref x, .int s]) hw hK hG hZ hA rp_82)) rfl rfl hl.1 rfl (lv_room (Nat.le_of_ble_eq_true rfl)) dL_comeHome_4 ⟨Nat.le_of_ble_eq_true rfl, Nat.le_of_ble_eq_true rfl⟩) hw hA rp_84 rp_82 (fun H locs ce9 q9 t_1 hw hy1 hy2 hy3 => absurd hT t_1) (fun H locs t_1 hw => ?_)
  refine lv_i2l (v := (f_at 5 (c_ou (f_comes G S s)) s : Int32).toInt64) hx hb dL_comeHome_7 rfl ?_
  refine k_lst (ws' := wX x A T B ++ wC E A (B 0) (f_comes G S s) ++ wC E T (B 0) U ++ wG E B G ++ [(o, aJ E 1 (vp_updL f 0 ((f_at 5 (c_ou (f_comes G S s)) s : Int32).toInt64)))]) hx hb hK hw 21 rfl (vp_in_nI (n := 0) (N := 1) (by decide) (by decide)) dL_comeHome_8 rfl (fun H locs hw => ?_)
  refine lv_goto (tgt := 18) hx hb dL_comeHome_9 (by decide) ?_
  refine lv_iconst (v := 0) hx hb dL_comeHome_18 (by decide) ?_
  refine W.widen (k := (rm_L_comeHome).cells) (n := (rm_L_comeHome).slots) (Nat.le_of_ble_eq_true rfl) (Nat.le_of_ble_eq_true rfl) ?_
  exact k_xiret hx hb hr hlocks hK hw rfl dL_comeHome_19 (by first | rfl | assumption | (simp only [if_true, if_false, Bool.false_eq_true, Bool.true_eq_false, reduceIte, reduceCtorEq]; done) | (simp only [if_true, if_false, Bool.false_eq_true, Bool.true_eq_false, reduceIte, reduceCtorEq]; rfl) | (simp [if_true, if_false, Bool.false_eq_true, Bool.true_eq_false, reduceIte, reduceCtorEq]; done) | (simp [bI, ]; done)) rfl rfl
set_option maxHeartbeats 4000000 in
set_option maxRecDepth 100000 in
theorem c_L_comeHome_1 (l : Launch) (hflags : l.stackTraces = false) (E : Ev) (x : Nat) (A T B : Nat → Nat) (S U : CS) (G : HS) (s : Int32) (o : Nat) (f : Nat → Int64) (hT : t_home G S s = 1) : XI l E yL_comeHome wsL_comeHome rm_L_comeHome [.ref x, .int s, .ref o] (wX x A T B ++ wC E A (B 0) S ++ wC E T (B 0) U ++ wG E B G ++ [(o, aJ E 1 f)]) 0 1 (wX x A T B ++ wC E A (B 0) S ++ wC E T (B 0) U ++ wG E B G ++ [(o, aJ E 1 f)]) := by
  refine k_bXIH (cc := cL_comeHome) (maxL := 4) (ret := (some .int)) (by decide) rfl (Nat.le_of_ble_eq_true rfl) ?_
  intro p9 e s9 m args below meth c A9 ls hC ht9 hZ hl hw
  obtain ⟨hx, hb, hml, hr, hown, hts, hlocks, hK, hG, hA⟩ := hC
  have hq0 := hts (.classLink RL 21 "java/lang/IndexOutOfBoundsException") (List.mem_of_getElem? (i := 1) rfl)
  have hl : lv_has ls 4 [(0, .ref x), (1, .int s), (2, .ref o)] := hl
  refine lv_aload_n hx hb dL_comeHome_0 rfl (lv_at hl 2 rfl) ?_
  refine lv_iconst (v := 0) hx hb dL_comeHome_1 (by decide) ?_
  refine lv_aload_n hx hb dL_comeHome_2 rfl (lv_at hl 0 rfl) ?_
  refine lv_iload_n hx hb dL_comeHome_3 rfl (lv_at hl 1 rfl) ?_
  refine krx_i (ws' := wX x A T B ++ wC E A (B 0) (f_comes G S s) ++ wC E T (B 0) U ++ wG E B G ++ [(o, aJ E 1 f)]) (vx_runV (As := [.int s]) (rest := [.int 0, .ref o]) ⟨hx, hb, hml, hown, hts⟩ (c_X2_comeHome l hflags E x A T B S U G s  _) (cwV 1 hts gL_comeHome_X2_comeHome rfl rfl rfl ⟨rfl, hd_X2_comeHome⟩ ⟨Nat.le_of_ble_eq_true rfl, Nat.le_of_ble_eq_true rfl⟩) (pwV (ci := 2) (q0 := 0) (C := RX2) hw hK rfl rfl rfl (rpX (AV := [.ref x, .int s]) hw hK hG hZ hA rp_82)) rfl rfl hl.1 rfl (lv_room (Nat.le_of_ble_eq_true rfl)) dL_comeHome_4 ⟨Nat.le_of_ble_eq_true rfl, Nat.le_of_ble_eq_true rfl⟩) hw hA rp_84 rp_82 (fun H locs ce9 q9 t_1 hw hy1 hy2 hy3 => ?_) (fun H locs t_1 hw => absurd (t_1.symm.trans hT) (by decide))
  have hy3 : s9.vm.findClass "java/lang/IndexOutOfBoundsException" = some ce9.cls := by rw [hT] at hy3; exact hy3
  refine vx_catch hown [] ⟨0, 9, 12, 21⟩ [⟨0, 9, 15, 15⟩] (ht9.trans rfl) (fun z hz => absurd hz List.not_mem_nil) (by decide) (by decide) hq0 (va_Nw.use rfl (hG.nw 23 (w := .castable "java/lang/IndexOutOfBoundsException" "java/lang/IndexOutOfBoundsException") rfl)) hy1 hy2 hy3 ?_
  refine lv_astore_n (lv' := [(3, .ref q9), (0, .ref x), (1, .int s), (2, .ref o)]) hx hb dL_comeHome_12 rfl hl (by decide) rfl (fun ls hl => ?_)
  refine lv_iconst (v := 1) hx hb dL_comeHome_13 (by decide) ?_
  refine W.widen (k := (rm_L_comeHome).cells) (n := (rm_L_comeHome).slots) (Nat.le_of_ble_eq_true rfl) (Nat.le_of_ble_eq_true rfl) ?_
  exact k_xiret hx hb hr hlocks hK hw rfl dL_comeHome_14 (by first | rfl | assumption | (simp only [if_true, if_false, Bool.false_eq_true, Bool.true_eq_false, reduceIte, reduceCtorEq]; done) | (simp only [if_true, if_false, Bool.false_eq_true, Bool.true_eq_false, reduceIte, reduceCtorEq]; rfl) | (simp [if_true, if_false, Bool.false_eq_true, Bool.true_eq_false, reduceIte, reduceCtorEq]; done) | (simp [bI, ]; done)) rfl rfl
set_option maxHeartbeats 4000000 in
set_option maxRecDepth 100000 in
theorem c_L_comeHome_2 (l : Launch) (hflags : l.stackTraces = false) (E : Ev) (x : Nat) (A T B : Nat → Nat) (S U : CS) (G : HS) (s : Int32) (o : Nat) (f : Nat → Int64) (hT : t_home G S s = 2) : XI l E yL_comeHome wsL_comeHome rm_L_comeHome [.ref x, .int s, .ref o] (wX x A T B ++ wC E A (B 0) S ++ wC E T (B 0) U ++ wG E B G ++ [(o, aJ E 1 f)]) 0 2 (wX x A T B ++ wC E A (B 0) S ++ wC E T (B 0) U ++ wG E B G ++ [(o, aJ E 1 f)]) := by
  refine k_bXIH (cc := cL_comeHome) (maxL := 4) (ret := (some .int)) (by decide) rfl (Nat.le_of_ble_eq_true rfl) ?_
  intro p9 e s9 m args below meth c A9 ls hC ht9 hZ hl hw
  obtain ⟨hx, hb, hml, hr, hown, hts, hlocks, hK, hG, hA⟩ := hC
  have hq0 := hts (.classLink RL 21 "java/lang/IndexOutOfBoundsException") (List.mem_of_getElem? (i := 1) rfl)
  have hq1 := hts (.classLink RL 15 "java/lang/IllegalStateException") (List.mem_of_getElem? (i := 2) rfl)
  have hl : lv_has ls 4 [(0, .ref x), (1, .int s), (2, .ref o)] := hl
  refine lv_aload_n hx hb dL_comeHome_0 rfl (lv_at hl 2 rfl) ?_
  refine lv_iconst (v := 0) hx hb dL_comeHome_1 (by decide) ?_
  refine lv_aload_n hx hb dL_comeHome_2 rfl (lv_at hl 0 rfl) ?_
  refine lv_iload_n hx hb dL_comeHome_3 rfl (lv_at hl 1 rfl) ?_
  refine krx_i (ws' := wX x A T B ++ wC E A (B 0) (f_comes G S s) ++ wC E T (B 0) U ++ wG E B G ++ [(o, aJ E 1 f)]) (vx_runV (As := [.int s]) (rest := [.int 0, .ref o]) ⟨hx, hb, hml, hown, hts⟩ (c_X2_comeHome l hflags E x A T B S U G s  _) (cwV 1 hts gL_comeHome_X2_comeHome rfl rfl rfl ⟨rfl, hd_X2_comeHome⟩ ⟨Nat.le_of_ble_eq_true rfl, Nat.le_of_ble_eq_true rfl⟩) (pwV (ci := 2) (q0 := 0) (C := RX2) hw hK rfl rfl rfl (rpX (AV := [.ref x, .int s]) hw hK hG hZ hA rp_82)) rfl rfl hl.1 rfl (lv_room (Nat.le_of_ble_eq_true rfl)) dL_comeHome_4 ⟨Nat.le_of_ble_eq_true rfl, Nat.le_of_ble_eq_true rfl⟩) hw hA rp_84 rp_82 (fun H locs ce9 q9 t_1 hw hy1 hy2 hy3 => ?_) (fun H locs t_1 hw => absurd (t_1.symm.trans hT) (by decide))
  have hy3 : s9.vm.findClass "java/lang/IllegalStateException" = some ce9.cls := by rw [hT] at hy3; exact hy3
  refine vx_catch hown [⟨0, 9, 12, 21⟩] ⟨0, 9, 15, 15⟩ [] (ht9.trans rfl) (fun z hz => by rcases List.mem_singleton.mp hz with rfl; exact Or.inr ⟨by decide, "java/lang/IndexOutOfBoundsException", hq0, hG.2.2 ("java/lang/IllegalStateException", "java/lang/IndexOutOfBoundsException") (List.mem_of_getElem? (i := 2) rfl)⟩) (by decide) (by decide) hq1 (va_Nw.use rfl (hG.nw 24 (w := .castable "java/lang/IllegalStateException" "java/lang/IllegalStateException") rfl)) hy1 hy2 hy3 ?_
  refine lv_astore_n (lv' := [(3, .ref q9), (0, .ref x), (1, .int s), (2, .ref o)]) hx hb dL_comeHome_15 rfl hl (by decide) rfl (fun ls hl => ?_)
  refine lv_iconst (v := 2) hx hb dL_comeHome_16 (by decide) ?_
  refine W.widen (k := (rm_L_comeHome).cells) (n := (rm_L_comeHome).slots) (Nat.le_of_ble_eq_true rfl) (Nat.le_of_ble_eq_true rfl) ?_
  exact k_xiret hx hb hr hlocks hK hw rfl dL_comeHome_17 (by first | rfl | assumption | (simp only [if_true, if_false, Bool.false_eq_true, Bool.true_eq_false, reduceIte, reduceCtorEq]; done) | (simp only [if_true, if_false, Bool.false_eq_true, Bool.true_eq_false, reduceIte, reduceCtorEq]; rfl) | (simp [if_true, if_false, Bool.false_eq_true, Bool.true_eq_false, reduceIte, reduceCtorEq]; done) | (simp [bI, ]; done)) rfl rfl
abbrev rm_L_sight : Room := { frames := 9, cells := 3, slots := 18, locals := 155 }
set_option maxHeartbeats 4000000 in
set_option maxRecDepth 100000 in
theorem c_L_sight (l : Launch) (hflags : l.stackTraces = false) (E : Ev) (x : Nat) (A T B : Nat → Nat) (S U : CS) (G : HS) (w : Int32) (s : Int32) (o : Nat) (f : Nat → Int64) (hT : t_new G S w s = 0) : XI l E yL_sight wsL_sight rm_L_sight [.ref x, .int w, .int s, .ref o] (wX x A T B ++ wC E A (B 0) S ++ wC E T (B 0) U ++ wG E B G ++ [(o, aJ E 1 f)]) 0 0 (wX x A T B ++ wC E A (B 0) (f_enter S w s) ++ wC E T (B 0) U ++ wG E B G ++ [(o, aJ E 1 (vp_updL f 0 (if f_is 5 (c_ru (f_enter S w s)) s = true then 1 else 0)))]) := by
  refine k_bXIH (cc := cL_sight) (maxL := 5) (ret := (some .int)) (by decide) rfl (Nat.le_of_ble_eq_true rfl) ?_
  intro p9 e s9 m args below meth c A9 ls hC ht9 hZ hl hw
  obtain ⟨hx, hb, hml, hr, hown, hts, hlocks, hK, hG, hA⟩ := hC
  have hl : lv_has ls 5 [(0, .ref x), (1, .int w), (2, .int s), (3, .ref o)] := hl
  refine lv_aload_n hx hb dL_sight_0 rfl (lv_at hl 3 rfl) ?_
  refine lv_iconst (v := 0) hx hb dL_sight_1 (by decide) ?_
  refine lv_aload_n hx hb dL_sight_2 rfl (lv_at hl 0 rfl) ?_
  refine lv_iload_n hx hb dL_sight_3 rfl (lv_at hl 1 rfl) ?_
  refine lv_iload_n hx hb dL_sight_4 rfl (lv_at hl 2 rfl) ?_
  refine krx_i (ws' := wX x A T B ++ wC E A (B 0) (f_enter S w s) ++ wC E T (B 0) U ++ wG E B G ++ [(o, aJ E 1 f)]) (vx_runV (As := [.int w, .int s]) (rest := [.int 0, .ref o]) ⟨hx, hb, hml, hown, hts⟩ (c_X2_sight l hflags E x A T B S U G w s  _) (cwV 2 hts gL_sight_X2_sight rfl rfl rfl ⟨rfl, hd_X2_sight⟩ ⟨Nat.le_of_ble_eq_true rfl, Nat.le_of_ble_eq_true rfl⟩) (pwV (ci := 2) (q0 := 0) (C := RX2) hw hK rfl rfl rfl (rpX (AV := [.ref x, .int w, .int s]) hw hK hG hZ hA rp_82)) rfl rfl hl.1 rfl (lv_room (Nat.le_of_ble_eq_true rfl)) dL_sight_5 ⟨Nat.le_of_ble_eq_true rfl, Nat.le_of_ble_eq_true rfl⟩) hw hA rp_84 rp_82 (fun H locs ce9 q9 t_1 hw hy1 hy2 hy3 => absurd hT t_1) (fun H locs t_1 hw => ?_)
  refine lv_if_eq (tgt := 15) hx hb dL_sight_8 (by decide) (fun c_2 => ?_) (fun c_2 => ?_)
  · have c_2 := bI_z c_2
    refine lv_lconst (v := 0) hx hb dL_sight_15 (by decide) ?_
    refine k_lst (ws' := wX x A T B ++ wC E A (B 0) (f_enter S w s) ++ wC E T (B 0) U ++ wG E B G ++ [(o, aJ E 1 (vp_updL f 0 0))]) hx hb hK hw 21 rfl (vp_in_nI (n := 0) (N := 1) (by decide) (by decide)) dL_sight_16 rfl (fun H locs hw => ?_)
    refine lv_goto (tgt := 28) hx hb dL_sight_17 (by decide) ?_
    refine lv_iconst (v := 0) hx hb dL_sight_28 (by decide) ?_
    refine W.widen (k := (rm_L_sight).cells) (n := (rm_L_sight).slots) (Nat.le_of_ble_eq_true rfl) (Nat.le_of_ble_eq_true rfl) ?_
    exact k_xiret hx hb hr hlocks hK hw rfl dL_sight_29 (by first | assumption | (simp only [c_2, if_true, if_false, Bool.false_eq_true, Bool.true_eq_false, reduceIte, reduceCtorEq]; done) | (simp only [c_2, if_true, if_false, Bool.false_eq_true, Bool.true_eq_false, reduceIte, reduceCtorEq]; rfl) | rfl | (simp [c_2, if_true, if_false, Bool.false_eq_true, Bool.true_eq_false, reduceIte, reduceCtorEq]; done) | (simp [bI, c_2]; done)) rfl (by first | assumption | (simp only [c_2, if_true, if_false, Bool.false_eq_true, Bool.true_eq_false, reduceIte, reduceCtorEq]; done) | (simp only [c_2, if_true, if_false, Bool.false_eq_true, Bool.true_eq_false, reduceIte, reduceCtorEq]; rfl) | rfl | (simp [c_2, if_true, if_false, Bool.false_eq_true, Bool.true_eq_false, reduceIte, reduceCtorEq]; done) | (simp [bI, c_2]; done))
  · have c_2 := bI_nz c_2
    refine lv_lconst (v := 1) hx hb dL_sight_11 (by decide) ?_
    refine lv_goto (tgt := 16) hx hb dL_sight_12 (by decide) ?_
    refine k_lst (ws' := wX x A T B ++ wC E A (B 0) (f_enter S w s) ++ wC E T (B 0) U ++ wG E B G ++ [(o, aJ E 1 (vp_updL f 0 1))]) hx hb hK hw 21 rfl (vp_in_nI (n := 0) (N := 1) (by decide) (by decide)) dL_sight_16 rfl (fun H locs hw => ?_)
    refine lv_goto (tgt := 28) hx hb dL_sight_17 (by decide) ?_
    refine lv_iconst (v := 0) hx hb dL_sight_28 (by decide) ?_
    refine W.widen (k := (rm_L_sight).cells) (n := (rm_L_sight).slots) (Nat.le_of_ble_eq_true rfl) (Nat.le_of_ble_eq_true rfl) ?_
    exact k_xiret hx hb hr hlocks hK hw rfl dL_sight_29 (by first | assumption | (simp only [c_2, if_true, if_false, Bool.false_eq_true, Bool.true_eq_false, reduceIte, reduceCtorEq]; done) | (simp only [c_2, if_true, if_false, Bool.false_eq_true, Bool.true_eq_false, reduceIte, reduceCtorEq]; rfl) | rfl | (simp [c_2, if_true, if_false, Bool.false_eq_true, Bool.true_eq_false, reduceIte, reduceCtorEq]; done) | (simp [bI, c_2]; done)) rfl (by first | assumption | (simp only [c_2, if_true, if_false, Bool.false_eq_true, Bool.true_eq_false, reduceIte, reduceCtorEq]; done) | (simp only [c_2, if_true, if_false, Bool.false_eq_true, Bool.true_eq_false, reduceIte, reduceCtorEq]; rfl) | rfl | (simp [c_2, if_true, if_false, Bool.false_eq_true, Bool.true_eq_false, reduceIte, reduceCtorEq]; done) | (simp [bI, c_2]; done))
set_option maxHeartbeats 4000000 in
set_option maxRecDepth 100000 in
theorem c_L_sight_1 (l : Launch) (hflags : l.stackTraces = false) (E : Ev) (x : Nat) (A T B : Nat → Nat) (S U : CS) (G : HS) (w : Int32) (s : Int32) (o : Nat) (f : Nat → Int64) (hT : t_new G S w s = 1) : XI l E yL_sight wsL_sight rm_L_sight [.ref x, .int w, .int s, .ref o] (wX x A T B ++ wC E A (B 0) S ++ wC E T (B 0) U ++ wG E B G ++ [(o, aJ E 1 f)]) 0 1 (wX x A T B ++ wC E A (B 0) S ++ wC E T (B 0) U ++ wG E B G ++ [(o, aJ E 1 f)]) := by
  refine k_bXIH (cc := cL_sight) (maxL := 5) (ret := (some .int)) (by decide) rfl (Nat.le_of_ble_eq_true rfl) ?_
  intro p9 e s9 m args below meth c A9 ls hC ht9 hZ hl hw
  obtain ⟨hx, hb, hml, hr, hown, hts, hlocks, hK, hG, hA⟩ := hC
  have hq0 := hts (.classLink RL 21 "java/lang/IndexOutOfBoundsException") (List.mem_of_getElem? (i := 1) rfl)
  have hl : lv_has ls 5 [(0, .ref x), (1, .int w), (2, .int s), (3, .ref o)] := hl
  refine lv_aload_n hx hb dL_sight_0 rfl (lv_at hl 3 rfl) ?_
  refine lv_iconst (v := 0) hx hb dL_sight_1 (by decide) ?_
  refine lv_aload_n hx hb dL_sight_2 rfl (lv_at hl 0 rfl) ?_
  refine lv_iload_n hx hb dL_sight_3 rfl (lv_at hl 1 rfl) ?_
  refine lv_iload_n hx hb dL_sight_4 rfl (lv_at hl 2 rfl) ?_
  refine krx_i (ws' := wX x A T B ++ wC E A (B 0) (f_enter S w s) ++ wC E T (B 0) U ++ wG E B G ++ [(o, aJ E 1 f)]) (vx_runV (As := [.int w, .int s]) (rest := [.int 0, .ref o]) ⟨hx, hb, hml, hown, hts⟩ (c_X2_sight l hflags E x A T B S U G w s  _) (cwV 2 hts gL_sight_X2_sight rfl rfl rfl ⟨rfl, hd_X2_sight⟩ ⟨Nat.le_of_ble_eq_true rfl, Nat.le_of_ble_eq_true rfl⟩) (pwV (ci := 2) (q0 := 0) (C := RX2) hw hK rfl rfl rfl (rpX (AV := [.ref x, .int w, .int s]) hw hK hG hZ hA rp_82)) rfl rfl hl.1 rfl (lv_room (Nat.le_of_ble_eq_true rfl)) dL_sight_5 ⟨Nat.le_of_ble_eq_true rfl, Nat.le_of_ble_eq_true rfl⟩) hw hA rp_84 rp_82 (fun H locs ce9 q9 t_1 hw hy1 hy2 hy3 => ?_) (fun H locs t_1 hw => absurd (t_1.symm.trans hT) (by decide))
  have hy3 : s9.vm.findClass "java/lang/IndexOutOfBoundsException" = some ce9.cls := by rw [hT] at hy3; exact hy3
  refine vx_catch hown [] ⟨0, 17, 20, 21⟩ [⟨0, 17, 24, 15⟩] (ht9.trans rfl) (fun z hz => absurd hz List.not_mem_nil) (by decide) (by decide) hq0 (va_Nw.use rfl (hG.nw 23 (w := .castable "java/lang/IndexOutOfBoundsException" "java/lang/IndexOutOfBoundsException") rfl)) hy1 hy2 hy3 ?_
  refine lv_astore (lv' := [(4, .ref q9), (0, .ref x), (1, .int w), (2, .int s), (3, .ref o)]) hx hb dL_sight_20 hl (by decide) rfl (fun ls hl => ?_)
  refine lv_iconst (v := 1) hx hb dL_sight_22 (by decide) ?_
  refine W.widen (k := (rm_L_sight).cells) (n := (rm_L_sight).slots) (Nat.le_of_ble_eq_true rfl) (Nat.le_of_ble_eq_true rfl) ?_
  exact k_xiret hx hb hr hlocks hK hw rfl dL_sight_23 (by first | rfl | assumption | (simp only [if_true, if_false, Bool.false_eq_true, Bool.true_eq_false, reduceIte, reduceCtorEq]; done) | (simp only [if_true, if_false, Bool.false_eq_true, Bool.true_eq_false, reduceIte, reduceCtorEq]; rfl) | (simp [if_true, if_false, Bool.false_eq_true, Bool.true_eq_false, reduceIte, reduceCtorEq]; done) | (simp [bI, ]; done)) rfl rfl
set_option maxHeartbeats 4000000 in
set_option maxRecDepth 100000 in
theorem c_L_sight_2 (l : Launch) (hflags : l.stackTraces = false) (E : Ev) (x : Nat) (A T B : Nat → Nat) (S U : CS) (G : HS) (w : Int32) (s : Int32) (o : Nat) (f : Nat → Int64) (hT : t_new G S w s = 2) : XI l E yL_sight wsL_sight rm_L_sight [.ref x, .int w, .int s, .ref o] (wX x A T B ++ wC E A (B 0) S ++ wC E T (B 0) U ++ wG E B G ++ [(o, aJ E 1 f)]) 0 2 (wX x A T B ++ wC E A (B 0) S ++ wC E T (B 0) U ++ wG E B G ++ [(o, aJ E 1 f)]) := by
  refine k_bXIH (cc := cL_sight) (maxL := 5) (ret := (some .int)) (by decide) rfl (Nat.le_of_ble_eq_true rfl) ?_
  intro p9 e s9 m args below meth c A9 ls hC ht9 hZ hl hw
  obtain ⟨hx, hb, hml, hr, hown, hts, hlocks, hK, hG, hA⟩ := hC
  have hq0 := hts (.classLink RL 21 "java/lang/IndexOutOfBoundsException") (List.mem_of_getElem? (i := 1) rfl)
  have hq1 := hts (.classLink RL 15 "java/lang/IllegalStateException") (List.mem_of_getElem? (i := 2) rfl)
  have hl : lv_has ls 5 [(0, .ref x), (1, .int w), (2, .int s), (3, .ref o)] := hl
  refine lv_aload_n hx hb dL_sight_0 rfl (lv_at hl 3 rfl) ?_
  refine lv_iconst (v := 0) hx hb dL_sight_1 (by decide) ?_
  refine lv_aload_n hx hb dL_sight_2 rfl (lv_at hl 0 rfl) ?_
  refine lv_iload_n hx hb dL_sight_3 rfl (lv_at hl 1 rfl) ?_
  refine lv_iload_n hx hb dL_sight_4 rfl (lv_at hl 2 rfl) ?_
  refine krx_i (ws' := wX x A T B ++ wC E A (B 0) (f_enter S w s) ++ wC E T (B 0) U ++ wG E B G ++ [(o, aJ E 1 f)]) (vx_runV (As := [.int w, .int s]) (rest := [.int 0, .ref o]) ⟨hx, hb, hml, hown, hts⟩ (c_X2_sight l hflags E x A T B S U G w s  _) (cwV 2 hts gL_sight_X2_sight rfl rfl rfl ⟨rfl, hd_X2_sight⟩ ⟨Nat.le_of_ble_eq_true rfl, Nat.le_of_ble_eq_true rfl⟩) (pwV (ci := 2) (q0 := 0) (C := RX2) hw hK rfl rfl rfl (rpX (AV := [.ref x, .int w, .int s]) hw hK hG hZ hA rp_82)) rfl rfl hl.1 rfl (lv_room (Nat.le_of_ble_eq_true rfl)) dL_sight_5 ⟨Nat.le_of_ble_eq_true rfl, Nat.le_of_ble_eq_true rfl⟩) hw hA rp_84 rp_82 (fun H locs ce9 q9 t_1 hw hy1 hy2 hy3 => ?_) (fun H locs t_1 hw => absurd (t_1.symm.trans hT) (by decide))
  have hy3 : s9.vm.findClass "java/lang/IllegalStateException" = some ce9.cls := by rw [hT] at hy3; exact hy3
  refine vx_catch hown [⟨0, 17, 20, 21⟩] ⟨0, 17, 24, 15⟩ [] (ht9.trans rfl) (fun z hz => by rcases List.mem_singleton.mp hz with rfl; exact Or.inr ⟨by decide, "java/lang/IndexOutOfBoundsException", hq0, hG.2.2 ("java/lang/IllegalStateException", "java/lang/IndexOutOfBoundsException") (List.mem_of_getElem? (i := 2) rfl)⟩) (by decide) (by decide) hq1 (va_Nw.use rfl (hG.nw 24 (w := .castable "java/lang/IllegalStateException" "java/lang/IllegalStateException") rfl)) hy1 hy2 hy3 ?_
  refine lv_astore (lv' := [(4, .ref q9), (0, .ref x), (1, .int w), (2, .int s), (3, .ref o)]) hx hb dL_sight_24 hl (by decide) rfl (fun ls hl => ?_)
  refine lv_iconst (v := 2) hx hb dL_sight_26 (by decide) ?_
  refine W.widen (k := (rm_L_sight).cells) (n := (rm_L_sight).slots) (Nat.le_of_ble_eq_true rfl) (Nat.le_of_ble_eq_true rfl) ?_
  exact k_xiret hx hb hr hlocks hK hw rfl dL_sight_27 (by first | rfl | assumption | (simp only [if_true, if_false, Bool.false_eq_true, Bool.true_eq_false, reduceIte, reduceCtorEq]; done) | (simp only [if_true, if_false, Bool.false_eq_true, Bool.true_eq_false, reduceIte, reduceCtorEq]; rfl) | (simp [if_true, if_false, Bool.false_eq_true, Bool.true_eq_false, reduceIte, reduceCtorEq]; done) | (simp [bI, ]; done)) rfl rfl
abbrev rm_L_vote : Room := { frames := 8, cells := 2, slots := 12, locals := 134 }
set_option maxHeartbeats 4000000 in
set_option maxRecDepth 100000 in
theorem c_L_vote (l : Launch) (hflags : l.stackTraces = false) (E : Ev) (x : Nat) (A T B : Nat → Nat) (S U : CS) (G : HS) (p : Int32) (v : Bool) (o : Nat) (f : Nat → Int64) (hT : t_vote G S p = 0) : XI l E yL_vote wsL_vote rm_L_vote [.ref x, .int p, .int (bI v), .ref o] (wX x A T B ++ wC E A (B 0) S ++ wC E T (B 0) U ++ wG E B G ++ [(o, aJ E 1 f)]) 0 0 (wX x A T B ++ wC E A (B 0) S ++ wC E T (B 0) U ++ wG E B (f_vote G p v) ++ [(o, aJ E 1 (vp_updL f 0 ((f_votes (f_vote G p v) (f_ship G p) : Int32).toInt64)))]) := by
  refine k_bXIH (cc := cL_vote) (maxL := 5) (ret := (some .int)) (by decide) rfl (Nat.le_of_ble_eq_true rfl) ?_
  intro p9 e s9 m args below meth c A9 ls hC ht9 hZ hl hw
  obtain ⟨hx, hb, hml, hr, hown, hts, hlocks, hK, hG, hA⟩ := hC
  have hl : lv_has ls 5 [(0, .ref x), (1, .int p), (2, .int (bI v)), (3, .ref o)] := hl
  refine lv_aload_n hx hb dL_vote_0 rfl (lv_at hl 3 rfl) ?_
  refine lv_iconst (v := 0) hx hb dL_vote_1 (by decide) ?_
  refine lv_aload_n hx hb dL_vote_2 rfl (lv_at hl 0 rfl) ?_
  refine lv_iload_n hx hb dL_vote_3 rfl (lv_at hl 1 rfl) ?_
  refine lv_iload_n hx hb dL_vote_4 rfl (lv_at hl 2 rfl) ?_
  refine krx_i (ws' := wX x A T B ++ wC E A (B 0) S ++ wC E T (B 0) U ++ wG E B (f_vote G p v) ++ [(o, aJ E 1 f)]) (vx_runV (As := [.int p, .int (bI v)]) (rest := [.int 0, .ref o]) ⟨hx, hb, hml, hown, hts⟩ (c_X2_vote l hflags E x A T B S U G p v  _) (cwV 2 hts gL_vote_X2_vote rfl rfl rfl ⟨rfl, hd_X2_vote⟩ ⟨Nat.le_of_ble_eq_true rfl, Nat.le_of_ble_eq_true rfl⟩) (pwV (ci := 2) (q0 := 0) (C := RX2) hw hK rfl rfl rfl (rpX (AV := [.ref x, .int p, .int (bI v)]) hw hK hG hZ hA rp_82)) rfl rfl hl.1 rfl (lv_room (Nat.le_of_ble_eq_true rfl)) dL_vote_5 ⟨Nat.le_of_ble_eq_true rfl, Nat.le_of_ble_eq_true rfl⟩) hw hA rp_81 rp_82 (fun H locs ce9 q9 t_1 hw hy1 hy2 hy3 => absurd hT t_1) (fun H locs t_1 hw => ?_)
  refine lv_i2l (v := (f_votes (f_vote G p v) (f_ship G p) : Int32).toInt64) hx hb dL_vote_8 rfl ?_
  refine k_lst (ws' := wX x A T B ++ wC E A (B 0) S ++ wC E T (B 0) U ++ wG E B (f_vote G p v) ++ [(o, aJ E 1 (vp_updL f 0 ((f_votes (f_vote G p v) (f_ship G p) : Int32).toInt64)))]) hx hb hK hw 21 rfl (vp_in_nI (n := 0) (N := 1) (by decide) (by decide)) dL_vote_9 rfl (fun H locs hw => ?_)
  refine lv_goto (tgt := 21) hx hb dL_vote_10 (by decide) ?_
  refine lv_iconst (v := 0) hx hb dL_vote_21 (by decide) ?_
  refine W.widen (k := (rm_L_vote).cells) (n := (rm_L_vote).slots) (Nat.le_of_ble_eq_true rfl) (Nat.le_of_ble_eq_true rfl) ?_
  exact k_xiret hx hb hr hlocks hK hw rfl dL_vote_22 (by first | rfl | assumption | (simp only [if_true, if_false, Bool.false_eq_true, Bool.true_eq_false, reduceIte, reduceCtorEq]; done) | (simp only [if_true, if_false, Bool.false_eq_true, Bool.true_eq_false, reduceIte, reduceCtorEq]; rfl) | (simp [if_true, if_false, Bool.false_eq_true, Bool.true_eq_false, reduceIte, reduceCtorEq]; done) | (simp [bI, ]; done)) rfl rfl
set_option maxHeartbeats 4000000 in
set_option maxRecDepth 100000 in
theorem c_L_vote_1 (l : Launch) (hflags : l.stackTraces = false) (E : Ev) (x : Nat) (A T B : Nat → Nat) (S U : CS) (G : HS) (p : Int32) (v : Bool) (o : Nat) (f : Nat → Int64) (hT : t_vote G S p = 1) : XI l E yL_vote wsL_vote rm_L_vote [.ref x, .int p, .int (bI v), .ref o] (wX x A T B ++ wC E A (B 0) S ++ wC E T (B 0) U ++ wG E B G ++ [(o, aJ E 1 f)]) 0 1 (wX x A T B ++ wC E A (B 0) S ++ wC E T (B 0) U ++ wG E B G ++ [(o, aJ E 1 f)]) := by
  refine k_bXIH (cc := cL_vote) (maxL := 5) (ret := (some .int)) (by decide) rfl (Nat.le_of_ble_eq_true rfl) ?_
  intro p9 e s9 m args below meth c A9 ls hC ht9 hZ hl hw
  obtain ⟨hx, hb, hml, hr, hown, hts, hlocks, hK, hG, hA⟩ := hC
  have hq0 := hts (.classLink RL 21 "java/lang/IndexOutOfBoundsException") (List.mem_of_getElem? (i := 1) rfl)
  have hl : lv_has ls 5 [(0, .ref x), (1, .int p), (2, .int (bI v)), (3, .ref o)] := hl
  refine lv_aload_n hx hb dL_vote_0 rfl (lv_at hl 3 rfl) ?_
  refine lv_iconst (v := 0) hx hb dL_vote_1 (by decide) ?_
  refine lv_aload_n hx hb dL_vote_2 rfl (lv_at hl 0 rfl) ?_
  refine lv_iload_n hx hb dL_vote_3 rfl (lv_at hl 1 rfl) ?_
  refine lv_iload_n hx hb dL_vote_4 rfl (lv_at hl 2 rfl) ?_
  refine krx_i (ws' := wX x A T B ++ wC E A (B 0) S ++ wC E T (B 0) U ++ wG E B (f_vote G p v) ++ [(o, aJ E 1 f)]) (vx_runV (As := [.int p, .int (bI v)]) (rest := [.int 0, .ref o]) ⟨hx, hb, hml, hown, hts⟩ (c_X2_vote l hflags E x A T B S U G p v  _) (cwV 2 hts gL_vote_X2_vote rfl rfl rfl ⟨rfl, hd_X2_vote⟩ ⟨Nat.le_of_ble_eq_true rfl, Nat.le_of_ble_eq_true rfl⟩) (pwV (ci := 2) (q0 := 0) (C := RX2) hw hK rfl rfl rfl (rpX (AV := [.ref x, .int p, .int (bI v)]) hw hK hG hZ hA rp_82)) rfl rfl hl.1 rfl (lv_room (Nat.le_of_ble_eq_true rfl)) dL_vote_5 ⟨Nat.le_of_ble_eq_true rfl, Nat.le_of_ble_eq_true rfl⟩) hw hA rp_81 rp_82 (fun H locs ce9 q9 t_1 hw hy1 hy2 hy3 => ?_) (fun H locs t_1 hw => absurd (t_1.symm.trans hT) (by decide))
  have hy3 : s9.vm.findClass "java/lang/IndexOutOfBoundsException" = some ce9.cls := by rw [hT] at hy3; exact hy3
  refine vx_catch hown [] ⟨0, 10, 13, 21⟩ [⟨0, 10, 17, 15⟩] (ht9.trans rfl) (fun z hz => absurd hz List.not_mem_nil) (by decide) (by decide) hq0 (va_Nw.use rfl (hG.nw 23 (w := .castable "java/lang/IndexOutOfBoundsException" "java/lang/IndexOutOfBoundsException") rfl)) hy1 hy2 hy3 ?_
  refine lv_astore (lv' := [(4, .ref q9), (0, .ref x), (1, .int p), (2, .int (bI v)), (3, .ref o)]) hx hb dL_vote_13 hl (by decide) rfl (fun ls hl => ?_)
  refine lv_iconst (v := 1) hx hb dL_vote_15 (by decide) ?_
  refine W.widen (k := (rm_L_vote).cells) (n := (rm_L_vote).slots) (Nat.le_of_ble_eq_true rfl) (Nat.le_of_ble_eq_true rfl) ?_
  exact k_xiret hx hb hr hlocks hK hw rfl dL_vote_16 (by first | rfl | assumption | (simp only [if_true, if_false, Bool.false_eq_true, Bool.true_eq_false, reduceIte, reduceCtorEq]; done) | (simp only [if_true, if_false, Bool.false_eq_true, Bool.true_eq_false, reduceIte, reduceCtorEq]; rfl) | (simp [if_true, if_false, Bool.false_eq_true, Bool.true_eq_false, reduceIte, reduceCtorEq]; done) | (simp [bI, ]; done)) rfl rfl
set_option maxHeartbeats 4000000 in
set_option maxRecDepth 100000 in
theorem c_L_vote_2 (l : Launch) (hflags : l.stackTraces = false) (E : Ev) (x : Nat) (A T B : Nat → Nat) (S U : CS) (G : HS) (p : Int32) (v : Bool) (o : Nat) (f : Nat → Int64) (hT : t_vote G S p = 2) : XI l E yL_vote wsL_vote rm_L_vote [.ref x, .int p, .int (bI v), .ref o] (wX x A T B ++ wC E A (B 0) S ++ wC E T (B 0) U ++ wG E B G ++ [(o, aJ E 1 f)]) 0 2 (wX x A T B ++ wC E A (B 0) S ++ wC E T (B 0) U ++ wG E B G ++ [(o, aJ E 1 f)]) := by
  refine k_bXIH (cc := cL_vote) (maxL := 5) (ret := (some .int)) (by decide) rfl (Nat.le_of_ble_eq_true rfl) ?_
  intro p9 e s9 m args below meth c A9 ls hC ht9 hZ hl hw
  obtain ⟨hx, hb, hml, hr, hown, hts, hlocks, hK, hG, hA⟩ := hC
  have hq0 := hts (.classLink RL 21 "java/lang/IndexOutOfBoundsException") (List.mem_of_getElem? (i := 1) rfl)
  have hq1 := hts (.classLink RL 15 "java/lang/IllegalStateException") (List.mem_of_getElem? (i := 2) rfl)
  have hl : lv_has ls 5 [(0, .ref x), (1, .int p), (2, .int (bI v)), (3, .ref o)] := hl
  refine lv_aload_n hx hb dL_vote_0 rfl (lv_at hl 3 rfl) ?_
  refine lv_iconst (v := 0) hx hb dL_vote_1 (by decide) ?_
  refine lv_aload_n hx hb dL_vote_2 rfl (lv_at hl 0 rfl) ?_
  refine lv_iload_n hx hb dL_vote_3 rfl (lv_at hl 1 rfl) ?_
  refine lv_iload_n hx hb dL_vote_4 rfl (lv_at hl 2 rfl) ?_
  refine krx_i (ws' := wX x A T B ++ wC E A (B 0) S ++ wC E T (B 0) U ++ wG E B (f_vote G p v) ++ [(o, aJ E 1 f)]) (vx_runV (As := [.int p, .int (bI v)]) (rest := [.int 0, .ref o]) ⟨hx, hb, hml, hown, hts⟩ (c_X2_vote l hflags E x A T B S U G p v  _) (cwV 2 hts gL_vote_X2_vote rfl rfl rfl ⟨rfl, hd_X2_vote⟩ ⟨Nat.le_of_ble_eq_true rfl, Nat.le_of_ble_eq_true rfl⟩) (pwV (ci := 2) (q0 := 0) (C := RX2) hw hK rfl rfl rfl (rpX (AV := [.ref x, .int p, .int (bI v)]) hw hK hG hZ hA rp_82)) rfl rfl hl.1 rfl (lv_room (Nat.le_of_ble_eq_true rfl)) dL_vote_5 ⟨Nat.le_of_ble_eq_true rfl, Nat.le_of_ble_eq_true rfl⟩) hw hA rp_81 rp_82 (fun H locs ce9 q9 t_1 hw hy1 hy2 hy3 => ?_) (fun H locs t_1 hw => absurd (t_1.symm.trans hT) (by decide))
  have hy3 : s9.vm.findClass "java/lang/IllegalStateException" = some ce9.cls := by rw [hT] at hy3; exact hy3
  refine vx_catch hown [⟨0, 10, 13, 21⟩] ⟨0, 10, 17, 15⟩ [] (ht9.trans rfl) (fun z hz => by rcases List.mem_singleton.mp hz with rfl; exact Or.inr ⟨by decide, "java/lang/IndexOutOfBoundsException", hq0, hG.2.2 ("java/lang/IllegalStateException", "java/lang/IndexOutOfBoundsException") (List.mem_of_getElem? (i := 2) rfl)⟩) (by decide) (by decide) hq1 (va_Nw.use rfl (hG.nw 24 (w := .castable "java/lang/IllegalStateException" "java/lang/IllegalStateException") rfl)) hy1 hy2 hy3 ?_
  refine lv_astore (lv' := [(4, .ref q9), (0, .ref x), (1, .int p), (2, .int (bI v)), (3, .ref o)]) hx hb dL_vote_17 hl (by decide) rfl (fun ls hl => ?_)
  refine lv_iconst (v := 2) hx hb dL_vote_19 (by decide) ?_
  refine W.widen (k := (rm_L_vote).cells) (n := (rm_L_vote).slots) (Nat.le_of_ble_eq_true rfl) (Nat.le_of_ble_eq_true rfl) ?_
  exact k_xiret hx hb hr hlocks hK hw rfl dL_vote_20 (by first | rfl | assumption | (simp only [if_true, if_false, Bool.false_eq_true, Bool.true_eq_false, reduceIte, reduceCtorEq]; done) | (simp only [if_true, if_false, Bool.false_eq_true, Bool.true_eq_false, reduceIte, reduceCtorEq]; rfl) | (simp [if_true, if_false, Bool.false_eq_true, Bool.true_eq_false, reduceIte, reduceCtorEq]; done) | (simp [bI, ]; done)) rfl rfl
abbrev rm_L_burnNights : Room := { frames := 8, cells := 1, slots := 6, locals := 154 }
set_option maxHeartbeats 4000000 in
set_option maxRecDepth 100000 in
theorem c_L_burnNights (l : Launch) (hflags : l.stackTraces = false) (E : Ev) (x : Nat) (A T B : Nat → Nat) (S U : CS) (G : HS) (n : Int32) (o : Nat) (f : Nat → Int64) (hT : t_nights n 60 = 0) : XI l E yL_burnNights wsL_burnNights rm_L_burnNights [.ref x, .int n, .ref o] (wX x A T B ++ wC E A (B 0) S ++ wC E T (B 0) U ++ wG E B G ++ [(o, aJ E 1 f)]) 0 0 (wX x A T B ++ wC E A (B 0) (l_passS G S n.toNatClampNeg) ++ wC E T (B 0) U ++ wG E B G ++ [(o, aJ E 1 (vp_updL f 0 ((l_passN G S n.toNatClampNeg : Int32).toInt64)))]) := by
  refine k_bXIH (cc := cL_burnNights) (maxL := 4) (ret := (some .int)) (by decide) rfl (Nat.le_of_ble_eq_true rfl) ?_
  intro p9 e s9 m args below meth c A9 ls hC ht9 hZ hl hw
  obtain ⟨hx, hb, hml, hr, hown, hts, hlocks, hK, hG, hA⟩ := hC
  have hl : lv_has ls 4 [(0, .ref x), (1, .int n), (2, .ref o)] := hl
  refine lv_aload_n hx hb dL_burnNights_0 rfl (lv_at hl 2 rfl) ?_
  refine lv_iconst (v := 0) hx hb dL_burnNights_1 (by decide) ?_
  refine lv_aload_n hx hb dL_burnNights_2 rfl (lv_at hl 0 rfl) ?_
  refine lv_iload_n hx hb dL_burnNights_3 rfl (lv_at hl 1 rfl) ?_
  refine krx_i (ws' := wX x A T B ++ wC E A (B 0) (l_passS G S n.toNatClampNeg) ++ wC E T (B 0) U ++ wG E B G ++ [(o, aJ E 1 f)]) (vx_runV (As := [.int n]) (rest := [.int 0, .ref o]) ⟨hx, hb, hml, hown, hts⟩ (c_X2_burnNights l hflags E x A T B S U G n  _) (cwV 1 hts gL_burnNights_X2_burnNights rfl rfl rfl ⟨rfl, hd_X2_burnNights⟩ ⟨Nat.le_of_ble_eq_true rfl, Nat.le_of_ble_eq_true rfl⟩) (pwV (ci := 2) (q0 := 0) (C := RX2) hw hK rfl rfl rfl (rpX (AV := [.ref x, .int n]) hw hK hG hZ hA rp_82)) rfl rfl hl.1 rfl (lv_room (Nat.le_of_ble_eq_true rfl)) dL_burnNights_4 ⟨Nat.le_of_ble_eq_true rfl, Nat.le_of_ble_eq_true rfl⟩) hw hA rp_84 rp_82 (fun H locs ce9 q9 t_1 hw hy1 hy2 hy3 => absurd hT t_1) (fun H locs t_1 hw => ?_)
  refine lv_i2l (v := (l_passN G S n.toNatClampNeg : Int32).toInt64) hx hb dL_burnNights_7 rfl ?_
  refine k_lst (ws' := wX x A T B ++ wC E A (B 0) (l_passS G S n.toNatClampNeg) ++ wC E T (B 0) U ++ wG E B G ++ [(o, aJ E 1 (vp_updL f 0 ((l_passN G S n.toNatClampNeg : Int32).toInt64)))]) hx hb hK hw 21 rfl (vp_in_nI (n := 0) (N := 1) (by decide) (by decide)) dL_burnNights_8 rfl (fun H locs hw => ?_)
  refine lv_goto (tgt := 15) hx hb dL_burnNights_9 (by decide) ?_
  refine lv_iconst (v := 0) hx hb dL_burnNights_15 (by decide) ?_
  refine W.widen (k := (rm_L_burnNights).cells) (n := (rm_L_burnNights).slots) (Nat.le_of_ble_eq_true rfl) (Nat.le_of_ble_eq_true rfl) ?_
  exact k_xiret hx hb hr hlocks hK hw rfl dL_burnNights_16 (by first | rfl | assumption | (simp only [if_true, if_false, Bool.false_eq_true, Bool.true_eq_false, reduceIte, reduceCtorEq]; done) | (simp only [if_true, if_false, Bool.false_eq_true, Bool.true_eq_false, reduceIte, reduceCtorEq]; rfl) | (simp [if_true, if_false, Bool.false_eq_true, Bool.true_eq_false, reduceIte, reduceCtorEq]; done) | (simp [bI, ]; done)) rfl rfl
set_option maxHeartbeats 4000000 in
set_option maxRecDepth 100000 in
theorem c_L_burnNights_3 (l : Launch) (hflags : l.stackTraces = false) (E : Ev) (x : Nat) (A T B : Nat → Nat) (S U : CS) (G : HS) (n : Int32) (o : Nat) (f : Nat → Int64) (hT : t_nights n 60 = 3) : XI l E yL_burnNights wsL_burnNights rm_L_burnNights [.ref x, .int n, .ref o] (wX x A T B ++ wC E A (B 0) S ++ wC E T (B 0) U ++ wG E B G ++ [(o, aJ E 1 f)]) 0 1 (wX x A T B ++ wC E A (B 0) S ++ wC E T (B 0) U ++ wG E B G ++ [(o, aJ E 1 f)]) := by
  refine k_bXIH (cc := cL_burnNights) (maxL := 4) (ret := (some .int)) (by decide) rfl (Nat.le_of_ble_eq_true rfl) ?_
  intro p9 e s9 m args below meth c A9 ls hC ht9 hZ hl hw
  obtain ⟨hx, hb, hml, hr, hown, hts, hlocks, hK, hG, hA⟩ := hC
  have hq0 := hts (.classLink RL 13 "java/lang/IllegalArgumentException") (List.mem_of_getElem? (i := 1) rfl)
  have hl : lv_has ls 4 [(0, .ref x), (1, .int n), (2, .ref o)] := hl
  refine lv_aload_n hx hb dL_burnNights_0 rfl (lv_at hl 2 rfl) ?_
  refine lv_iconst (v := 0) hx hb dL_burnNights_1 (by decide) ?_
  refine lv_aload_n hx hb dL_burnNights_2 rfl (lv_at hl 0 rfl) ?_
  refine lv_iload_n hx hb dL_burnNights_3 rfl (lv_at hl 1 rfl) ?_
  refine krx_i (ws' := wX x A T B ++ wC E A (B 0) (l_passS G S n.toNatClampNeg) ++ wC E T (B 0) U ++ wG E B G ++ [(o, aJ E 1 f)]) (vx_runV (As := [.int n]) (rest := [.int 0, .ref o]) ⟨hx, hb, hml, hown, hts⟩ (c_X2_burnNights l hflags E x A T B S U G n  _) (cwV 1 hts gL_burnNights_X2_burnNights rfl rfl rfl ⟨rfl, hd_X2_burnNights⟩ ⟨Nat.le_of_ble_eq_true rfl, Nat.le_of_ble_eq_true rfl⟩) (pwV (ci := 2) (q0 := 0) (C := RX2) hw hK rfl rfl rfl (rpX (AV := [.ref x, .int n]) hw hK hG hZ hA rp_82)) rfl rfl hl.1 rfl (lv_room (Nat.le_of_ble_eq_true rfl)) dL_burnNights_4 ⟨Nat.le_of_ble_eq_true rfl, Nat.le_of_ble_eq_true rfl⟩) hw hA rp_84 rp_82 (fun H locs ce9 q9 t_1 hw hy1 hy2 hy3 => ?_) (fun H locs t_1 hw => absurd (t_1.symm.trans hT) (by decide))
  have hy3 : s9.vm.findClass "java/lang/IllegalArgumentException" = some ce9.cls := by rw [hT] at hy3; exact hy3
  refine vx_catch hown [] ⟨0, 9, 12, 13⟩ [] (ht9.trans rfl) (fun z hz => absurd hz List.not_mem_nil) (by decide) (by decide) hq0 (va_Nw.use rfl (hG.nw 25 (w := .castable "java/lang/IllegalArgumentException" "java/lang/IllegalArgumentException") rfl)) hy1 hy2 hy3 ?_
  refine lv_astore_n (lv' := [(3, .ref q9), (0, .ref x), (1, .int n), (2, .ref o)]) hx hb dL_burnNights_12 rfl hl (by decide) rfl (fun ls hl => ?_)
  refine lv_iconst (v := 1) hx hb dL_burnNights_13 (by decide) ?_
  refine W.widen (k := (rm_L_burnNights).cells) (n := (rm_L_burnNights).slots) (Nat.le_of_ble_eq_true rfl) (Nat.le_of_ble_eq_true rfl) ?_
  exact k_xiret hx hb hr hlocks hK hw rfl dL_burnNights_14 (by first | rfl | assumption | (simp only [if_true, if_false, Bool.false_eq_true, Bool.true_eq_false, reduceIte, reduceCtorEq]; done) | (simp only [if_true, if_false, Bool.false_eq_true, Bool.true_eq_false, reduceIte, reduceCtorEq]; rfl) | (simp [if_true, if_false, Bool.false_eq_true, Bool.true_eq_false, reduceIte, reduceCtorEq]; done) | (simp [bI, ]; done)) rfl rfl
abbrev rm_L_mastsOf : Room := { frames := 8, cells := 1, slots := 6, locals := 132 }
set_option maxHeartbeats 4000000 in
set_option maxRecDepth 100000 in
theorem c_L_mastsOf (l : Launch) (hflags : l.stackTraces = false) (E : Ev) (x : Nat) (A T B : Nat → Nat) (S U : CS) (G : HS) (s : Int32) (o : Nat) (f : Nat → Int64) (hT : t_ship G s = 0) : XI l E yL_mastsOf wsL_mastsOf rm_L_mastsOf [.ref x, .int s, .ref o] (wX x A T B ++ wC E A (B 0) S ++ wC E T (B 0) U ++ wG E B G ++ [(o, aJ E 1 f)]) 0 0 (wX x A T B ++ wC E A (B 0) S ++ wC E T (B 0) U ++ wG E B G ++ [(o, aJ E 1 (vp_updL f 0 ((f_at 5 (g_ma G) s : Int32).toInt64)))]) := by
  refine k_bXIH (cc := cL_mastsOf) (maxL := 4) (ret := (some .int)) (by decide) rfl (Nat.le_of_ble_eq_true rfl) ?_
  intro p9 e s9 m args below meth c A9 ls hC ht9 hZ hl hw
  obtain ⟨hx, hb, hml, hr, hown, hts, hlocks, hK, hG, hA⟩ := hC
  have hl : lv_has ls 4 [(0, .ref x), (1, .int s), (2, .ref o)] := hl
  refine lv_aload_n hx hb dL_mastsOf_0 rfl (lv_at hl 2 rfl) ?_
  refine lv_iconst (v := 0) hx hb dL_mastsOf_1 (by decide) ?_
  refine lv_aload_n hx hb dL_mastsOf_2 rfl (lv_at hl 0 rfl) ?_
  refine lv_iload_n hx hb dL_mastsOf_3 rfl (lv_at hl 1 rfl) ?_
  refine krx_i (ws' := wX x A T B ++ wC E A (B 0) S ++ wC E T (B 0) U ++ wG E B G ++ [(o, aJ E 1 f)]) (vx_runV (As := [.int s]) (rest := [.int 0, .ref o]) ⟨hx, hb, hml, hown, hts⟩ (c_X2_mastsOf l hflags E x A T B S U G s  _) (cwV 1 hts gL_mastsOf_X2_mastsOf rfl rfl rfl ⟨rfl, hd_X2_mastsOf⟩ ⟨Nat.le_of_ble_eq_true rfl, Nat.le_of_ble_eq_true rfl⟩) (pwV (ci := 2) (q0 := 0) (C := RX2) hw hK rfl rfl rfl (rpX (AV := [.ref x, .int s]) hw hK hG hZ hA rp_82)) rfl rfl hl.1 rfl (lv_room (Nat.le_of_ble_eq_true rfl)) dL_mastsOf_4 ⟨Nat.le_of_ble_eq_true rfl, Nat.le_of_ble_eq_true rfl⟩) hw hA rp_82 rp_82 (fun H locs ce9 q9 t_1 hw hy1 hy2 hy3 => absurd hT t_1) (fun H locs t_1 hw => ?_)
  refine lv_i2l (v := (f_at 5 (g_ma G) s : Int32).toInt64) hx hb dL_mastsOf_7 rfl ?_
  refine k_lst (ws' := wX x A T B ++ wC E A (B 0) S ++ wC E T (B 0) U ++ wG E B G ++ [(o, aJ E 1 (vp_updL f 0 ((f_at 5 (g_ma G) s : Int32).toInt64)))]) hx hb hK hw 21 rfl (vp_in_nI (n := 0) (N := 1) (by decide) (by decide)) dL_mastsOf_8 rfl (fun H locs hw => ?_)
  refine lv_goto (tgt := 15) hx hb dL_mastsOf_9 (by decide) ?_
  refine lv_iconst (v := 0) hx hb dL_mastsOf_15 (by decide) ?_
  refine W.widen (k := (rm_L_mastsOf).cells) (n := (rm_L_mastsOf).slots) (Nat.le_of_ble_eq_true rfl) (Nat.le_of_ble_eq_true rfl) ?_
  exact k_xiret hx hb hr hlocks hK hw rfl dL_mastsOf_16 (by first | rfl | assumption | (simp only [if_true, if_false, Bool.false_eq_true, Bool.true_eq_false, reduceIte, reduceCtorEq]; done) | (simp only [if_true, if_false, Bool.false_eq_true, Bool.true_eq_false, reduceIte, reduceCtorEq]; rfl) | (simp [if_true, if_false, Bool.false_eq_true, Bool.true_eq_false, reduceIte, reduceCtorEq]; done) | (simp [bI, ]; done)) rfl rfl
set_option maxHeartbeats 4000000 in
set_option maxRecDepth 100000 in
theorem c_L_mastsOf_1 (l : Launch) (hflags : l.stackTraces = false) (E : Ev) (x : Nat) (A T B : Nat → Nat) (S U : CS) (G : HS) (s : Int32) (o : Nat) (f : Nat → Int64) (hT : t_ship G s = 1) : XI l E yL_mastsOf wsL_mastsOf rm_L_mastsOf [.ref x, .int s, .ref o] (wX x A T B ++ wC E A (B 0) S ++ wC E T (B 0) U ++ wG E B G ++ [(o, aJ E 1 f)]) 0 1 (wX x A T B ++ wC E A (B 0) S ++ wC E T (B 0) U ++ wG E B G ++ [(o, aJ E 1 f)]) := by
  refine k_bXIH (cc := cL_mastsOf) (maxL := 4) (ret := (some .int)) (by decide) rfl (Nat.le_of_ble_eq_true rfl) ?_
  intro p9 e s9 m args below meth c A9 ls hC ht9 hZ hl hw
  obtain ⟨hx, hb, hml, hr, hown, hts, hlocks, hK, hG, hA⟩ := hC
  have hq0 := hts (.classLink RL 21 "java/lang/IndexOutOfBoundsException") (List.mem_of_getElem? (i := 1) rfl)
  have hl : lv_has ls 4 [(0, .ref x), (1, .int s), (2, .ref o)] := hl
  refine lv_aload_n hx hb dL_mastsOf_0 rfl (lv_at hl 2 rfl) ?_
  refine lv_iconst (v := 0) hx hb dL_mastsOf_1 (by decide) ?_
  refine lv_aload_n hx hb dL_mastsOf_2 rfl (lv_at hl 0 rfl) ?_
  refine lv_iload_n hx hb dL_mastsOf_3 rfl (lv_at hl 1 rfl) ?_
  refine krx_i (ws' := wX x A T B ++ wC E A (B 0) S ++ wC E T (B 0) U ++ wG E B G ++ [(o, aJ E 1 f)]) (vx_runV (As := [.int s]) (rest := [.int 0, .ref o]) ⟨hx, hb, hml, hown, hts⟩ (c_X2_mastsOf l hflags E x A T B S U G s  _) (cwV 1 hts gL_mastsOf_X2_mastsOf rfl rfl rfl ⟨rfl, hd_X2_mastsOf⟩ ⟨Nat.le_of_ble_eq_true rfl, Nat.le_of_ble_eq_true rfl⟩) (pwV (ci := 2) (q0 := 0) (C := RX2) hw hK rfl rfl rfl (rpX (AV := [.ref x, .int s]) hw hK hG hZ hA rp_82)) rfl rfl hl.1 rfl (lv_room (Nat.le_of_ble_eq_true rfl)) dL_mastsOf_4 ⟨Nat.le_of_ble_eq_true rfl, Nat.le_of_ble_eq_true rfl⟩) hw hA rp_82 rp_82 (fun H locs ce9 q9 t_1 hw hy1 hy2 hy3 => ?_) (fun H locs t_1 hw => absurd (t_1.symm.trans hT) (by decide))
  have hy3 : s9.vm.findClass "java/lang/IndexOutOfBoundsException" = some ce9.cls := by rw [hT] at hy3; exact hy3
  refine vx_catch hown [] ⟨0, 9, 12, 21⟩ [] (ht9.trans rfl) (fun z hz => absurd hz List.not_mem_nil) (by decide) (by decide) hq0 (va_Nw.use rfl (hG.nw 23 (w := .castable "java/lang/IndexOutOfBoundsException" "java/lang/IndexOutOfBoundsException") rfl)) hy1 hy2 hy3 ?_
  refine lv_astore_n (lv' := [(3, .ref q9), (0, .ref x), (1, .int s), (2, .ref o)]) hx hb dL_mastsOf_12 rfl hl (by decide) rfl (fun ls hl => ?_)
  refine lv_iconst (v := 1) hx hb dL_mastsOf_13 (by decide) ?_
  refine W.widen (k := (rm_L_mastsOf).cells) (n := (rm_L_mastsOf).slots) (Nat.le_of_ble_eq_true rfl) (Nat.le_of_ble_eq_true rfl) ?_
  exact k_xiret hx hb hr hlocks hK hw rfl dL_mastsOf_14 (by first | rfl | assumption | (simp only [if_true, if_false, Bool.false_eq_true, Bool.true_eq_false, reduceIte, reduceCtorEq]; done) | (simp only [if_true, if_false, Bool.false_eq_true, Bool.true_eq_false, reduceIte, reduceCtorEq]; rfl) | (simp [if_true, if_false, Bool.false_eq_true, Bool.true_eq_false, reduceIte, reduceCtorEq]; done) | (simp [bI, ]; done)) rfl rfl
