abbrev rm_X0_darkFor : Room := { frames := 2, cells := 0, slots := 0, locals := 42 }
set_option maxHeartbeats 4000000 in
set_option maxRecDepth 100000 in
theorem c_X0_darkFor (l : Launch) (E : Ev) (A B : Nat → Nat) (S : CS) (G : HS) (p : Int32) : MI l E yX0_darkFor wsX0_darkFor rm_X0_darkFor [.ref (A 0), .int p] (wC E A (B 0) S ++ wG E B G) (bI (f_dark G S p)) (wC E A (B 0) S ++ wG E B G) := by
  refine k_bI (cc := cX0_darkFor) (maxL := 2) (ret := (some .boolean)) (by decide) rfl (Nat.le_of_ble_eq_true rfl) ?_
  intro p9 e s9 m args below meth c A9 ls hC hl hw
  obtain ⟨hx, hb, hml, hr, hown, hts, hlocks, hK, hG, hA⟩ := hC
  have hf31 := hts (.fieldLink RX0 31 "SailorCandles$Chapel" "harbour" "LSailorCandles$Harbour;") (List.mem_of_getElem? (i := 1) rfl)
  have hinX0 : ∀ w ∈ wsX00, w ∈ wsX0_darkFor := fun w h => List.mem_cons_of_mem _ (List.mem_append_left _ (List.mem_append_right _ h))
  have hf22 := hts (.fieldLink RX0 22 "SailorCandles$Chapel" "candle" "[I") (List.mem_of_getElem? (i := 2) rfl)
  have hq3 := hts (.initialized RX2) (List.mem_of_getElem? (i := 16) rfl)
  have hq4 := hts (.static yX2_at) (List.mem_of_getElem? (i := 15) rfl)
  have hl : lv_has ls 2 [(0, .ref (A 0)), (1, .int p)] := hl
  refine lv_aload_n hx hb dX0_darkFor_0 rfl (lv_at hl 0 rfl) ?_
  refine lv_aload_n hx hb dX0_darkFor_1 rfl (lv_at hl 0 rfl) ?_
  refine k_get (ci := 0) (v := .ref (B 0)) (C := RX0) (T := TX0) (N := 10) hx hb hown hK hw hts hinX0 0 rfl rfl 0 (by decide) hf31 rfl dX0_darkFor_2 ?_
  refine lv_iload_n hx hb dX0_darkFor_5 rfl (lv_at hl 1 rfl) ?_
  refine kr_i (ws' := wC E A (B 0) S ++ wG E B G) (va_runV (As := [.int p]) (rest := [.ref (A 0)]) ⟨hx, hb, hml, hown, hts⟩ (c_X1_shipWith l E B G p  _) (cwV 1 hts gX0_darkFor_X1_shipWith rfl rfl rfl ⟨rfl, hd_X1_shipWith⟩ ⟨Nat.le_of_ble_eq_true rfl, Nat.le_of_ble_eq_true rfl⟩) (pwV (ci := 1) (q0 := 7) (C := RX1) hw hK rfl rfl rfl (rpS (AV := [.ref (B 0), .int p]) hw hK hG rp_28)) rfl rfl hl.1 rfl (lv_room (Nat.le_of_ble_eq_true rfl)) dX0_darkFor_6 ⟨Nat.le_of_ble_eq_true rfl, Nat.le_of_ble_eq_true rfl⟩) hw hA rp_28 (fun H locs hw => ?_)
  refine kr_i (ws' := wC E A (B 0) S ++ wG E B G) (va_runV (As := [.int (f_ship G p)]) (rest := []) ⟨hx, hb, hml, hown, hts⟩ (c_X0_stayOf l E A (B 0) S (f_ship G p)  _) (cwV 1 hts gX0_darkFor_X0_stayOf rfl rfl rfl ⟨rfl, hd_X0_stayOf⟩ ⟨Nat.le_of_ble_eq_true rfl, Nat.le_of_ble_eq_true rfl⟩) (pwV (ci := 0) (q0 := 0) (C := RX0) hw hK rfl rfl rfl (rpS (AV := [.ref (A 0), .int (f_ship G p)]) hw hK hG rp_30)) rfl rfl hl.1 rfl (lv_room (Nat.le_of_ble_eq_true rfl)) dX0_darkFor_9 ⟨Nat.le_of_ble_eq_true rfl, Nat.le_of_ble_eq_true rfl⟩) hw hA rp_30 (fun H locs hw => ?_)
  refine lv_iconst (v := 1) hx hb dX0_darkFor_12 (by decide) ?_
  refine lv_icmp_ne (tgt := 31) hx hb dX0_darkFor_13 (by decide) (fun c_1 => ?_) (fun c_1 => ?_)
  · refine lv_iconst (v := 0) hx hb dX0_darkFor_31 (by decide) ?_
    exact k_iret hx hb hr hlocks hK hw rfl dX0_darkFor_32 (by first | assumption | (simp only [f_dark, bI_t, bI_f, if_neg c_1, if_true, if_false, Bool.false_eq_true, Bool.true_eq_false, reduceIte, reduceCtorEq]; done) | (simp only [f_dark, bI_t, bI_f, if_neg c_1, if_true, if_false, Bool.false_eq_true, Bool.true_eq_false, reduceIte, reduceCtorEq]; rfl) | rfl | (simp [f_dark, bI_t, bI_f, if_neg c_1, if_true, if_false, Bool.false_eq_true, Bool.true_eq_false, reduceIte, reduceCtorEq]; done) | (simp [bI, f_dark, bI_t, bI_f, c_1]; done)) rfl
  · refine lv_aload_n hx hb dX0_darkFor_16 rfl (lv_at hl 0 rfl) ?_
    refine k_get (ci := 0) (v := .ref (A 4)) (C := RX0) (T := TX0) (N := 10) hx hb hown hK hw hts hinX0 0 rfl rfl 4 (by decide) hf22 rfl dX0_darkFor_17 ?_
    refine lv_iload_n hx hb dX0_darkFor_20 rfl (lv_at hl 1 rfl) ?_
    refine kr_i (ws' := wC E A (B 0) S ++ wG E B G) (va_runSN (As := [.ref (A 4), .int p]) (rest := []) ⟨hx, hb, hml, hown, hts⟩ (c_X2_at l E (A 4) 16 (c_ca S) p (by decide) _) ⟨va_cnB 2 hts ggX0_darkFor_X2_at rfl rfl rfl (hG.nw 15 (w := .methodLinkNest RX0 53 yX2_at "SailorCandles") rfl) hq3 hd_X2_at ⟨Nat.le_of_ble_eq_true rfl, Nat.le_of_ble_eq_true rfl⟩, hq4, trivial⟩ (rpS (AV := [.ref (A 4), .int p]) hw hK hG rp_33) rfl rfl hl.1 rfl (lv_room (Nat.le_of_ble_eq_true rfl)) dX0_darkFor_21 ⟨Nat.le_of_ble_eq_true rfl, Nat.le_of_ble_eq_true rfl⟩) hw hA rp_33 (fun H locs hw => ?_)
    refine lv_if_ne (tgt := 31) hx hb dX0_darkFor_24 (by decide) (fun c_2 => ?_) (fun c_2 => ?_)
    · refine lv_iconst (v := 0) hx hb dX0_darkFor_31 (by decide) ?_
      exact k_iret hx hb hr hlocks hK hw rfl dX0_darkFor_32 (by first | assumption | (simp only [f_dark, bI_t, bI_f, if_pos c_1, if_neg c_2, if_true, if_false, Bool.false_eq_true, Bool.true_eq_false, reduceIte, reduceCtorEq]; done) | (simp only [f_dark, bI_t, bI_f, if_pos c_1, if_neg c_2, if_true, if_false, Bool.false_eq_true, Bool.true_eq_false, reduceIte, reduceCtorEq]; rfl) | rfl | (simp [f_dark, bI_t, bI_f, if_pos c_1, if_neg c_2, if_true, if_false, Bool.false_eq_true, Bool.true_eq_false, reduceIte, reduceCtorEq]; done) | (simp [bI, f_dark, bI_t, bI_f, c_1, c_2]; done)) rfl
    · refine lv_iconst (v := 1) hx hb dX0_darkFor_27 (by decide) ?_
      refine lv_goto (tgt := 32) hx hb dX0_darkFor_28 (by decide) ?_
      exact k_iret hx hb hr hlocks hK hw rfl dX0_darkFor_32 (by first | assumption | (simp only [f_dark, bI_t, bI_f, if_pos c_1, if_pos c_2, if_true, if_false, Bool.false_eq_true, Bool.true_eq_false, reduceIte, reduceCtorEq]; done) | (simp only [f_dark, bI_t, bI_f, if_pos c_1, if_pos c_2, if_true, if_false, Bool.false_eq_true, Bool.true_eq_false, reduceIte, reduceCtorEq]; rfl) | rfl | (simp [f_dark, bI_t, bI_f, if_pos c_1, if_pos c_2, if_true, if_false, Bool.false_eq_true, Bool.true_eq_false, reduceIte, reduceCtorEq]; done) | (simp [bI, f_dark, bI_t, bI_f, c_1, c_2]; done)) rfl
abbrev rm_X0_darkCount : Room := { frames := 3, cells := 0, slots := 0, locals := 63 }
set_option maxHeartbeats 4000000 in
set_option maxRecDepth 100000 in
theorem c_X0_darkCount (l : Launch) (E : Ev) (A B : Nat → Nat) (S : CS) (G : HS) : MI l E yX0_darkCount wsX0_darkCount rm_X0_darkCount [.ref (A 0)] (wC E A (B 0) S ++ wG E B G) (l_dark G S 16) (wC E A (B 0) S ++ wG E B G) := by
  refine k_bI (cc := cX0_darkCount) (maxL := 3) (ret := (some .int)) (by decide) rfl (Nat.le_of_ble_eq_true rfl) ?_
  intro p9 e s9 m args below meth c A9 ls hC hl hw
  obtain ⟨hx, hb, hml, hr, hown, hts, hlocks, hK, hG, hA⟩ := hC
  have hl : lv_has ls 3 [(0, .ref (A 0))] := hl
  refine lv_iconst (v := 0) hx hb dX0_darkCount_0 (by decide) ?_
  refine lv_istore_n (lv' := [(1, .int 0), (0, .ref (A 0))]) hx hb dX0_darkCount_1 rfl hl (by decide) rfl (fun ls hl => ?_)
  refine lv_iconst (v := 0) hx hb dX0_darkCount_2 (by decide) ?_
  refine lv_istore_n (lv' := [(2, .int 0), (1, .int 0), (0, .ref (A 0))]) hx hb dX0_darkCount_3 rfl hl (by decide) rfl (fun ls hl => ?_)
  have L_4 : ∀ (k9 i : Nat) (H : Heap) (locs : List Loc) (ls : Array Slot), i + k9 = 16 → Wd E A9 s9.heap (wC E A (B 0) S ++ wG E B G) H locs → lv_has ls 3 [(0, .ref (A 0)), (1, .int (l_dark G S i)), (2, .int (nI i))] → W p9 l e rm_X0_darkCount s9 m args below meth c H locs 0 0 (EndI E A9 (l_dark G S 16) (wC E A (B 0) S ++ wG E B G) below args s9 (rm_X0_darkCount).cells (rm_X0_darkCount).slots) (F0 m 4 ls []) := by
    intro k9
    induction k9 with
    | zero =>
      intro i H locs ls hi hw hl
      have hz_1 : 16 = i := by omega
      refine lv_iload_n hx hb dX0_darkCount_4 rfl (lv_at hl 2 rfl) ?_
      refine lv_bipush (v := 16) hx hb dX0_darkCount_5 (by decide) ?_
      refine lv_icmp_ge (tgt := 27) hx hb dX0_darkCount_7 (by decide) (fun _ => ?_) (fun q8 => absurd (by rw [← hz_1]; exact Int32.le_refl _) q8)
      refine lv_iload_n hx hb dX0_darkCount_27 rfl (lv_at hl 1 rfl) ?_
      exact k_iret hx hb hr hlocks hK hw rfl dX0_darkCount_28 (by subst hz_1; first | rfl | assumption | (simp only [l_dark, if_true, if_false, Bool.false_eq_true, Bool.true_eq_false, reduceIte, reduceCtorEq]; done) | (simp only [l_dark, if_true, if_false, Bool.false_eq_true, Bool.true_eq_false, reduceIte, reduceCtorEq]; rfl) | (simp [l_dark, if_true, if_false, Bool.false_eq_true, Bool.true_eq_false, reduceIte, reduceCtorEq]; done) | (simp [bI, l_dark]; done)) rfl
    | succ k9 ih_4 =>
      intro i H locs ls hi hw hl
      have hi9 : i < 16 := by omega
      refine lv_iload_n hx hb dX0_darkCount_4 rfl (lv_at hl 2 rfl) ?_
      refine lv_bipush (v := 16) hx hb dX0_darkCount_5 (by decide) ?_
      refine lv_icmp_ge (tgt := 27) hx hb dX0_darkCount_7 (by decide) (fun q8 => absurd q8 (nI_ge (a := i) (b := 16) (by omega) (by omega))) (fun _ => ?_)
      refine lv_aload_n hx hb dX0_darkCount_10 rfl (lv_at hl 0 rfl) ?_
      refine lv_iload_n hx hb dX0_darkCount_11 rfl (lv_at hl 2 rfl) ?_
      refine kr_i (ws' := wC E A (B 0) S ++ wG E B G) (va_runV (As := [.int (nI i)]) (rest := []) ⟨hx, hb, hml, hown, hts⟩ (c_X0_darkFor l E A B S G (nI i)  _) (cwV 1 hts gX0_darkCount_X0_darkFor rfl rfl rfl ⟨rfl, hd_X0_darkFor⟩ ⟨Nat.le_of_ble_eq_true rfl, Nat.le_of_ble_eq_true rfl⟩) (pwV (ci := 0) (q0 := 0) (C := RX0) hw hK rfl rfl rfl (rpS (AV := [.ref (A 0), .int (nI i)]) hw hK hG rp_46)) rfl rfl hl.1 rfl (lv_room (Nat.le_of_ble_eq_true rfl)) dX0_darkCount_12 ⟨Nat.le_of_ble_eq_true rfl, Nat.le_of_ble_eq_true rfl⟩) hw hA rp_46 (fun H locs hw => ?_)
      refine lv_if_eq (tgt := 21) hx hb dX0_darkCount_15 (by decide) (fun c_2 => ?_) (fun c_2 => ?_)
      · have c_2 := bI_z c_2
        refine lv_iinc (v := nI (i + 1)) (lv' := [(2, .int (nI (i + 1))), (0, .ref (A 0)), (1, .int (l_dark G S i))]) hx hb dX0_darkCount_21 hl (k := 2) rfl (nI_add i 1) (by decide) rfl (fun ls hl => ?_)
        refine lv_goto (tgt := 4) hx hb dX0_darkCount_24 (by decide) ?_
        exact ih_4 (i + 1) _ _ _ (by omega) hw (by rw [show (.int (l_dark G S (i + 1)) : Value) = .int (l_dark G S i) from (by first | assumption | (simp only [l_dark, c_2, if_true, if_false, Bool.false_eq_true, Bool.true_eq_false, reduceIte, reduceCtorEq]; done) | (simp only [l_dark, c_2, if_true, if_false, Bool.false_eq_true, Bool.true_eq_false, reduceIte, reduceCtorEq]; rfl) | rfl | (simp [l_dark, c_2, if_true, if_false, Bool.false_eq_true, Bool.true_eq_false, reduceIte, reduceCtorEq]; done) | (simp [bI, l_dark, c_2]; done))]; exact lv_sub hl [1, 2, 0] rfl)
      · have c_2 := bI_nz c_2
        refine lv_iinc (v := (l_dark G S i) + 1) (lv' := [(1, .int ((l_dark G S i) + 1)), (0, .ref (A 0)), (2, .int (nI i))]) hx hb dX0_darkCount_18 hl (k := 1) rfl rfl (by decide) rfl (fun ls hl => ?_)
        refine lv_iinc (v := nI (i + 1)) (lv' := [(2, .int (nI (i + 1))), (1, .int ((l_dark G S i) + 1)), (0, .ref (A 0))]) hx hb dX0_darkCount_21 hl (k := 2) rfl (nI_add i 1) (by decide) rfl (fun ls hl => ?_)
        refine lv_goto (tgt := 4) hx hb dX0_darkCount_24 (by decide) ?_
        exact ih_4 (i + 1) _ _ _ (by omega) hw (by rw [show (.int (l_dark G S (i + 1)) : Value) = .int ((l_dark G S i) + 1) from (by first | assumption | (simp only [l_dark, c_2, if_true, if_false, Bool.false_eq_true, Bool.true_eq_false, reduceIte, reduceCtorEq]; done) | (simp only [l_dark, c_2, if_true, if_false, Bool.false_eq_true, Bool.true_eq_false, reduceIte, reduceCtorEq]; rfl) | rfl | (simp [l_dark, c_2, if_true, if_false, Bool.false_eq_true, Bool.true_eq_false, reduceIte, reduceCtorEq]; done) | (simp [bI, l_dark, c_2]; done))]; exact lv_sub hl [2, 1, 0] rfl)
  exact L_4 (16 - 0) 0 _ _ _ (by omega) hw (lv_sub hl [2, 1, 0] rfl)
abbrev rm_X0_doubt : Room := { frames := 1, cells := 0, slots := 0, locals := 22 }
set_option maxHeartbeats 4000000 in
set_option maxRecDepth 100000 in
theorem c_X0_doubt (l : Launch) (E : Ev) (A : Nat → Nat) (o1 : Nat) (S : CS) (w : Int32) : MV l E yX0_doubt wsX0_doubt rm_X0_doubt [.ref (A 0), .int w] (wC E A o1 S) (wC E A o1 (f_doubt S w)) := by
  refine k_bV (cc := cX0_doubt) (maxL := 2) (ret := none) (by decide) rfl (Nat.le_of_ble_eq_true rfl) ?_
  intro p9 e s9 m args below meth c A9 ls hC hl hw
  obtain ⟨hx, hb, hml, hr, hown, hts, hlocks, hK, hG, hA⟩ := hC
  have hf25 := hts (.fieldLink RX0 25 "SailorCandles$Chapel" "trust" "[I") (List.mem_of_getElem? (i := 1) rfl)
  have hinX0 : ∀ w ∈ wsX00, w ∈ wsX0_doubt := fun w h => List.mem_cons_of_mem _ (List.mem_append_right _ h)
  have hq2 := hts (.initialized RX2) (List.mem_of_getElem? (i := 7) rfl)
  have hq3 := hts (.static yX2_at) (List.mem_of_getElem? (i := 6) rfl)
  have hq4 := hts (.methodLink RX0 120 Lib.Math.max.name) (List.mem_of_getElem? (i := 2) rfl)
  have hq5 := hts (.static Lib.Math.max.name) (List.mem_of_getElem? (i := 3) rfl)
  have hq6 := hts (.initialized "java/lang/Math") (List.mem_of_getElem? (i := 4) rfl)
  have hq7 := hts (.code Lib.Math.max.name Lib.Math.max.code 2 (some .int)) (List.mem_of_getElem? (i := 5) rfl)
  have hq8 := hts (.static yX2_put) (List.mem_of_getElem? (i := 9) rfl)
  have hl : lv_has ls 2 [(0, .ref (A 0)), (1, .int w)] := hl
  refine lv_aload_n hx hb dX0_doubt_0 rfl (lv_at hl 0 rfl) ?_
  refine k_get (ci := 0) (v := .ref (A 5)) (C := RX0) (T := TX0) (N := 10) hx hb hown hK hw hts hinX0 0 rfl rfl 5 (by decide) hf25 rfl dX0_doubt_1 ?_
  refine lv_iload_n hx hb dX0_doubt_4 rfl (lv_at hl 1 rfl) ?_
  refine lv_iconst (v := 0) hx hb dX0_doubt_5 (by decide) ?_
  refine lv_aload_n hx hb dX0_doubt_6 rfl (lv_at hl 0 rfl) ?_
  refine k_get (ci := 0) (v := .ref (A 5)) (C := RX0) (T := TX0) (N := 10) hx hb hown hK hw hts hinX0 0 rfl rfl 5 (by decide) hf25 rfl dX0_doubt_7 ?_
  refine lv_iload_n hx hb dX0_doubt_10 rfl (lv_at hl 1 rfl) ?_
  refine kr_i (ws' := wC E A o1 S) (va_runSN (As := [.ref (A 5), .int w]) (rest := [.int 0, .int w, .ref (A 5)]) ⟨hx, hb, hml, hown, hts⟩ (c_X2_at l E (A 5) 4 (c_tr S) w (by decide) _) ⟨va_cnB 2 hts ggX0_doubt_X2_at rfl rfl rfl (hG.nw 15 (w := .methodLinkNest RX0 53 yX2_at "SailorCandles") rfl) hq2 hd_X2_at ⟨Nat.le_of_ble_eq_true rfl, Nat.le_of_ble_eq_true rfl⟩, hq3, trivial⟩ (rpS (AV := [.ref (A 5), .int w]) hw hK hG rp_40) rfl rfl hl.1 rfl (lv_room (Nat.le_of_ble_eq_true rfl)) dX0_doubt_11 ⟨Nat.le_of_ble_eq_true rfl, Nat.le_of_ble_eq_true rfl⟩) hw hA rp_40 (fun H locs hw => ?_)
  refine lv_iconst (v := 2) hx hb dX0_doubt_14 (by decide) ?_
  refine lv_isub hx hb dX0_doubt_15 ?_
  refine va_mmax hx hb (by rw [hml]; exact hl.1.symm) hown hq4 hq5 hq6 hq7 (Nat.le_of_ble_eq_true rfl) (Nat.le_of_ble_eq_true rfl) (Nat.le_of_ble_eq_true rfl) (Nat.le_of_ble_eq_true rfl) dX0_doubt_16 ?_
  refine kr_v (ws' := wC E A o1 (p_tr S (f_put 4 (c_tr S) w (if 0 < ((f_at 4 (c_tr S) w) - 2) then (f_at 4 (c_tr S) w) - 2 else 0)))) (va_runSN (As := [.ref (A 5), .int w, .int (if 0 < ((f_at 4 (c_tr S) w) - 2) then (f_at 4 (c_tr S) w) - 2 else 0)]) (rest := []) ⟨hx, hb, hml, hown, hts⟩ (c_X2_put l E (A 5) 4 (c_tr S) w (if 0 < ((f_at 4 (c_tr S) w) - 2) then (f_at 4 (c_tr S) w) - 2 else 0) (by decide) _) ⟨va_cnB 3 hts ggX0_doubt_X2_put rfl rfl rfl (hG.nw 16 (w := .methodLinkNest RX0 57 yX2_put "SailorCandles") rfl) hq2 hd_X2_put ⟨Nat.le_of_ble_eq_true rfl, Nat.le_of_ble_eq_true rfl⟩, hq8, trivial⟩ (rpS (AV := [.ref (A 5), .int w, .int (if 0 < ((f_at 4 (c_tr S) w) - 2) then (f_at 4 (c_tr S) w) - 2 else 0)]) hw hK hG rp_40) rfl rfl hl.1 rfl (lv_room (Nat.le_of_ble_eq_true rfl)) dX0_doubt_19 ⟨Nat.le_of_ble_eq_true rfl, Nat.le_of_ble_eq_true rfl⟩) hw hA rp_45 (fun H locs hw => ?_)
  exact k_vret hx hb hr hlocks hK hw dX0_doubt_22 rfl
abbrev rm_X0_ageSightings : Room := { frames := 2, cells := 0, slots := 0, locals := 43 }
set_option maxHeartbeats 4000000 in
set_option maxRecDepth 100000 in
theorem c_X0_ageSightings (l : Launch) (E : Ev) (A : Nat → Nat) (o1 : Nat) (S : CS) : MV l E yX0_ageSightings wsX0_ageSightings rm_X0_ageSightings [.ref (A 0)] (wC E A o1 S) (wC E A o1 (l_age S 20)) := by
  refine k_bV (cc := cX0_ageSightings) (maxL := 2) (ret := none) (by decide) rfl (Nat.le_of_ble_eq_true rfl) ?_
  intro p9 e s9 m args below meth c A9 ls hC hl hw
  obtain ⟨hx, hb, hml, hr, hown, hts, hlocks, hK, hG, hA⟩ := hC
  have hf28 := hts (.fieldLink RX0 28 "SailorCandles$Chapel" "sightingAge" "[I") (List.mem_of_getElem? (i := 1) rfl)
  have hinX0 : ∀ w ∈ wsX00, w ∈ wsX0_ageSightings := fun w h => List.mem_cons_of_mem _ (List.mem_append_right _ h)
  have hl : lv_has ls 2 [(0, .ref (A 0))] := hl
  refine lv_iconst (v := 0) hx hb dX0_ageSightings_0 (by decide) ?_
  refine lv_istore_n (lv' := [(1, .int 0), (0, .ref (A 0))]) hx hb dX0_ageSightings_1 rfl hl (by decide) rfl (fun ls hl => ?_)
  have L_2 : ∀ (k9 i : Nat) (H : Heap) (locs : List Loc) (ls : Array Slot), i + k9 = 20 → Wd E A9 s9.heap (wC E A o1 (l_age S i)) H locs → lv_has ls 2 [(0, .ref (A 0)), (1, .int (nI i))] → W p9 l e rm_X0_ageSightings s9 m args below meth c H locs 0 0 (EndV E A9 (wC E A o1 (l_age S 20)) below args s9 (rm_X0_ageSightings).cells (rm_X0_ageSightings).slots) (F0 m 2 ls []) := by
    intro k9
    induction k9 with
    | zero =>
      intro i H locs ls hi hw hl
      have hz_1 : 20 = i := by omega
      refine lv_iload_n hx hb dX0_ageSightings_2 rfl (lv_at hl 1 rfl) ?_
      refine lv_aload_n hx hb dX0_ageSightings_3 rfl (lv_at hl 0 rfl) ?_
      refine k_get (ci := 0) (v := .ref (A 6)) (C := RX0) (T := TX0) (N := 10) hx hb hown hK hw hts hinX0 0 rfl rfl 6 (by decide) hf28 rfl dX0_ageSightings_4 ?_
      refine k_lenI hx hb hK hw 6 rfl dX0_ageSightings_7 ?_
      refine lv_icmp_ge (tgt := 62) hx hb dX0_ageSightings_8 (by decide) (fun _ => ?_) (fun q8 => absurd (by rw [← hz_1]; exact Int32.le_refl _) q8)
      exact k_vret hx hb hr hlocks hK hw dX0_ageSightings_62 (by subst hz_1; first | rfl | assumption | (simp only [l_age, f_age1, cp_ag, if_true, if_false, Bool.false_eq_true, Bool.true_eq_false, reduceIte, reduceCtorEq]; done) | (simp only [l_age, f_age1, cp_ag, if_true, if_false, Bool.false_eq_true, Bool.true_eq_false, reduceIte, reduceCtorEq]; rfl) | (simp [l_age, f_age1, cp_ag, if_true, if_false, Bool.false_eq_true, Bool.true_eq_false, reduceIte, reduceCtorEq]; done) | (simp [bI, l_age, f_age1, cp_ag]; done))
    | succ k9 ih_2 =>
      intro i H locs ls hi hw hl
      have hi9 : i < 20 := by omega
      refine lv_iload_n hx hb dX0_ageSightings_2 rfl (lv_at hl 1 rfl) ?_
      refine lv_aload_n hx hb dX0_ageSightings_3 rfl (lv_at hl 0 rfl) ?_
      refine k_get (ci := 0) (v := .ref (A 6)) (C := RX0) (T := TX0) (N := 10) hx hb hown hK hw hts hinX0 0 rfl rfl 6 (by decide) hf28 rfl dX0_ageSightings_4 ?_
      refine k_lenI hx hb hK hw 6 rfl dX0_ageSightings_7 ?_
      refine lv_icmp_ge (tgt := 62) hx hb dX0_ageSightings_8 (by decide) (fun q8 => absurd q8 (nI_ge (a := i) (b := 20) (by omega) (by omega))) (fun _ => ?_)
      refine lv_aload_n hx hb dX0_ageSightings_11 rfl (lv_at hl 0 rfl) ?_
      refine k_get (ci := 0) (v := .ref (A 6)) (C := RX0) (T := TX0) (N := 10) hx hb hown hK hw hts hinX0 0 rfl rfl 6 (by decide) hf28 rfl dX0_ageSightings_12 ?_
      refine lv_iload_n hx hb dX0_ageSightings_15 rfl (lv_at hl 1 rfl) ?_
      refine k_ildN (i := i) (f := c_ag (l_age S i)) hx hb hK hw 6 rfl (by omega) (by omega) dX0_ageSightings_16 ?_
      refine lv_iconst (v := (-1)) hx hb dX0_ageSightings_17 (by decide) ?_
      refine lv_icmp_eq (tgt := 56) hx hb dX0_ageSightings_18 (by decide) (fun c_2 => ?_) (fun c_2 => ?_)
      · refine lv_iinc (v := nI (i + 1)) (lv' := [(1, .int (nI (i + 1))), (0, .ref (A 0))]) hx hb dX0_ageSightings_56 hl (k := 1) rfl (nI_add i 1) (by decide) rfl (fun ls hl => ?_)
        refine lv_goto (tgt := 2) hx hb dX0_ageSightings_59 (by decide) ?_
        exact ih_2 (i + 1) _ _ _ (by omega) (hw.to (by first | assumption | (simp only [l_age, f_age1, cp_ag, if_pos c_2, if_true, if_false, Bool.false_eq_true, Bool.true_eq_false, reduceIte, reduceCtorEq]; done) | (simp only [l_age, f_age1, cp_ag, if_pos c_2, if_true, if_false, Bool.false_eq_true, Bool.true_eq_false, reduceIte, reduceCtorEq]; rfl) | rfl | (simp [l_age, f_age1, cp_ag, if_pos c_2, if_true, if_false, Bool.false_eq_true, Bool.true_eq_false, reduceIte, reduceCtorEq]; done) | (simp [bI, l_age, f_age1, cp_ag, c_2]; done))) (lv_sub hl [1, 0] rfl)
      · refine lv_aload_n hx hb dX0_ageSightings_21 rfl (lv_at hl 0 rfl) ?_
        refine k_get (ci := 0) (v := .ref (A 6)) (C := RX0) (T := TX0) (N := 10) hx hb hown hK hw hts hinX0 0 rfl rfl 6 (by decide) hf28 rfl dX0_ageSightings_22 ?_
        refine lv_iload_n hx hb dX0_ageSightings_25 rfl (lv_at hl 1 rfl) ?_
        refine lv_dup2_11 hx hb dX0_ageSightings_26 rfl rfl ?_
        refine k_ildN (i := i) (f := c_ag (l_age S i)) hx hb hK hw 6 rfl (by omega) (by omega) dX0_ageSightings_27 ?_
        refine lv_iconst (v := 1) hx hb dX0_ageSightings_28 (by decide) ?_
        refine lv_iadd hx hb dX0_ageSightings_29 ?_
        refine k_istN (i := i) (ws' := wC E A o1 (p_ag (l_age S i) (upd (c_ag (l_age S i)) i (((c_ag (l_age S i)) i) + 1)))) hx hb hK hw 6 rfl (by omega) (by omega) dX0_ageSightings_30 rfl (fun H locs hw => ?_)
        refine lv_aload_n hx hb dX0_ageSightings_31 rfl (lv_at hl 0 rfl) ?_
        refine k_get (ci := 0) (v := .ref (A 6)) (C := RX0) (T := TX0) (N := 10) hx hb hown hK hw hts hinX0 0 rfl rfl 6 (by decide) hf28 rfl dX0_ageSightings_32 ?_
        refine lv_iload_n hx hb dX0_ageSightings_35 rfl (lv_at hl 1 rfl) ?_
        refine k_ildN (i := i) (f := upd (c_ag (l_age S i)) i (((c_ag (l_age S i)) i) + 1)) hx hb hK hw 6 rfl (by omega) (by omega) dX0_ageSightings_36 ?_
        refine lv_iconst (v := 3) hx hb dX0_ageSightings_37 (by decide) ?_
        refine lv_icmp_lt (tgt := 56) hx hb dX0_ageSightings_38 (by decide) (fun c_3 => ?_) (fun c_3 => ?_)
        · refine lv_iinc (v := nI (i + 1)) (lv' := [(1, .int (nI (i + 1))), (0, .ref (A 0))]) hx hb dX0_ageSightings_56 hl (k := 1) rfl (nI_add i 1) (by decide) rfl (fun ls hl => ?_)
          refine lv_goto (tgt := 2) hx hb dX0_ageSightings_59 (by decide) ?_
          exact ih_2 (i + 1) _ _ _ (by omega) (hw.to (by first | assumption | (simp only [l_age, f_age1, cp_ag, if_neg c_2, if_pos c_3, if_true, if_false, Bool.false_eq_true, Bool.true_eq_false, reduceIte, reduceCtorEq]; done) | (simp only [l_age, f_age1, cp_ag, if_neg c_2, if_pos c_3, if_true, if_false, Bool.false_eq_true, Bool.true_eq_false, reduceIte, reduceCtorEq]; rfl) | rfl | (simp [l_age, f_age1, cp_ag, if_neg c_2, if_pos c_3, if_true, if_false, Bool.false_eq_true, Bool.true_eq_false, reduceIte, reduceCtorEq]; done) | (simp [bI, l_age, f_age1, cp_ag, c_2, c_3]; done))) (lv_sub hl [1, 0] rfl)
        · refine lv_aload_n hx hb dX0_ageSightings_41 rfl (lv_at hl 0 rfl) ?_
          refine k_get (ci := 0) (v := .ref (A 6)) (C := RX0) (T := TX0) (N := 10) hx hb hown hK hw hts hinX0 0 rfl rfl 6 (by decide) hf28 rfl dX0_ageSightings_42 ?_
          refine lv_iload_n hx hb dX0_ageSightings_45 rfl (lv_at hl 1 rfl) ?_
          refine lv_iconst (v := (-1)) hx hb dX0_ageSightings_46 (by decide) ?_
          refine k_istN (i := i) (ws' := wC E A o1 (p_ag (p_ag (l_age S i) (upd (c_ag (l_age S i)) i (((c_ag (l_age S i)) i) + 1))) (upd (upd (c_ag (l_age S i)) i (((c_ag (l_age S i)) i) + 1)) i (-1)))) hx hb hK hw 6 rfl (by omega) (by omega) dX0_ageSightings_47 rfl (fun H locs hw => ?_)
          refine lv_aload_n hx hb dX0_ageSightings_48 rfl (lv_at hl 0 rfl) ?_
          refine lv_iload_n hx hb dX0_ageSightings_49 rfl (lv_at hl 1 rfl) ?_
          refine kr_i (ws' := wC E A o1 (p_ag (p_ag (l_age S i) (upd (c_ag (l_age S i)) i (((c_ag (l_age S i)) i) + 1))) (upd (upd (c_ag (l_age S i)) i (((c_ag (l_age S i)) i) + 1)) i (-1)))) (va_runS (As := [.int (nI i)]) (rest := [.ref (A 0)]) ⟨hx, hb, hml, hown, hts⟩ (c_X0_watcherAt l E (nI i)  _) (va_cwS 1 hts gX0_ageSightings_X0_watcherAt rfl rfl rfl hd_X0_watcherAt ⟨Nat.le_of_ble_eq_true rfl, Nat.le_of_ble_eq_true rfl⟩) (rpS (AV := [.int (nI i)]) hw hK hG rp_38) rfl rfl hl.1 rfl (lv_room (Nat.le_of_ble_eq_true rfl)) dX0_ageSightings_50 ⟨Nat.le_of_ble_eq_true rfl, Nat.le_of_ble_eq_true rfl⟩) hw hA rp_38 (fun H locs hw => ?_)
          refine kr_v (ws' := wC E A o1 (f_doubt (p_ag (p_ag (l_age S i) (upd (c_ag (l_age S i)) i (((c_ag (l_age S i)) i) + 1))) (upd (upd (c_ag (l_age S i)) i (((c_ag (l_age S i)) i) + 1)) i (-1))) ((nI i) / 5))) (va_runV (As := [.int ((nI i) / 5)]) (rest := []) ⟨hx, hb, hml, hown, hts⟩ (c_X0_doubt l E A o1 (p_ag (p_ag (l_age S i) (upd (c_ag (l_age S i)) i (((c_ag (l_age S i)) i) + 1))) (upd (upd (c_ag (l_age S i)) i (((c_ag (l_age S i)) i) + 1)) i (-1))) ((nI i) / 5)  _) (cwV 1 hts gX0_ageSightings_X0_doubt rfl rfl rfl ⟨rfl, hd_X0_doubt⟩ ⟨Nat.le_of_ble_eq_true rfl, Nat.le_of_ble_eq_true rfl⟩) (pwV (ci := 0) (q0 := 0) (C := RX0) hw hK rfl rfl rfl (rpS (AV := [.ref (A 0), .int ((nI i) / 5)]) hw hK hG rp_39)) rfl rfl hl.1 rfl (lv_room (Nat.le_of_ble_eq_true rfl)) dX0_ageSightings_53 ⟨Nat.le_of_ble_eq_true rfl, Nat.le_of_ble_eq_true rfl⟩) hw hA rp_47 (fun H locs hw => ?_)
          generalize hg_5 : f_doubt (p_ag (p_ag (l_age S i) (upd (c_ag (l_age S i)) i (((c_ag (l_age S i)) i) + 1))) (upd (upd (c_ag (l_age S i)) i (((c_ag (l_age S i)) i) + 1)) i (-1))) ((nI i) / 5) = Z_4 at hw
          refine lv_iinc (v := nI (i + 1)) (lv' := [(1, .int (nI (i + 1))), (0, .ref (A 0))]) hx hb dX0_ageSightings_56 hl (k := 1) rfl (nI_add i 1) (by decide) rfl (fun ls hl => ?_)
          refine lv_goto (tgt := 2) hx hb dX0_ageSightings_59 (by decide) ?_
          exact ih_2 (i + 1) _ _ _ (by omega) (hw.to (by subst hg_5; first | assumption | (simp only [l_age, f_age1, cp_ag, if_neg c_2, if_neg c_3, if_true, if_false, Bool.false_eq_true, Bool.true_eq_false, reduceIte, reduceCtorEq]; done) | (simp only [l_age, f_age1, cp_ag, if_neg c_2, if_neg c_3, if_true, if_false, Bool.false_eq_true, Bool.true_eq_false, reduceIte, reduceCtorEq]; rfl) | rfl | (simp [l_age, f_age1, cp_ag, if_neg c_2, if_neg c_3, if_true, if_false, Bool.false_eq_true, Bool.true_eq_false, reduceIte, reduceCtorEq]; done) | (simp [bI, l_age, f_age1, cp_ag, c_2, c_3]; done))) (lv_sub hl [1, 0] rfl)
  exact L_2 (20 - 0) 0 _ _ _ (by omega) hw (lv_sub hl [1, 0] rfl)
abbrev rm_X0_unringBells : Room := { frames := 3, cells := 0, slots := 0, locals := 67 }
set_option maxHeartbeats 4000000 in
set_option maxRecDepth 100000 in
theorem c_X0_unringBells (l : Launch) (E : Ev) (A : Nat → Nat) (o1 : Nat) (S : CS) : MV l E yX0_unringBells wsX0_unringBells rm_X0_unringBells [.ref (A 0)] (wC E A o1 S) (wC E A o1 (l_unr S 5)) := by
  refine k_bV (cc := cX0_unringBells) (maxL := 2) (ret := none) (by decide) rfl (Nat.le_of_ble_eq_true rfl) ?_
  intro p9 e s9 m args below meth c A9 ls hC hl hw
  obtain ⟨hx, hb, hml, hr, hown, hts, hlocks, hK, hG, hA⟩ := hC
  have hf18 := hts (.fieldLink RX0 18 "SailorCandles$Chapel" "rung" "[Z") (List.mem_of_getElem? (i := 1) rfl)
  have hinX0 : ∀ w ∈ wsX00, w ∈ wsX0_unringBells := fun w h => List.mem_cons_of_mem _ (List.mem_append_right _ h)
  have hq2 := hts (.initialized RX2) (List.mem_of_getElem? (i := 4) rfl)
  have hq3 := hts (.static yX2_is) (List.mem_of_getElem? (i := 3) rfl)
  have hq4 := hts (.static yX2_mark) (List.mem_of_getElem? (i := 22) rfl)
  have hf50 := hts (.fieldLink RX0 50 "SailorCandles$Chapel" "unringings" "I") (List.mem_of_getElem? (i := 2) rfl)
  have hl : lv_has ls 2 [(0, .ref (A 0))] := hl
  refine lv_iconst (v := 0) hx hb dX0_unringBells_0 (by decide) ?_
  refine lv_istore_n (lv' := [(1, .int 0), (0, .ref (A 0))]) hx hb dX0_unringBells_1 rfl hl (by decide) rfl (fun ls hl => ?_)
  have L_2 : ∀ (k9 i : Nat) (H : Heap) (locs : List Loc) (ls : Array Slot), i + k9 = 5 → Wd E A9 s9.heap (wC E A o1 (l_unr S i)) H locs → lv_has ls 2 [(0, .ref (A 0)), (1, .int (nI i))] → W p9 l e rm_X0_unringBells s9 m args below meth c H locs 0 0 (EndV E A9 (wC E A o1 (l_unr S 5)) below args s9 (rm_X0_unringBells).cells (rm_X0_unringBells).slots) (F0 m 2 ls []) := by
    intro k9
    induction k9 with
    | zero =>
      intro i H locs ls hi hw hl
      have hz_1 : 5 = i := by omega
      refine lv_iload_n hx hb dX0_unringBells_2 rfl (lv_at hl 1 rfl) ?_
      refine lv_iconst (v := 5) hx hb dX0_unringBells_3 (by decide) ?_
      refine lv_icmp_ge (tgt := 53) hx hb dX0_unringBells_4 (by decide) (fun _ => ?_) (fun q8 => absurd (by rw [← hz_1]; exact Int32.le_refl _) q8)
      exact k_vret hx hb hr hlocks hK hw dX0_unringBells_53 (by subst hz_1; first | rfl | assumption | (simp only [l_unr, if_true, if_false, Bool.false_eq_true, Bool.true_eq_false, reduceIte, reduceCtorEq]; done) | (simp only [l_unr, if_true, if_false, Bool.false_eq_true, Bool.true_eq_false, reduceIte, reduceCtorEq]; rfl) | (simp [l_unr, if_true, if_false, Bool.false_eq_true, Bool.true_eq_false, reduceIte, reduceCtorEq]; done) | (simp [bI, l_unr]; done))
    | succ k9 ih_2 =>
      intro i H locs ls hi hw hl
      have hi9 : i < 5 := by omega
      refine lv_iload_n hx hb dX0_unringBells_2 rfl (lv_at hl 1 rfl) ?_
      refine lv_iconst (v := 5) hx hb dX0_unringBells_3 (by decide) ?_
      refine lv_icmp_ge (tgt := 53) hx hb dX0_unringBells_4 (by decide) (fun q8 => absurd q8 (nI_ge (a := i) (b := 5) (by omega) (by omega))) (fun _ => ?_)
      refine lv_aload_n hx hb dX0_unringBells_7 rfl (lv_at hl 0 rfl) ?_
      refine k_get (ci := 0) (v := .ref (A 3)) (C := RX0) (T := TX0) (N := 10) hx hb hown hK hw hts hinX0 0 rfl rfl 3 (by decide) hf18 rfl dX0_unringBells_8 ?_
      refine lv_iload_n hx hb dX0_unringBells_11 rfl (lv_at hl 1 rfl) ?_
      refine kr_i (ws' := wC E A o1 (l_unr S i)) (va_runSN (As := [.ref (A 3), .int (nI i)]) (rest := []) ⟨hx, hb, hml, hown, hts⟩ (c_X2_is l E (A 3) 5 (c_ru (l_unr S i)) (nI i) (by decide) _) ⟨va_cnB 2 hts ggX0_unringBells_X2_is rfl rfl rfl (hG.nw 18 (w := .methodLinkNest RX0 123 yX2_is "SailorCandles") rfl) hq2 hd_X2_is ⟨Nat.le_of_ble_eq_true rfl, Nat.le_of_ble_eq_true rfl⟩, hq3, trivial⟩ (rpS (AV := [.ref (A 3), .int (nI i)]) hw hK hG rp_44) rfl rfl hl.1 rfl (lv_room (Nat.le_of_ble_eq_true rfl)) dX0_unringBells_12 ⟨Nat.le_of_ble_eq_true rfl, Nat.le_of_ble_eq_true rfl⟩) hw hA rp_44 (fun H locs hw => ?_)
      refine lv_if_eq (tgt := 47) hx hb dX0_unringBells_15 (by decide) (fun c_2 => ?_) (fun c_2 => ?_)
      · have c_2 := bI_z c_2
        refine lv_iinc (v := nI (i + 1)) (lv' := [(1, .int (nI (i + 1))), (0, .ref (A 0))]) hx hb dX0_unringBells_47 hl (k := 1) rfl (nI_add i 1) (by decide) rfl (fun ls hl => ?_)
        refine lv_goto (tgt := 2) hx hb dX0_unringBells_50 (by decide) ?_
        exact ih_2 (i + 1) _ _ _ (by omega) (hw.to (by first | assumption | (simp only [l_unr, c_2, if_true, if_false, Bool.false_eq_true, Bool.true_eq_false, reduceIte, reduceCtorEq]; done) | (simp only [l_unr, c_2, if_true, if_false, Bool.false_eq_true, Bool.true_eq_false, reduceIte, reduceCtorEq]; rfl) | rfl | (simp [l_unr, c_2, if_true, if_false, Bool.false_eq_true, Bool.true_eq_false, reduceIte, reduceCtorEq]; done) | (simp [bI, l_unr, c_2]; done))) (lv_sub hl [1, 0] rfl)
      · have c_2 := bI_nz c_2
        refine lv_aload_n hx hb dX0_unringBells_18 rfl (lv_at hl 0 rfl) ?_
        refine lv_iload_n hx hb dX0_unringBells_19 rfl (lv_at hl 1 rfl) ?_
        refine kr_i (ws' := wC E A o1 (l_unr S i)) (va_runV (As := [.int (nI i)]) (rest := []) ⟨hx, hb, hml, hown, hts⟩ (c_X0_trustSum l E A o1 (l_unr S i) (nI i)  _) (cwV 1 hts gX0_unringBells_X0_trustSum rfl rfl rfl ⟨rfl, hd_X0_trustSum⟩ ⟨Nat.le_of_ble_eq_true rfl, Nat.le_of_ble_eq_true rfl⟩) (pwV (ci := 0) (q0 := 0) (C := RX0) hw hK rfl rfl rfl (rpS (AV := [.ref (A 0), .int (nI i)]) hw hK hG rp_39)) rfl rfl hl.1 rfl (lv_room (Nat.le_of_ble_eq_true rfl)) dX0_unringBells_20 ⟨Nat.le_of_ble_eq_true rfl, Nat.le_of_ble_eq_true rfl⟩) hw hA rp_39 (fun H locs hw => ?_)
        refine lv_bipush (v := 6) hx hb dX0_unringBells_23 (by decide) ?_
        refine lv_icmp_ge (tgt := 47) hx hb dX0_unringBells_25 (by decide) (fun c_3 => ?_) (fun c_3 => ?_)
        · refine lv_iinc (v := nI (i + 1)) (lv' := [(1, .int (nI (i + 1))), (0, .ref (A 0))]) hx hb dX0_unringBells_47 hl (k := 1) rfl (nI_add i 1) (by decide) rfl (fun ls hl => ?_)
          refine lv_goto (tgt := 2) hx hb dX0_unringBells_50 (by decide) ?_
          exact ih_2 (i + 1) _ _ _ (by omega) (hw.to (by first | assumption | (simp only [l_unr, c_2, if_pos c_3, if_true, if_false, Bool.false_eq_true, Bool.true_eq_false, reduceIte, reduceCtorEq]; done) | (simp only [l_unr, c_2, if_pos c_3, if_true, if_false, Bool.false_eq_true, Bool.true_eq_false, reduceIte, reduceCtorEq]; rfl) | rfl | (simp [l_unr, c_2, if_pos c_3, if_true, if_false, Bool.false_eq_true, Bool.true_eq_false, reduceIte, reduceCtorEq]; done) | (simp [bI, l_unr, c_2, c_3]; done))) (lv_sub hl [1, 0] rfl)
        · refine lv_aload_n hx hb dX0_unringBells_28 rfl (lv_at hl 0 rfl) ?_
          refine k_get (ci := 0) (v := .ref (A 3)) (C := RX0) (T := TX0) (N := 10) hx hb hown hK hw hts hinX0 0 rfl rfl 3 (by decide) hf18 rfl dX0_unringBells_29 ?_
          refine lv_iload_n hx hb dX0_unringBells_32 rfl (lv_at hl 1 rfl) ?_
          refine lv_iconst (v := 0) hx hb dX0_unringBells_33 (by decide) ?_
          refine kr_v (ws' := wC E A o1 (p_ru (l_unr S i) (f_mark 5 (c_ru (l_unr S i)) (nI i) false))) (va_runSN (As := [.ref (A 3), .int (nI i), .int 0]) (rest := []) ⟨hx, hb, hml, hown, hts⟩ (c_X2_mark l E (A 3) 5 (c_ru (l_unr S i)) (nI i) false (by decide) _) ⟨va_cnB 3 hts ggX0_unringBells_X2_mark rfl rfl rfl (hG.nw 17 (w := .methodLinkNest RX0 71 yX2_mark "SailorCandles") rfl) hq2 hd_X2_mark ⟨Nat.le_of_ble_eq_true rfl, Nat.le_of_ble_eq_true rfl⟩, hq4, trivial⟩ (rpS (AV := [.ref (A 3), .int (nI i), .int 0]) hw hK hG rp_44) rfl rfl hl.1 rfl (lv_room (Nat.le_of_ble_eq_true rfl)) dX0_unringBells_34 ⟨Nat.le_of_ble_eq_true rfl, Nat.le_of_ble_eq_true rfl⟩) hw hA rp_43 (fun H locs hw => ?_)
          refine lv_aload_n hx hb dX0_unringBells_37 rfl (lv_at hl 0 rfl) ?_
          refine lv_dup hx hb dX0_unringBells_38 rfl ?_
          refine k_get (ci := 0) (v := .int (c_un (l_unr S i))) (C := RX0) (T := TX0) (N := 10) hx hb hown hK hw hts hinX0 0 rfl rfl 9 (by decide) hf50 rfl dX0_unringBells_39 ?_
          refine lv_iconst (v := 1) hx hb dX0_unringBells_42 (by decide) ?_
          refine lv_iadd hx hb dX0_unringBells_43 ?_
          refine k_put (ci := 0) (C := RX0) (T := TX0) (N := 10) (ws' := wC E A o1 (p_un (p_ru (l_unr S i) (f_mark 5 (c_ru (l_unr S i)) (nI i) false)) ((c_un (l_unr S i)) + 1))) hx hb hown hK hw hts hinX0 tyX0 tyX0_ok nmX0 0 rfl rfl 9 (by decide) hf50 rfl rfl (Nat.le_of_ble_eq_true rfl) dX0_unringBells_44 rfl (fun H locs hw => ?_)
          refine lv_iinc (v := nI (i + 1)) (lv' := [(1, .int (nI (i + 1))), (0, .ref (A 0))]) hx hb dX0_unringBells_47 hl (k := 1) rfl (nI_add i 1) (by decide) rfl (fun ls hl => ?_)
          refine lv_goto (tgt := 2) hx hb dX0_unringBells_50 (by decide) ?_
          exact ih_2 (i + 1) _ _ _ (by omega) (hw.to (by first | assumption | (simp only [l_unr, c_2, if_neg c_3, if_true, if_false, Bool.false_eq_true, Bool.true_eq_false, reduceIte, reduceCtorEq]; done) | (simp only [l_unr, c_2, if_neg c_3, if_true, if_false, Bool.false_eq_true, Bool.true_eq_false, reduceIte, reduceCtorEq]; rfl) | rfl | (simp [l_unr, c_2, if_neg c_3, if_true, if_false, Bool.false_eq_true, Bool.true_eq_false, reduceIte, reduceCtorEq]; done) | (simp [bI, l_unr, c_2, c_3]; done))) (lv_sub hl [1, 0] rfl)
  exact L_2 (5 - 0) 0 _ _ _ (by omega) hw (lv_sub hl [1, 0] rfl)
abbrev rm_X0_burnCandle : Room := { frames := 1, cells := 0, slots := 0, locals := 22 }
set_option maxHeartbeats 4000000 in
set_option maxRecDepth 100000 in
theorem c_X0_burnCandle (l : Launch) (E : Ev) (A B : Nat → Nat) (S : CS) (G : HS) (p : Int32) : MV l E yX0_burnCandle wsX0_burnCandle rm_X0_burnCandle [.ref (A 0), .int p] (wC E A (B 0) S ++ wG E B G) (wC E A (B 0) (f_burn1 G S p) ++ wG E B G) := by
  refine k_bV (cc := cX0_burnCandle) (maxL := 3) (ret := none) (by decide) rfl (Nat.le_of_ble_eq_true rfl) ?_
  intro p9 e s9 m args below meth c A9 ls hC hl hw
  obtain ⟨hx, hb, hml, hr, hown, hts, hlocks, hK, hG, hA⟩ := hC
  have hf31 := hts (.fieldLink RX0 31 "SailorCandles$Chapel" "harbour" "LSailorCandles$Harbour;") (List.mem_of_getElem? (i := 1) rfl)
  have hinX0 : ∀ w ∈ wsX00, w ∈ wsX0_burnCandle := fun w h => List.mem_cons_of_mem _ (List.mem_append_left _ (List.mem_append_right _ h))
  have hf130 := hG.nw 4 (w := .fieldLinkNest RX0 130 "SailorCandles$Harbour" "mast" "[I" "SailorCandles") rfl
  have hinX1 : ∀ w ∈ wsX10, w ∈ wsX0_burnCandle := fun w h => List.mem_cons_of_mem _ (List.mem_append_right _ h)
  have hq4 := hts (.initialized RX2) (List.mem_of_getElem? (i := 8) rfl)
  have hq5 := hts (.static yX2_at) (List.mem_of_getElem? (i := 7) rfl)
  have hf22 := hts (.fieldLink RX0 22 "SailorCandles$Chapel" "candle" "[I") (List.mem_of_getElem? (i := 2) rfl)
  have hq7 := hts (.methodLink RX0 120 Lib.Math.max.name) (List.mem_of_getElem? (i := 3) rfl)
  have hq8 := hts (.static Lib.Math.max.name) (List.mem_of_getElem? (i := 4) rfl)
  have hq9 := hts (.initialized "java/lang/Math") (List.mem_of_getElem? (i := 5) rfl)
  have hq10 := hts (.code Lib.Math.max.name Lib.Math.max.code 2 (some .int)) (List.mem_of_getElem? (i := 6) rfl)
  have hq11 := hts (.static yX2_put) (List.mem_of_getElem? (i := 10) rfl)
  have hl : lv_has ls 3 [(0, .ref (A 0)), (1, .int p)] := hl
  refine lv_iconst (v := 1) hx hb dX0_burnCandle_0 (by decide) ?_
  refine lv_aload_n hx hb dX0_burnCandle_1 rfl (lv_at hl 0 rfl) ?_
  refine k_get (ci := 0) (v := .ref (B 0)) (C := RX0) (T := TX0) (N := 10) hx hb hown hK hw hts hinX0 0 rfl rfl 0 (by decide) hf31 rfl dX0_burnCandle_2 ?_
  refine k_getN (ci := 1) (v := .ref (B 3)) (C := RX1) (T := TX1) (N := 8) hx hb hown hK hw hts hinX1 7 rfl rfl 5 (by decide) hf130 rfl dX0_burnCandle_5 ?_
  refine lv_iload_n hx hb dX0_burnCandle_8 rfl (lv_at hl 1 rfl) ?_
  refine kr_i (ws' := wC E A (B 0) S ++ wG E B G) (va_runSN (As := [.ref (B 3), .int p]) (rest := [.int 1]) ⟨hx, hb, hml, hown, hts⟩ (c_X2_at l E (B 3) 16 (g_mt G) p (by decide) _) ⟨va_cnB 2 hts ggX0_burnCandle_X2_at rfl rfl rfl (hG.nw 15 (w := .methodLinkNest RX0 53 yX2_at "SailorCandles") rfl) hq4 hd_X2_at ⟨Nat.le_of_ble_eq_true rfl, Nat.le_of_ble_eq_true rfl⟩, hq5, trivial⟩ (rpS (AV := [.ref (B 3), .int p]) hw hK hG rp_48) rfl rfl hl.1 rfl (lv_room (Nat.le_of_ble_eq_true rfl)) dX0_burnCandle_9 ⟨Nat.le_of_ble_eq_true rfl, Nat.le_of_ble_eq_true rfl⟩) hw hA rp_48 (fun H locs hw => ?_)
  refine lv_iadd hx hb dX0_burnCandle_12 ?_
  refine lv_istore_n (lv' := [(2, .int (1 + (f_at 16 (g_mt G) p))), (0, .ref (A 0)), (1, .int p)]) hx hb dX0_burnCandle_13 rfl hl (by decide) rfl (fun ls hl => ?_)
  refine lv_aload_n hx hb dX0_burnCandle_14 rfl (lv_at hl 1 rfl) ?_
  refine k_get (ci := 0) (v := .ref (A 4)) (C := RX0) (T := TX0) (N := 10) hx hb hown hK hw hts hinX0 0 rfl rfl 4 (by decide) hf22 rfl dX0_burnCandle_15 ?_
  refine lv_iload_n hx hb dX0_burnCandle_18 rfl (lv_at hl 2 rfl) ?_
  refine lv_iconst (v := 0) hx hb dX0_burnCandle_19 (by decide) ?_
  refine lv_aload_n hx hb dX0_burnCandle_20 rfl (lv_at hl 1 rfl) ?_
  refine k_get (ci := 0) (v := .ref (A 4)) (C := RX0) (T := TX0) (N := 10) hx hb hown hK hw hts hinX0 0 rfl rfl 4 (by decide) hf22 rfl dX0_burnCandle_21 ?_
  refine lv_iload_n hx hb dX0_burnCandle_24 rfl (lv_at hl 2 rfl) ?_
  refine kr_i (ws' := wC E A (B 0) S ++ wG E B G) (va_runSN (As := [.ref (A 4), .int p]) (rest := [.int 0, .int p, .ref (A 4)]) ⟨hx, hb, hml, hown, hts⟩ (c_X2_at l E (A 4) 16 (c_ca S) p (by decide) _) ⟨va_cnB 2 hts ggX0_burnCandle_X2_at rfl rfl rfl (hG.nw 15 (w := .methodLinkNest RX0 53 yX2_at "SailorCandles") rfl) hq4 hd_X2_at ⟨Nat.le_of_ble_eq_true rfl, Nat.le_of_ble_eq_true rfl⟩, hq5, trivial⟩ (rpS (AV := [.ref (A 4), .int p]) hw hK hG rp_33) rfl rfl hl.1 rfl (lv_room (Nat.le_of_ble_eq_true rfl)) dX0_burnCandle_25 ⟨Nat.le_of_ble_eq_true rfl, Nat.le_of_ble_eq_true rfl⟩) hw hA rp_33 (fun H locs hw => ?_)
  refine lv_iload_n hx hb dX0_burnCandle_28 rfl (lv_at hl 0 rfl) ?_
  refine lv_isub hx hb dX0_burnCandle_29 ?_
  refine va_mmax hx hb (by rw [hml]; exact hl.1.symm) hown hq7 hq8 hq9 hq10 (Nat.le_of_ble_eq_true rfl) (Nat.le_of_ble_eq_true rfl) (Nat.le_of_ble_eq_true rfl) (Nat.le_of_ble_eq_true rfl) dX0_burnCandle_30 ?_
  refine kr_v (ws' := wC E A (B 0) (p_ca S (f_put 16 (c_ca S) p (if 0 < ((f_at 16 (c_ca S) p) - (1 + (f_at 16 (g_mt G) p))) then (f_at 16 (c_ca S) p) - (1 + (f_at 16 (g_mt G) p)) else 0))) ++ wG E B G) (va_runSN (As := [.ref (A 4), .int p, .int (if 0 < ((f_at 16 (c_ca S) p) - (1 + (f_at 16 (g_mt G) p))) then (f_at 16 (c_ca S) p) - (1 + (f_at 16 (g_mt G) p)) else 0)]) (rest := []) ⟨hx, hb, hml, hown, hts⟩ (c_X2_put l E (A 4) 16 (c_ca S) p (if 0 < ((f_at 16 (c_ca S) p) - (1 + (f_at 16 (g_mt G) p))) then (f_at 16 (c_ca S) p) - (1 + (f_at 16 (g_mt G) p)) else 0) (by decide) _) ⟨va_cnB 3 hts ggX0_burnCandle_X2_put rfl rfl rfl (hG.nw 16 (w := .methodLinkNest RX0 57 yX2_put "SailorCandles") rfl) hq4 hd_X2_put ⟨Nat.le_of_ble_eq_true rfl, Nat.le_of_ble_eq_true rfl⟩, hq11, trivial⟩ (rpS (AV := [.ref (A 4), .int p, .int (if 0 < ((f_at 16 (c_ca S) p) - (1 + (f_at 16 (g_mt G) p))) then (f_at 16 (c_ca S) p) - (1 + (f_at 16 (g_mt G) p)) else 0)]) hw hK hG rp_33) rfl rfl hl.1 rfl (lv_room (Nat.le_of_ble_eq_true rfl)) dX0_burnCandle_33 ⟨Nat.le_of_ble_eq_true rfl, Nat.le_of_ble_eq_true rfl⟩) hw hA rp_34 (fun H locs hw => ?_)
  exact k_vret hx hb hr hlocks hK hw dX0_burnCandle_36 rfl
abbrev rm_X0_burnCandles : Room := { frames := 2, cells := 0, slots := 0, locals := 44 }
set_option maxHeartbeats 4000000 in
set_option maxRecDepth 100000 in
theorem c_X0_burnCandles (l : Launch) (E : Ev) (A B : Nat → Nat) (S : CS) (G : HS) : MI l E yX0_burnCandles wsX0_burnCandles rm_X0_burnCandles [.ref (A 0)] (wC E A (B 0) S ++ wG E B G) (l_burnN G S 16) (wC E A (B 0) (l_burnS G S 16) ++ wG E B G) := by
  refine k_bI (cc := cX0_burnCandles) (maxL := 4) (ret := (some .int)) (by decide) rfl (Nat.le_of_ble_eq_true rfl) ?_
  intro p9 e s9 m args below meth c A9 ls hC hl hw
  obtain ⟨hx, hb, hml, hr, hown, hts, hlocks, hK, hG, hA⟩ := hC
  have hf31 := hts (.fieldLink RX0 31 "SailorCandles$Chapel" "harbour" "LSailorCandles$Harbour;") (List.mem_of_getElem? (i := 1) rfl)
  have hinX0 : ∀ w ∈ wsX00, w ∈ wsX0_burnCandles := fun w h => List.mem_cons_of_mem _ (List.mem_append_left _ (List.mem_append_right _ h))
  have hf18 := hts (.fieldLink RX0 18 "SailorCandles$Chapel" "rung" "[Z") (List.mem_of_getElem? (i := 2) rfl)
  have hq3 := hts (.initialized RX2) (List.mem_of_getElem? (i := 17) rfl)
  have hq4 := hts (.static yX2_is) (List.mem_of_getElem? (i := 19) rfl)
  have hf22 := hts (.fieldLink RX0 22 "SailorCandles$Chapel" "candle" "[I") (List.mem_of_getElem? (i := 3) rfl)
  have hq6 := hts (.static yX2_at) (List.mem_of_getElem? (i := 16) rfl)
  have hl : lv_has ls 4 [(0, .ref (A 0))] := hl
  refine lv_iconst (v := 0) hx hb dX0_burnCandles_0 (by decide) ?_
  refine lv_istore_n (lv' := [(1, .int 0), (0, .ref (A 0))]) hx hb dX0_burnCandles_1 rfl hl (by decide) rfl (fun ls hl => ?_)
  refine lv_iconst (v := 0) hx hb dX0_burnCandles_2 (by decide) ?_
  refine lv_istore_n (lv' := [(2, .int 0), (1, .int 0), (0, .ref (A 0))]) hx hb dX0_burnCandles_3 rfl hl (by decide) rfl (fun ls hl => ?_)
  have L_4 : ∀ (k9 i : Nat) (H : Heap) (locs : List Loc) (ls : Array Slot), i + k9 = 16 → Wd E A9 s9.heap (wC E A (B 0) (l_burnS G S i) ++ wG E B G) H locs → lv_has ls 4 [(0, .ref (A 0)), (1, .int (l_burnN G S i)), (2, .int (nI i))] → W p9 l e rm_X0_burnCandles s9 m args below meth c H locs 0 0 (EndI E A9 (l_burnN G S 16) (wC E A (B 0) (l_burnS G S 16) ++ wG E B G) below args s9 (rm_X0_burnCandles).cells (rm_X0_burnCandles).slots) (F0 m 4 ls []) := by
    intro k9
    induction k9 with
    | zero =>
      intro i H locs ls hi hw hl
      have hz_1 : 16 = i := by omega
      refine lv_iload_n hx hb dX0_burnCandles_4 rfl (lv_at hl 2 rfl) ?_
      refine lv_bipush (v := 16) hx hb dX0_burnCandles_5 (by decide) ?_
      refine lv_icmp_ge (tgt := 72) hx hb dX0_burnCandles_7 (by decide) (fun _ => ?_) (fun q8 => absurd (by rw [← hz_1]; exact Int32.le_refl _) q8)
      refine lv_iload_n hx hb dX0_burnCandles_72 rfl (lv_at hl 1 rfl) ?_
      exact k_iret hx hb hr hlocks hK hw rfl dX0_burnCandles_73 (by subst hz_1; first | rfl | assumption | (simp only [l_burnN, l_burnS, if_true, if_false, Bool.false_eq_true, Bool.true_eq_false, reduceIte, reduceCtorEq]; done) | (simp only [l_burnN, l_burnS, if_true, if_false, Bool.false_eq_true, Bool.true_eq_false, reduceIte, reduceCtorEq]; rfl) | (simp [l_burnN, l_burnS, if_true, if_false, Bool.false_eq_true, Bool.true_eq_false, reduceIte, reduceCtorEq]; done) | (simp [bI, l_burnN, l_burnS]; done)) (by subst hz_1; first | rfl | assumption | (simp only [l_burnN, l_burnS, if_true, if_false, Bool.false_eq_true, Bool.true_eq_false, reduceIte, reduceCtorEq]; done) | (simp only [l_burnN, l_burnS, if_true, if_false, Bool.false_eq_true, Bool.true_eq_false, reduceIte, reduceCtorEq]; rfl) | (simp [l_burnN, l_burnS, if_true, if_false, Bool.false_eq_true, Bool.true_eq_false, reduceIte, reduceCtorEq]; done) | (simp [bI, l_burnN, l_burnS]; done))
    | succ k9 ih_4 =>
      intro i H locs ls hi hw hl
      have hi9 : i < 16 := by omega
      refine lv_iload_n hx hb dX0_burnCandles_4 rfl (lv_at hl 2 rfl) ?_
      refine lv_bipush (v := 16) hx hb dX0_burnCandles_5 (by decide) ?_
      refine lv_icmp_ge (tgt := 72) hx hb dX0_burnCandles_7 (by decide) (fun q8 => absurd q8 (nI_ge (a := i) (b := 16) (by omega) (by omega))) (fun _ => ?_)
      refine lv_aload_n hx hb dX0_burnCandles_10 rfl (lv_at hl 0 rfl) ?_
      refine k_get (ci := 0) (v := .ref (B 0)) (C := RX0) (T := TX0) (N := 10) hx hb hown hK hw hts hinX0 0 rfl rfl 0 (by decide) hf31 rfl dX0_burnCandles_11 ?_
      refine lv_iload_n hx hb dX0_burnCandles_14 rfl (lv_at hl 2 rfl) ?_
      refine kr_i (ws' := wC E A (B 0) (l_burnS G S i) ++ wG E B G) (va_runV (As := [.int (nI i)]) (rest := []) ⟨hx, hb, hml, hown, hts⟩ (c_X1_shipWith l E B G (nI i)  _) (cwV 1 hts gX0_burnCandles_X1_shipWith rfl rfl rfl ⟨rfl, hd_X1_shipWith⟩ ⟨Nat.le_of_ble_eq_true rfl, Nat.le_of_ble_eq_true rfl⟩) (pwV (ci := 1) (q0 := 7) (C := RX1) hw hK rfl rfl rfl (rpS (AV := [.ref (B 0), .int (nI i)]) hw hK hG rp_28)) rfl rfl hl.1 rfl (lv_room (Nat.le_of_ble_eq_true rfl)) dX0_burnCandles_15 ⟨Nat.le_of_ble_eq_true rfl, Nat.le_of_ble_eq_true rfl⟩) hw hA rp_28 (fun H locs hw => ?_)
      refine lv_istore_n (lv' := [(3, .int (f_ship G (nI i))), (0, .ref (A 0)), (1, .int (l_burnN G S i)), (2, .int (nI i))]) hx hb dX0_burnCandles_18 rfl hl (by decide) rfl (fun ls hl => ?_)
      refine lv_aload_n hx hb dX0_burnCandles_19 rfl (lv_at hl 1 rfl) ?_
      refine lv_iload_n hx hb dX0_burnCandles_20 rfl (lv_at hl 0 rfl) ?_
      refine kr_i (ws' := wC E A (B 0) (l_burnS G S i) ++ wG E B G) (va_runV (As := [.int (f_ship G (nI i))]) (rest := []) ⟨hx, hb, hml, hown, hts⟩ (c_X0_stayOf l E A (B 0) (l_burnS G S i) (f_ship G (nI i))  _) (cwV 1 hts gX0_burnCandles_X0_stayOf rfl rfl rfl ⟨rfl, hd_X0_stayOf⟩ ⟨Nat.le_of_ble_eq_true rfl, Nat.le_of_ble_eq_true rfl⟩) (pwV (ci := 0) (q0 := 0) (C := RX0) hw hK rfl rfl rfl (rpS (AV := [.ref (A 0), .int (f_ship G (nI i))]) hw hK hG rp_30)) rfl rfl hl.1 rfl (lv_room (Nat.le_of_ble_eq_true rfl)) dX0_burnCandles_21 ⟨Nat.le_of_ble_eq_true rfl, Nat.le_of_ble_eq_true rfl⟩) hw hA rp_30 (fun H locs hw => ?_)
      refine lv_iconst (v := 1) hx hb dX0_burnCandles_24 (by decide) ?_
      refine lv_icmp_ne (tgt := 66) hx hb dX0_burnCandles_25 (by decide) (fun c_2 => ?_) (fun c_2 => ?_)
      · refine lv_iinc (v := nI (i + 1)) (lv' := [(2, .int (nI (i + 1))), (3, .int (f_ship G (nI i))), (0, .ref (A 0)), (1, .int (l_burnN G S i))]) hx hb dX0_burnCandles_66 hl (k := 3) rfl (nI_add i 1) (by decide) rfl (fun ls hl => ?_)
        refine lv_goto (tgt := 4) hx hb dX0_burnCandles_69 (by decide) ?_
        exact ih_4 (i + 1) _ _ _ (by omega) (hw.to (by first | assumption | (simp only [l_burnN, l_burnS, if_neg c_2, if_true, if_false, Bool.false_eq_true, Bool.true_eq_false, reduceIte, reduceCtorEq]; done) | (simp only [l_burnN, l_burnS, if_neg c_2, if_true, if_false, Bool.false_eq_true, Bool.true_eq_false, reduceIte, reduceCtorEq]; rfl) | rfl | (simp [l_burnN, l_burnS, if_neg c_2, if_true, if_false, Bool.false_eq_true, Bool.true_eq_false, reduceIte, reduceCtorEq]; done) | (simp [bI, l_burnN, l_burnS, c_2]; done))) (by rw [show (.int (l_burnN G S (i + 1)) : Value) = .int (l_burnN G S i) from (by first | assumption | (simp only [l_burnN, l_burnS, if_neg c_2, if_true, if_false, Bool.false_eq_true, Bool.true_eq_false, reduceIte, reduceCtorEq]; done) | (simp only [l_burnN, l_burnS, if_neg c_2, if_true, if_false, Bool.false_eq_true, Bool.true_eq_false, reduceIte, reduceCtorEq]; rfl) | rfl | (simp [l_burnN, l_burnS, if_neg c_2, if_true, if_false, Bool.false_eq_true, Bool.true_eq_false, reduceIte, reduceCtorEq]; done) | (simp [bI, l_burnN, l_burnS, c_2]; done))]; exact lv_sub hl [2, 3, 0] rfl)
      · refine lv_aload_n hx hb dX0_burnCandles_28 rfl (lv_at hl 1 rfl) ?_
        refine k_get (ci := 0) (v := .ref (A 3)) (C := RX0) (T := TX0) (N := 10) hx hb hown hK hw hts hinX0 0 rfl rfl 3 (by decide) hf18 rfl dX0_burnCandles_29 ?_
        refine lv_iload_n hx hb dX0_burnCandles_32 rfl (lv_at hl 0 rfl) ?_
        refine kr_i (ws' := wC E A (B 0) (l_burnS G S i) ++ wG E B G) (va_runSN (As := [.ref (A 3), .int (f_ship G (nI i))]) (rest := []) ⟨hx, hb, hml, hown, hts⟩ (c_X2_is l E (A 3) 5 (c_ru (l_burnS G S i)) (f_ship G (nI i)) (by decide) _) ⟨va_cnB 2 hts ggX0_burnCandles_X2_is rfl rfl rfl (hG.nw 18 (w := .methodLinkNest RX0 123 yX2_is "SailorCandles") rfl) hq3 hd_X2_is ⟨Nat.le_of_ble_eq_true rfl, Nat.le_of_ble_eq_true rfl⟩, hq4, trivial⟩ (rpS (AV := [.ref (A 3), .int (f_ship G (nI i))]) hw hK hG rp_32) rfl rfl hl.1 rfl (lv_room (Nat.le_of_ble_eq_true rfl)) dX0_burnCandles_33 ⟨Nat.le_of_ble_eq_true rfl, Nat.le_of_ble_eq_true rfl⟩) hw hA rp_32 (fun H locs hw => ?_)
        refine lv_if_ne (tgt := 66) hx hb dX0_burnCandles_36 (by decide) (fun c_3 => ?_) (fun c_3 => ?_)
        · have c_3 := bI_nz c_3
          refine lv_iinc (v := nI (i + 1)) (lv' := [(2, .int (nI (i + 1))), (3, .int (f_ship G (nI i))), (0, .ref (A 0)), (1, .int (l_burnN G S i))]) hx hb dX0_burnCandles_66 hl (k := 3) rfl (nI_add i 1) (by decide) rfl (fun ls hl => ?_)
          refine lv_goto (tgt := 4) hx hb dX0_burnCandles_69 (by decide) ?_
          exact ih_4 (i + 1) _ _ _ (by omega) (hw.to (by first | assumption | (simp only [l_burnN, l_burnS, if_pos c_2, c_3, if_true, if_false, Bool.false_eq_true, Bool.true_eq_false, reduceIte, reduceCtorEq]; done) | (simp only [l_burnN, l_burnS, if_pos c_2, c_3, if_true, if_false, Bool.false_eq_true, Bool.true_eq_false, reduceIte, reduceCtorEq]; rfl) | rfl | (simp [l_burnN, l_burnS, if_pos c_2, c_3, if_true, if_false, Bool.false_eq_true, Bool.true_eq_false, reduceIte, reduceCtorEq]; done) | (simp [bI, l_burnN, l_burnS, c_2, c_3]; done))) (by rw [show (.int (l_burnN G S (i + 1)) : Value) = .int (l_burnN G S i) from (by first | assumption | (simp only [l_burnN, l_burnS, if_pos c_2, c_3, if_true, if_false, Bool.false_eq_true, Bool.true_eq_false, reduceIte, reduceCtorEq]; done) | (simp only [l_burnN, l_burnS, if_pos c_2, c_3, if_true, if_false, Bool.false_eq_true, Bool.true_eq_false, reduceIte, reduceCtorEq]; rfl) | rfl | (simp [l_burnN, l_burnS, if_pos c_2, c_3, if_true, if_false, Bool.false_eq_true, Bool.true_eq_false, reduceIte, reduceCtorEq]; done) | (simp [bI, l_burnN, l_burnS, c_2, c_3]; done))]; exact lv_sub hl [2, 3, 0] rfl)
        · have c_3 := bI_z c_3
          refine lv_aload_n hx hb dX0_burnCandles_39 rfl (lv_at hl 1 rfl) ?_
          refine lv_iload_n hx hb dX0_burnCandles_40 rfl (lv_at hl 3 rfl) ?_
          refine kr_v (ws' := wC E A (B 0) (f_burn1 G (l_burnS G S i) (nI i)) ++ wG E B G) (va_runV (As := [.int (nI i)]) (rest := []) ⟨hx, hb, hml, hown, hts⟩ (c_X0_burnCandle l E A B (l_burnS G S i) G (nI i)  _) (cwV 1 hts gX0_burnCandles_X0_burnCandle rfl rfl rfl ⟨rfl, hd_X0_burnCandle⟩ ⟨Nat.le_of_ble_eq_true rfl, Nat.le_of_ble_eq_true rfl⟩) (pwV (ci := 0) (q0 := 0) (C := RX0) hw hK rfl rfl rfl (rpS (AV := [.ref (A 0), .int (nI i)]) hw hK hG rp_46)) rfl rfl hl.1 rfl (lv_room (Nat.le_of_ble_eq_true rfl)) dX0_burnCandles_41 ⟨Nat.le_of_ble_eq_true rfl, Nat.le_of_ble_eq_true rfl⟩) hw hA rp_49 (fun H locs hw => ?_)
          generalize hg_5 : f_burn1 G (l_burnS G S i) (nI i) = Z_4 at hw
          refine lv_aload_n hx hb dX0_burnCandles_44 rfl (lv_at hl 1 rfl) ?_
          refine k_get (ci := 0) (v := .ref (A 4)) (C := RX0) (T := TX0) (N := 10) hx hb hown hK hw hts hinX0 0 rfl rfl 4 (by decide) hf22 rfl dX0_burnCandles_45 ?_
          refine lv_iload_n hx hb dX0_burnCandles_48 rfl (lv_at hl 3 rfl) ?_
          refine kr_i (ws' := wC E A (B 0) Z_4 ++ wG E B G) (va_runSN (As := [.ref (A 4), .int (nI i)]) (rest := []) ⟨hx, hb, hml, hown, hts⟩ (c_X2_at l E (A 4) 16 (c_ca Z_4) (nI i) (by decide) _) ⟨va_cnB 2 hts ggX0_burnCandles_X2_at rfl rfl rfl (hG.nw 15 (w := .methodLinkNest RX0 53 yX2_at "SailorCandles") rfl) hq3 hd_X2_at ⟨Nat.le_of_ble_eq_true rfl, Nat.le_of_ble_eq_true rfl⟩, hq6, trivial⟩ (rpS (AV := [.ref (A 4), .int (nI i)]) hw hK hG rp_33) rfl rfl hl.1 rfl (lv_room (Nat.le_of_ble_eq_true rfl)) dX0_burnCandles_49 ⟨Nat.le_of_ble_eq_true rfl, Nat.le_of_ble_eq_true rfl⟩) hw hA rp_33 (fun H locs hw => ?_)
          refine lv_if_ne (tgt := 66) hx hb dX0_burnCandles_52 (by decide) (fun c_6 => ?_) (fun c_6 => ?_)
          · refine lv_iinc (v := nI (i + 1)) (lv' := [(2, .int (nI (i + 1))), (3, .int (f_ship G (nI i))), (0, .ref (A 0)), (1, .int (l_burnN G S i))]) hx hb dX0_burnCandles_66 hl (k := 3) rfl (nI_add i 1) (by decide) rfl (fun ls hl => ?_)
            refine lv_goto (tgt := 4) hx hb dX0_burnCandles_69 (by decide) ?_
            exact ih_4 (i + 1) _ _ _ (by omega) (hw.to (by subst hg_5; first | assumption | (simp only [l_burnN, l_burnS, if_pos c_2, c_3, if_neg c_6, if_true, if_false, Bool.false_eq_true, Bool.true_eq_false, reduceIte, reduceCtorEq]; done) | (simp only [l_burnN, l_burnS, if_pos c_2, c_3, if_neg c_6, if_true, if_false, Bool.false_eq_true, Bool.true_eq_false, reduceIte, reduceCtorEq]; rfl) | rfl | (simp [l_burnN, l_burnS, if_pos c_2, c_3, if_neg c_6, if_true, if_false, Bool.false_eq_true, Bool.true_eq_false, reduceIte, reduceCtorEq]; done) | (simp [bI, l_burnN, l_burnS, c_2, c_3, c_6]; done))) (by rw [show (.int (l_burnN G S (i + 1)) : Value) = .int (l_burnN G S i) from (by subst hg_5; first | assumption | (simp only [l_burnN, l_burnS, if_pos c_2, c_3, if_neg c_6, if_true, if_false, Bool.false_eq_true, Bool.true_eq_false, reduceIte, reduceCtorEq]; done) | (simp only [l_burnN, l_burnS, if_pos c_2, c_3, if_neg c_6, if_true, if_false, Bool.false_eq_true, Bool.true_eq_false, reduceIte, reduceCtorEq]; rfl) | rfl | (simp [l_burnN, l_burnS, if_pos c_2, c_3, if_neg c_6, if_true, if_false, Bool.false_eq_true, Bool.true_eq_false, reduceIte, reduceCtorEq]; done) | (simp [bI, l_burnN, l_burnS, c_2, c_3, c_6]; done))]; exact lv_sub hl [2, 3, 0] rfl)
          · refine lv_aload_n hx hb dX0_burnCandles_55 rfl (lv_at hl 1 rfl) ?_
            refine lv_iload_n hx hb dX0_burnCandles_56 rfl (lv_at hl 3 rfl) ?_
            refine kr_i (ws' := wC E A (B 0) (f_light Z_4 (nI i)) ++ wG E B G) (va_runV (As := [.int (nI i)]) (rest := []) ⟨hx, hb, hml, hown, hts⟩ (c_X0_lightCandle l E A (B 0) Z_4 (nI i)  _) (cwV 1 hts gX0_burnCandles_X0_lightCandle rfl rfl rfl ⟨rfl, hd_X0_lightCandle⟩ ⟨Nat.le_of_ble_eq_true rfl, Nat.le_of_ble_eq_true rfl⟩) (pwV (ci := 0) (q0 := 0) (C := RX0) hw hK rfl rfl rfl (rpS (AV := [.ref (A 0), .int (nI i)]) hw hK hG rp_30)) rfl rfl hl.1 rfl (lv_room (Nat.le_of_ble_eq_true rfl)) dX0_burnCandles_57 ⟨Nat.le_of_ble_eq_true rfl, Nat.le_of_ble_eq_true rfl⟩) hw hA rp_29 (fun H locs hw => ?_)
            generalize hg_8 : f_light Z_4 (nI i) = Z_7 at hw
            refine lv_if_eq (tgt := 66) hx hb dX0_burnCandles_60 (by decide) (fun c_9 => ?_) (fun c_9 => ?_)
            · have c_9 := bI_z c_9
              refine lv_iinc (v := nI (i + 1)) (lv' := [(2, .int (nI (i + 1))), (3, .int (f_ship G (nI i))), (0, .ref (A 0)), (1, .int (l_burnN G S i))]) hx hb dX0_burnCandles_66 hl (k := 3) rfl (nI_add i 1) (by decide) rfl (fun ls hl => ?_)
              refine lv_goto (tgt := 4) hx hb dX0_burnCandles_69 (by decide) ?_
              exact ih_4 (i + 1) _ _ _ (by omega) (hw.to (by subst hg_8 hg_5; first | assumption | (simp only [l_burnN, l_burnS, if_pos c_2, c_3, if_pos c_6, c_9, if_true, if_false, Bool.false_eq_true, Bool.true_eq_false, reduceIte, reduceCtorEq]; done) | (simp only [l_burnN, l_burnS, if_pos c_2, c_3, if_pos c_6, c_9, if_true, if_false, Bool.false_eq_true, Bool.true_eq_false, reduceIte, reduceCtorEq]; rfl) | rfl | (simp [l_burnN, l_burnS, if_pos c_2, c_3, if_pos c_6, c_9, if_true, if_false, Bool.false_eq_true, Bool.true_eq_false, reduceIte, reduceCtorEq]; done) | (simp [bI, l_burnN, l_burnS, c_2, c_3, c_6, c_9]; done))) (by rw [show (.int (l_burnN G S (i + 1)) : Value) = .int (l_burnN G S i) from (by subst hg_8 hg_5; first | assumption | (simp only [l_burnN, l_burnS, if_pos c_2, c_3, if_pos c_6, c_9, if_true, if_false, Bool.false_eq_true, Bool.true_eq_false, reduceIte, reduceCtorEq]; done) | (simp only [l_burnN, l_burnS, if_pos c_2, c_3, if_pos c_6, c_9, if_true, if_false, Bool.false_eq_true, Bool.true_eq_false, reduceIte, reduceCtorEq]; rfl) | rfl | (simp [l_burnN, l_burnS, if_pos c_2, c_3, if_pos c_6, c_9, if_true, if_false, Bool.false_eq_true, Bool.true_eq_false, reduceIte, reduceCtorEq]; done) | (simp [bI, l_burnN, l_burnS, c_2, c_3, c_6, c_9]; done))]; exact lv_sub hl [2, 3, 0] rfl)
            · have c_9 := bI_nz c_9
              refine lv_iinc (v := (l_burnN G S i) + 1) (lv' := [(1, .int ((l_burnN G S i) + 1)), (3, .int (f_ship G (nI i))), (0, .ref (A 0)), (2, .int (nI i))]) hx hb dX0_burnCandles_63 hl (k := 2) rfl rfl (by decide) rfl (fun ls hl => ?_)
              refine lv_iinc (v := nI (i + 1)) (lv' := [(2, .int (nI (i + 1))), (1, .int ((l_burnN G S i) + 1)), (3, .int (f_ship G (nI i))), (0, .ref (A 0))]) hx hb dX0_burnCandles_66 hl (k := 3) rfl (nI_add i 1) (by decide) rfl (fun ls hl => ?_)
              refine lv_goto (tgt := 4) hx hb dX0_burnCandles_69 (by decide) ?_
              exact ih_4 (i + 1) _ _ _ (by omega) (hw.to (by subst hg_8 hg_5; first | assumption | (simp only [l_burnN, l_burnS, if_pos c_2, c_3, if_pos c_6, c_9, if_true, if_false, Bool.false_eq_true, Bool.true_eq_false, reduceIte, reduceCtorEq]; done) | (simp only [l_burnN, l_burnS, if_pos c_2, c_3, if_pos c_6, c_9, if_true, if_false, Bool.false_eq_true, Bool.true_eq_false, reduceIte, reduceCtorEq]; rfl) | rfl | (simp [l_burnN, l_burnS, if_pos c_2, c_3, if_pos c_6, c_9, if_true, if_false, Bool.false_eq_true, Bool.true_eq_false, reduceIte, reduceCtorEq]; done) | (simp [bI, l_burnN, l_burnS, c_2, c_3, c_6, c_9]; done))) (by rw [show (.int (l_burnN G S (i + 1)) : Value) = .int ((l_burnN G S i) + 1) from (by subst hg_8 hg_5; first | assumption | (simp only [l_burnN, l_burnS, if_pos c_2, c_3, if_pos c_6, c_9, if_true, if_false, Bool.false_eq_true, Bool.true_eq_false, reduceIte, reduceCtorEq]; done) | (simp only [l_burnN, l_burnS, if_pos c_2, c_3, if_pos c_6, c_9, if_true, if_false, Bool.false_eq_true, Bool.true_eq_false, reduceIte, reduceCtorEq]; rfl) | rfl | (simp [l_burnN, l_burnS, if_pos c_2, c_3, if_pos c_6, c_9, if_true, if_false, Bool.false_eq_true, Bool.true_eq_false, reduceIte, reduceCtorEq]; done) | (simp [bI, l_burnN, l_burnS, c_2, c_3, c_6, c_9]; done))]; exact lv_sub hl [3, 1, 0] rfl)
  exact L_4 (16 - 0) 0 _ _ _ (by omega) hw (lv_sub hl [2, 1, 0] rfl)
abbrev rm_X0_countNightOut : Room := { frames := 3, cells := 0, slots := 0, locals := 67 }
set_option maxHeartbeats 4000000 in
set_option maxRecDepth 100000 in
theorem c_X0_countNightOut (l : Launch) (E : Ev) (A B : Nat → Nat) (S : CS) (G : HS) : MV l E yX0_countNightOut wsX0_countNightOut rm_X0_countNightOut [.ref (A 0)] (wC E A (B 0) S ++ wG E B G) (wC E A (B 0) (l_loss G S 5) ++ wG E B G) := by
  refine k_bV (cc := cX0_countNightOut) (maxL := 3) (ret := none) (by decide) rfl (Nat.le_of_ble_eq_true rfl) ?_
  intro p9 e s9 m args below meth c A9 ls hC hl hw
  obtain ⟨hx, hb, hml, hr, hown, hts, hlocks, hK, hG, hA⟩ := hC
  have hf15 := hts (.fieldLink RX0 15 "SailorCandles$Chapel" "outFor" "[I") (List.mem_of_getElem? (i := 1) rfl)
  have hinX0 : ∀ w ∈ wsX00, w ∈ wsX0_countNightOut := fun w h => List.mem_cons_of_mem _ (List.mem_append_left _ (List.mem_append_right _ h))
  have hq2 := hts (.initialized RX2) (List.mem_of_getElem? (i := 10) rfl)
  have hq3 := hts (.static yX2_at) (List.mem_of_getElem? (i := 9) rfl)
  have hq4 := hts (.static yX2_put) (List.mem_of_getElem? (i := 12) rfl)
  have hf31 := hts (.fieldLink RX0 31 "SailorCandles$Chapel" "harbour" "LSailorCandles$Harbour;") (List.mem_of_getElem? (i := 2) rfl)
  have hl : lv_has ls 3 [(0, .ref (A 0))] := hl
  refine lv_iconst (v := 0) hx hb dX0_countNightOut_0 (by decide) ?_
  refine lv_istore_n (lv' := [(1, .int 0), (0, .ref (A 0))]) hx hb dX0_countNightOut_1 rfl hl (by decide) rfl (fun ls hl => ?_)
  have L_2 : ∀ (k9 i : Nat) (H : Heap) (locs : List Loc) (ls : Array Slot), i + k9 = 5 → Wd E A9 s9.heap (wC E A (B 0) (l_loss G S i) ++ wG E B G) H locs → lv_has ls 3 [(0, .ref (A 0)), (1, .int (nI i))] → W p9 l e rm_X0_countNightOut s9 m args below meth c H locs 0 0 (EndV E A9 (wC E A (B 0) (l_loss G S 5) ++ wG E B G) below args s9 (rm_X0_countNightOut).cells (rm_X0_countNightOut).slots) (F0 m 2 ls []) := by
    intro k9
    induction k9 with
    | zero =>
      intro i H locs ls hi hw hl
      have hz_1 : 5 = i := by omega
      refine lv_iload_n hx hb dX0_countNightOut_2 rfl (lv_at hl 1 rfl) ?_
      refine lv_iconst (v := 5) hx hb dX0_countNightOut_3 (by decide) ?_
      refine lv_icmp_ge (tgt := 65) hx hb dX0_countNightOut_4 (by decide) (fun _ => ?_) (fun q8 => absurd (by rw [← hz_1]; exact Int32.le_refl _) q8)
      exact k_vret hx hb hr hlocks hK hw dX0_countNightOut_65 (by subst hz_1; first | rfl | assumption | (simp only [l_loss, if_true, if_false, Bool.false_eq_true, Bool.true_eq_false, reduceIte, reduceCtorEq]; done) | (simp only [l_loss, if_true, if_false, Bool.false_eq_true, Bool.true_eq_false, reduceIte, reduceCtorEq]; rfl) | (simp [l_loss, if_true, if_false, Bool.false_eq_true, Bool.true_eq_false, reduceIte, reduceCtorEq]; done) | (simp [bI, l_loss]; done))
    | succ k9 ih_2 =>
      intro i H locs ls hi hw hl
      have hi9 : i < 5 := by omega
      refine lv_iload_n hx hb dX0_countNightOut_2 rfl (lv_at hl 1 rfl) ?_
      refine lv_iconst (v := 5) hx hb dX0_countNightOut_3 (by decide) ?_
      refine lv_icmp_ge (tgt := 65) hx hb dX0_countNightOut_4 (by decide) (fun q8 => absurd q8 (nI_ge (a := i) (b := 5) (by omega) (by omega))) (fun _ => ?_)
      refine lv_aload_n hx hb dX0_countNightOut_7 rfl (lv_at hl 0 rfl) ?_
      refine lv_iload_n hx hb dX0_countNightOut_8 rfl (lv_at hl 1 rfl) ?_
      refine kr_i (ws' := wC E A (B 0) (l_loss G S i) ++ wG E B G) (va_runV (As := [.int (nI i)]) (rest := []) ⟨hx, hb, hml, hown, hts⟩ (c_X0_stayOf l E A (B 0) (l_loss G S i) (nI i)  _) (cwV 1 hts gX0_countNightOut_X0_stayOf rfl rfl rfl ⟨rfl, hd_X0_stayOf⟩ ⟨Nat.le_of_ble_eq_true rfl, Nat.le_of_ble_eq_true rfl⟩) (pwV (ci := 0) (q0 := 0) (C := RX0) hw hK rfl rfl rfl (rpS (AV := [.ref (A 0), .int (nI i)]) hw hK hG rp_30)) rfl rfl hl.1 rfl (lv_room (Nat.le_of_ble_eq_true rfl)) dX0_countNightOut_9 ⟨Nat.le_of_ble_eq_true rfl, Nat.le_of_ble_eq_true rfl⟩) hw hA rp_30 (fun H locs hw => ?_)
      refine lv_iconst (v := 1) hx hb dX0_countNightOut_12 (by decide) ?_
      refine lv_icmp_ne (tgt := 59) hx hb dX0_countNightOut_13 (by decide) (fun c_2 => ?_) (fun c_2 => ?_)
      · refine lv_iinc (v := nI (i + 1)) (lv' := [(1, .int (nI (i + 1))), (0, .ref (A 0))]) hx hb dX0_countNightOut_59 hl (k := 1) rfl (nI_add i 1) (by decide) rfl (fun ls hl => ?_)
        refine lv_goto (tgt := 2) hx hb dX0_countNightOut_62 (by decide) ?_
        exact ih_2 (i + 1) _ _ _ (by omega) (hw.to (by first | assumption | (simp only [l_loss, if_neg c_2, if_true, if_false, Bool.false_eq_true, Bool.true_eq_false, reduceIte, reduceCtorEq]; done) | (simp only [l_loss, if_neg c_2, if_true, if_false, Bool.false_eq_true, Bool.true_eq_false, reduceIte, reduceCtorEq]; rfl) | rfl | (simp [l_loss, if_neg c_2, if_true, if_false, Bool.false_eq_true, Bool.true_eq_false, reduceIte, reduceCtorEq]; done) | (simp [bI, l_loss, c_2]; done))) (lv_sub hl [1, 0] rfl)
      · refine lv_aload_n hx hb dX0_countNightOut_16 rfl (lv_at hl 0 rfl) ?_
        refine k_get (ci := 0) (v := .ref (A 2)) (C := RX0) (T := TX0) (N := 10) hx hb hown hK hw hts hinX0 0 rfl rfl 2 (by decide) hf15 rfl dX0_countNightOut_17 ?_
        refine lv_iload_n hx hb dX0_countNightOut_20 rfl (lv_at hl 1 rfl) ?_
        refine kr_i (ws' := wC E A (B 0) (l_loss G S i) ++ wG E B G) (va_runSN (As := [.ref (A 2), .int (nI i)]) (rest := []) ⟨hx, hb, hml, hown, hts⟩ (c_X2_at l E (A 2) 5 (c_ou (l_loss G S i)) (nI i) (by decide) _) ⟨va_cnB 2 hts ggX0_countNightOut_X2_at rfl rfl rfl (hG.nw 15 (w := .methodLinkNest RX0 53 yX2_at "SailorCandles") rfl) hq2 hd_X2_at ⟨Nat.le_of_ble_eq_true rfl, Nat.le_of_ble_eq_true rfl⟩, hq3, trivial⟩ (rpS (AV := [.ref (A 2), .int (nI i)]) hw hK hG rp_27) rfl rfl hl.1 rfl (lv_room (Nat.le_of_ble_eq_true rfl)) dX0_countNightOut_21 ⟨Nat.le_of_ble_eq_true rfl, Nat.le_of_ble_eq_true rfl⟩) hw hA rp_27 (fun H locs hw => ?_)
        refine lv_iconst (v := 1) hx hb dX0_countNightOut_24 (by decide) ?_
        refine lv_iadd hx hb dX0_countNightOut_25 ?_
        refine lv_istore_n (lv' := [(2, .int ((f_at 5 (c_ou (l_loss G S i)) (nI i)) + 1)), (0, .ref (A 0)), (1, .int (nI i))]) hx hb dX0_countNightOut_26 rfl hl (by decide) rfl (fun ls hl => ?_)
        refine lv_aload_n hx hb dX0_countNightOut_27 rfl (lv_at hl 1 rfl) ?_
        refine k_get (ci := 0) (v := .ref (A 2)) (C := RX0) (T := TX0) (N := 10) hx hb hown hK hw hts hinX0 0 rfl rfl 2 (by decide) hf15 rfl dX0_countNightOut_28 ?_
        refine lv_iload_n hx hb dX0_countNightOut_31 rfl (lv_at hl 2 rfl) ?_
        refine lv_iload_n hx hb dX0_countNightOut_32 rfl (lv_at hl 0 rfl) ?_
        refine kr_v (ws' := wC E A (B 0) (p_ou (l_loss G S i) (f_put 5 (c_ou (l_loss G S i)) (nI i) ((f_at 5 (c_ou (l_loss G S i)) (nI i)) + 1))) ++ wG E B G) (va_runSN (As := [.ref (A 2), .int (nI i), .int ((f_at 5 (c_ou (l_loss G S i)) (nI i)) + 1)]) (rest := []) ⟨hx, hb, hml, hown, hts⟩ (c_X2_put l E (A 2) 5 (c_ou (l_loss G S i)) (nI i) ((f_at 5 (c_ou (l_loss G S i)) (nI i)) + 1) (by decide) _) ⟨va_cnB 3 hts ggX0_countNightOut_X2_put rfl rfl rfl (hG.nw 16 (w := .methodLinkNest RX0 57 yX2_put "SailorCandles") rfl) hq2 hd_X2_put ⟨Nat.le_of_ble_eq_true rfl, Nat.le_of_ble_eq_true rfl⟩, hq4, trivial⟩ (rpS (AV := [.ref (A 2), .int (nI i), .int ((f_at 5 (c_ou (l_loss G S i)) (nI i)) + 1)]) hw hK hG rp_27) rfl rfl hl.1 rfl (lv_room (Nat.le_of_ble_eq_true rfl)) dX0_countNightOut_33 ⟨Nat.le_of_ble_eq_true rfl, Nat.le_of_ble_eq_true rfl⟩) hw hA rp_26 (fun H locs hw => ?_)
        refine lv_iload_n hx hb dX0_countNightOut_36 rfl (lv_at hl 0 rfl) ?_
        refine lv_bipush (v := 20) hx hb dX0_countNightOut_37 (by decide) ?_
        refine lv_icmp_le (tgt := 59) hx hb dX0_countNightOut_39 (by decide) (fun c_3 => ?_) (fun c_3 => ?_)
        · refine lv_iinc (v := nI (i + 1)) (lv' := [(1, .int (nI (i + 1))), (2, .int ((f_at 5 (c_ou (l_loss G S i)) (nI i)) + 1)), (0, .ref (A 0))]) hx hb dX0_countNightOut_59 hl (k := 2) rfl (nI_add i 1) (by decide) rfl (fun ls hl => ?_)
          refine lv_goto (tgt := 2) hx hb dX0_countNightOut_62 (by decide) ?_
          exact ih_2 (i + 1) _ _ _ (by omega) (hw.to (by first | assumption | (simp only [l_loss, if_pos c_2, if_pos c_3, if_true, if_false, Bool.false_eq_true, Bool.true_eq_false, reduceIte, reduceCtorEq]; done) | (simp only [l_loss, if_pos c_2, if_pos c_3, if_true, if_false, Bool.false_eq_true, Bool.true_eq_false, reduceIte, reduceCtorEq]; rfl) | rfl | (simp [l_loss, if_pos c_2, if_pos c_3, if_true, if_false, Bool.false_eq_true, Bool.true_eq_false, reduceIte, reduceCtorEq]; done) | (simp [bI, l_loss, c_2, c_3]; done))) (lv_sub hl [2, 0] rfl)
        · refine lv_aload_n hx hb dX0_countNightOut_42 rfl (lv_at hl 1 rfl) ?_
          refine k_get (ci := 0) (v := .ref (B 0)) (C := RX0) (T := TX0) (N := 10) hx hb hown hK hw hts hinX0 0 rfl rfl 0 (by decide) hf31 rfl dX0_countNightOut_43 ?_
          refine lv_iload_n hx hb dX0_countNightOut_46 rfl (lv_at hl 2 rfl) ?_
          refine kr_i (ws' := wC E A (B 0) (p_ou (l_loss G S i) (f_put 5 (c_ou (l_loss G S i)) (nI i) ((f_at 5 (c_ou (l_loss G S i)) (nI i)) + 1))) ++ wG E B G) (va_runV (As := [.int (nI i)]) (rest := []) ⟨hx, hb, hml, hown, hts⟩ (c_X1_votesToLose l E B G (nI i)  _) (cwV 1 hts gX0_countNightOut_X1_votesToLose rfl rfl rfl ⟨rfl, hd_X1_votesToLose⟩ ⟨Nat.le_of_ble_eq_true rfl, Nat.le_of_ble_eq_true rfl⟩) (pwV (ci := 1) (q0 := 7) (C := RX1) hw hK rfl rfl rfl (rpS (AV := [.ref (B 0), .int (nI i)]) hw hK hG rp_28)) rfl rfl hl.1 rfl (lv_room (Nat.le_of_ble_eq_true rfl)) dX0_countNightOut_47 ⟨Nat.le_of_ble_eq_true rfl, Nat.le_of_ble_eq_true rfl⟩) hw hA rp_28 (fun H locs hw => ?_)
          refine lv_if_ne (tgt := 59) hx hb dX0_countNightOut_50 (by decide) (fun c_4 => ?_) (fun c_4 => ?_)
          · refine lv_iinc (v := nI (i + 1)) (lv' := [(1, .int (nI (i + 1))), (2, .int ((f_at 5 (c_ou (l_loss G S i)) (nI i)) + 1)), (0, .ref (A 0))]) hx hb dX0_countNightOut_59 hl (k := 2) rfl (nI_add i 1) (by decide) rfl (fun ls hl => ?_)
            refine lv_goto (tgt := 2) hx hb dX0_countNightOut_62 (by decide) ?_
            exact ih_2 (i + 1) _ _ _ (by omega) (hw.to (by first | assumption | (simp only [l_loss, if_pos c_2, if_neg c_3, if_neg c_4, if_true, if_false, Bool.false_eq_true, Bool.true_eq_false, reduceIte, reduceCtorEq]; done) | (simp only [l_loss, if_pos c_2, if_neg c_3, if_neg c_4, if_true, if_false, Bool.false_eq_true, Bool.true_eq_false, reduceIte, reduceCtorEq]; rfl) | rfl | (simp [l_loss, if_pos c_2, if_neg c_3, if_neg c_4, if_true, if_false, Bool.false_eq_true, Bool.true_eq_false, reduceIte, reduceCtorEq]; done) | (simp [bI, l_loss, c_2, c_3, c_4]; done))) (lv_sub hl [2, 0] rfl)
          · refine lv_aload_n hx hb dX0_countNightOut_53 rfl (lv_at hl 1 rfl) ?_
            refine lv_iload_n hx hb dX0_countNightOut_54 rfl (lv_at hl 2 rfl) ?_
            refine lv_iconst (v := 2) hx hb dX0_countNightOut_55 (by decide) ?_
            refine kr_v (ws' := wC E A (B 0) (f_end G (p_ou (l_loss G S i) (f_put 5 (c_ou (l_loss G S i)) (nI i) ((f_at 5 (c_ou (l_loss G S i)) (nI i)) + 1))) (nI i) 2) ++ wG E B G) (va_runV (As := [.int (nI i), .int 2]) (rest := []) ⟨hx, hb, hml, hown, hts⟩ (c_X0_endWaiting l E A B (p_ou (l_loss G S i) (f_put 5 (c_ou (l_loss G S i)) (nI i) ((f_at 5 (c_ou (l_loss G S i)) (nI i)) + 1))) G (nI i) 2  _) (cwV 2 hts gX0_countNightOut_X0_endWaiting rfl rfl rfl ⟨rfl, hd_X0_endWaiting⟩ ⟨Nat.le_of_ble_eq_true rfl, Nat.le_of_ble_eq_true rfl⟩) (pwV (ci := 0) (q0 := 0) (C := RX0) hw hK rfl rfl rfl (rpS (AV := [.ref (A 0), .int (nI i), .int 2]) hw hK hG rp_46)) rfl rfl hl.1 rfl (lv_room (Nat.le_of_ble_eq_true rfl)) dX0_countNightOut_56 ⟨Nat.le_of_ble_eq_true rfl, Nat.le_of_ble_eq_true rfl⟩) hw hA rp_49 (fun H locs hw => ?_)
            generalize hg_6 : f_end G (p_ou (l_loss G S i) (f_put 5 (c_ou (l_loss G S i)) (nI i) ((f_at 5 (c_ou (l_loss G S i)) (nI i)) + 1))) (nI i) 2 = Z_5 at hw
            refine lv_iinc (v := nI (i + 1)) (lv' := [(1, .int (nI (i + 1))), (2, .int ((f_at 5 (c_ou (l_loss G S i)) (nI i)) + 1)), (0, .ref (A 0))]) hx hb dX0_countNightOut_59 hl (k := 2) rfl (nI_add i 1) (by decide) rfl (fun ls hl => ?_)
            refine lv_goto (tgt := 2) hx hb dX0_countNightOut_62 (by decide) ?_
            exact ih_2 (i + 1) _ _ _ (by omega) (hw.to (by subst hg_6; first | assumption | (simp only [l_loss, if_pos c_2, if_neg c_3, if_pos c_4, if_true, if_false, Bool.false_eq_true, Bool.true_eq_false, reduceIte, reduceCtorEq]; done) | (simp only [l_loss, if_pos c_2, if_neg c_3, if_pos c_4, if_true, if_false, Bool.false_eq_true, Bool.true_eq_false, reduceIte, reduceCtorEq]; rfl) | rfl | (simp [l_loss, if_pos c_2, if_neg c_3, if_pos c_4, if_true, if_false, Bool.false_eq_true, Bool.true_eq_false, reduceIte, reduceCtorEq]; done) | (simp [bI, l_loss, c_2, c_3, c_4]; done))) (lv_sub hl [2, 0] rfl)
  exact L_2 (5 - 0) 0 _ _ _ (by omega) hw (lv_sub hl [1, 0] rfl)
abbrev rm_X0_passNight : Room := { frames := 4, cells := 0, slots := 0, locals := 89 }
set_option maxHeartbeats 4000000 in
set_option maxRecDepth 100000 in
theorem c_X0_passNight (l : Launch) (E : Ev) (A B : Nat → Nat) (S : CS) (G : HS) : MI l E yX0_passNight wsX0_passNight rm_X0_passNight [.ref (A 0)] (wC E A (B 0) S ++ wG E B G) (f_nightN G S) (wC E A (B 0) (f_night G S) ++ wG E B G) := by
  refine k_bI (cc := cX0_passNight) (maxL := 2) (ret := (some .int)) (by decide) rfl (Nat.le_of_ble_eq_true rfl) ?_
  intro p9 e s9 m args below meth c A9 ls hC hl hw
  obtain ⟨hx, hb, hml, hr, hown, hts, hlocks, hK, hG, hA⟩ := hC
  have hf43 := hts (.fieldLink RX0 43 "SailorCandles$Chapel" "nightsPassed" "I") (List.mem_of_getElem? (i := 1) rfl)
  have hinX0 : ∀ w ∈ wsX00, w ∈ wsX0_passNight := fun w h => List.mem_cons_of_mem _ (List.mem_append_left _ (List.mem_append_right _ h))
  have hl : lv_has ls 2 [(0, .ref (A 0))] := hl
  refine lv_aload_n hx hb dX0_passNight_0 rfl (lv_at hl 0 rfl) ?_
  refine kr_v (ws' := wC E A (B 0) (l_age S 20) ++ wG E B G) (va_runV (As := []) (rest := []) ⟨hx, hb, hml, hown, hts⟩ (c_X0_ageSightings l E A (B 0) S  _) (cwV 0 hts gX0_passNight_X0_ageSightings rfl rfl rfl ⟨rfl, hd_X0_ageSightings⟩ ⟨Nat.le_of_ble_eq_true rfl, Nat.le_of_ble_eq_true rfl⟩) (pwV (ci := 0) (q0 := 0) (C := RX0) hw hK rfl rfl rfl (rpS (AV := [.ref (A 0)]) hw hK hG rp_30)) rfl rfl hl.1 rfl (lv_room (Nat.le_of_ble_eq_true rfl)) dX0_passNight_1 ⟨Nat.le_of_ble_eq_true rfl, Nat.le_of_ble_eq_true rfl⟩) hw hA rp_29 (fun H locs hw => ?_)
  generalize hg_2 : l_age S 20 = Z_1 at hw
  refine lv_aload_n hx hb dX0_passNight_4 rfl (lv_at hl 0 rfl) ?_
  refine kr_v (ws' := wC E A (B 0) (l_unr Z_1 5) ++ wG E B G) (va_runV (As := []) (rest := []) ⟨hx, hb, hml, hown, hts⟩ (c_X0_unringBells l E A (B 0) Z_1  _) (cwV 0 hts gX0_passNight_X0_unringBells rfl rfl rfl ⟨rfl, hd_X0_unringBells⟩ ⟨Nat.le_of_ble_eq_true rfl, Nat.le_of_ble_eq_true rfl⟩) (pwV (ci := 0) (q0 := 0) (C := RX0) hw hK rfl rfl rfl (rpS (AV := [.ref (A 0)]) hw hK hG rp_30)) rfl rfl hl.1 rfl (lv_room (Nat.le_of_ble_eq_true rfl)) dX0_passNight_5 ⟨Nat.le_of_ble_eq_true rfl, Nat.le_of_ble_eq_true rfl⟩) hw hA rp_29 (fun H locs hw => ?_)
  generalize hg_4 : l_unr Z_1 5 = Z_3 at hw
  refine lv_aload_n hx hb dX0_passNight_8 rfl (lv_at hl 0 rfl) ?_
  refine kr_i (ws' := wC E A (B 0) (l_burnS G Z_3 16) ++ wG E B G) (va_runV (As := []) (rest := []) ⟨hx, hb, hml, hown, hts⟩ (c_X0_burnCandles l E A B Z_3 G  _) (cwV 0 hts gX0_passNight_X0_burnCandles rfl rfl rfl ⟨rfl, hd_X0_burnCandles⟩ ⟨Nat.le_of_ble_eq_true rfl, Nat.le_of_ble_eq_true rfl⟩) (pwV (ci := 0) (q0 := 0) (C := RX0) hw hK rfl rfl rfl (rpS (AV := [.ref (A 0)]) hw hK hG rp_46)) rfl rfl hl.1 rfl (lv_room (Nat.le_of_ble_eq_true rfl)) dX0_passNight_9 ⟨Nat.le_of_ble_eq_true rfl, Nat.le_of_ble_eq_true rfl⟩) hw hA rp_49 (fun H locs hw => ?_)
  generalize hg_6 : l_burnS G Z_3 16 = Z_5 at hw
  refine lv_istore_n (lv' := [(1, .int (l_burnN G Z_3 16)), (0, .ref (A 0))]) hx hb dX0_passNight_12 rfl hl (by decide) rfl (fun ls hl => ?_)
  refine lv_aload_n hx hb dX0_passNight_13 rfl (lv_at hl 1 rfl) ?_
  refine kr_v (ws' := wC E A (B 0) (l_loss G Z_5 5) ++ wG E B G) (va_runV (As := []) (rest := []) ⟨hx, hb, hml, hown, hts⟩ (c_X0_countNightOut l E A B Z_5 G  _) (cwV 0 hts gX0_passNight_X0_countNightOut rfl rfl rfl ⟨rfl, hd_X0_countNightOut⟩ ⟨Nat.le_of_ble_eq_true rfl, Nat.le_of_ble_eq_true rfl⟩) (pwV (ci := 0) (q0 := 0) (C := RX0) hw hK rfl rfl rfl (rpS (AV := [.ref (A 0)]) hw hK hG rp_46)) rfl rfl hl.1 rfl (lv_room (Nat.le_of_ble_eq_true rfl)) dX0_passNight_14 ⟨Nat.le_of_ble_eq_true rfl, Nat.le_of_ble_eq_true rfl⟩) hw hA rp_49 (fun H locs hw => ?_)
  generalize hg_8 : l_loss G Z_5 5 = Z_7 at hw
  refine lv_aload_n hx hb dX0_passNight_17 rfl (lv_at hl 1 rfl) ?_
  refine lv_dup hx hb dX0_passNight_18 rfl ?_
  refine k_get (ci := 0) (v := .int (c_ni Z_7)) (C := RX0) (T := TX0) (N := 10) hx hb hown hK hw hts hinX0 0 rfl rfl 7 (by decide) hf43 rfl dX0_passNight_19 ?_
  refine lv_iconst (v := 1) hx hb dX0_passNight_22 (by decide) ?_
  refine lv_iadd hx hb dX0_passNight_23 ?_
  refine k_put (ci := 0) (C := RX0) (T := TX0) (N := 10) (ws' := wC E A (B 0) (p_ni Z_7 ((c_ni Z_7) + 1)) ++ wG E B G) hx hb hown hK hw hts hinX0 tyX0 tyX0_ok nmX0 0 rfl rfl 7 (by decide) hf43 rfl rfl (Nat.le_of_ble_eq_true rfl) dX0_passNight_24 rfl (fun H locs hw => ?_)
  refine lv_iload_n hx hb dX0_passNight_27 rfl (lv_at hl 0 rfl) ?_
  exact k_iret hx hb hr hlocks hK hw rfl dX0_passNight_28 (by subst hg_8 hg_6 hg_4 hg_2; first | rfl | assumption | (simp only [if_true, if_false, Bool.false_eq_true, Bool.true_eq_false, reduceIte, reduceCtorEq]; done) | (simp only [if_true, if_false, Bool.false_eq_true, Bool.true_eq_false, reduceIte, reduceCtorEq]; rfl) | (simp [if_true, if_false, Bool.false_eq_true, Bool.true_eq_false, reduceIte, reduceCtorEq]; done) | (simp [bI, ]; done)) (by subst hg_8 hg_6 hg_4 hg_2; first | rfl | assumption | (simp only [if_true, if_false, Bool.false_eq_true, Bool.true_eq_false, reduceIte, reduceCtorEq]; done) | (simp only [if_true, if_false, Bool.false_eq_true, Bool.true_eq_false, reduceIte, reduceCtorEq]; rfl) | (simp [if_true, if_false, Bool.false_eq_true, Bool.true_eq_false, reduceIte, reduceCtorEq]; done) | (simp [bI, ]; done))
abbrev rm_X0_passNights : Room := { frames := 5, cells := 0, slots := 0, locals := 110 }
set_option maxHeartbeats 4000000 in
set_option maxRecDepth 100000 in
theorem c_X0_passNights (l : Launch) (E : Ev) (A B : Nat → Nat) (S : CS) (G : HS) (n : Nat) (hn : n < 2147483648) : MI l E yX0_passNights wsX0_passNights rm_X0_passNights [.ref (A 0), .int (nI n)] (wC E A (B 0) S ++ wG E B G) (l_passN G S n) (wC E A (B 0) (l_passS G S n) ++ wG E B G) := by
  refine k_bI (cc := cX0_passNights) (maxL := 4) (ret := (some .int)) (by decide) rfl (Nat.le_of_ble_eq_true rfl) ?_
  intro p9 e s9 m args below meth c A9 ls hC hl hw
  obtain ⟨hx, hb, hml, hr, hown, hts, hlocks, hK, hG, hA⟩ := hC
  have hl : lv_has ls 4 [(0, .ref (A 0)), (1, .int (nI n))] := hl
  refine lv_iconst (v := 0) hx hb dX0_passNights_0 (by decide) ?_
  refine lv_istore_n (lv' := [(2, .int 0), (0, .ref (A 0)), (1, .int (nI n))]) hx hb dX0_passNights_1 rfl hl (by decide) rfl (fun ls hl => ?_)
  refine lv_iconst (v := 0) hx hb dX0_passNights_2 (by decide) ?_
  refine lv_istore_n (lv' := [(3, .int 0), (2, .int 0), (0, .ref (A 0)), (1, .int (nI n))]) hx hb dX0_passNights_3 rfl hl (by decide) rfl (fun ls hl => ?_)
  have L_4 : ∀ (k9 i : Nat) (H : Heap) (locs : List Loc) (ls : Array Slot), i + k9 = n → Wd E A9 s9.heap (wC E A (B 0) (l_passS G S i) ++ wG E B G) H locs → lv_has ls 4 [(0, .ref (A 0)), (1, .int (nI n)), (2, .int (l_passN G S i)), (3, .int (nI i))] → W p9 l e rm_X0_passNights s9 m args below meth c H locs 0 0 (EndI E A9 (l_passN G S n) (wC E A (B 0) (l_passS G S n) ++ wG E B G) below args s9 (rm_X0_passNights).cells (rm_X0_passNights).slots) (F0 m 4 ls []) := by
    intro k9
    induction k9 with
    | zero =>
      intro i H locs ls hi hw hl
      have hz_1 : n = i := by omega
      refine lv_iload_n hx hb dX0_passNights_4 rfl (lv_at hl 3 rfl) ?_
      refine lv_iload_n hx hb dX0_passNights_5 rfl (lv_at hl 1 rfl) ?_
      refine lv_icmp_ge (tgt := 22) hx hb dX0_passNights_6 (by decide) (fun _ => ?_) (fun q8 => absurd (by rw [← hz_1]; exact Int32.le_refl _) q8)
      refine lv_iload_n hx hb dX0_passNights_22 rfl (lv_at hl 2 rfl) ?_
      exact k_iret hx hb hr hlocks hK hw rfl dX0_passNights_23 (by subst hz_1; first | rfl | assumption | (simp only [l_passN, l_passS, if_true, if_false, Bool.false_eq_true, Bool.true_eq_false, reduceIte, reduceCtorEq]; done) | (simp only [l_passN, l_passS, if_true, if_false, Bool.false_eq_true, Bool.true_eq_false, reduceIte, reduceCtorEq]; rfl) | (simp [l_passN, l_passS, if_true, if_false, Bool.false_eq_true, Bool.true_eq_false, reduceIte, reduceCtorEq]; done) | (simp [bI, l_passN, l_passS]; done)) (by subst hz_1; first | rfl | assumption | (simp only [l_passN, l_passS, if_true, if_false, Bool.false_eq_true, Bool.true_eq_false, reduceIte, reduceCtorEq]; done) | (simp only [l_passN, l_passS, if_true, if_false, Bool.false_eq_true, Bool.true_eq_false, reduceIte, reduceCtorEq]; rfl) | (simp [l_passN, l_passS, if_true, if_false, Bool.false_eq_true, Bool.true_eq_false, reduceIte, reduceCtorEq]; done) | (simp [bI, l_passN, l_passS]; done))
    | succ k9 ih_4 =>
      intro i H locs ls hi hw hl
      have hi9 : i < n := by omega
      refine lv_iload_n hx hb dX0_passNights_4 rfl (lv_at hl 3 rfl) ?_
      refine lv_iload_n hx hb dX0_passNights_5 rfl (lv_at hl 1 rfl) ?_
      refine lv_icmp_ge (tgt := 22) hx hb dX0_passNights_6 (by decide) (fun q8 => absurd q8 (nI_ge (a := i) (b := n) (by omega) (by omega))) (fun _ => ?_)
      refine lv_iload_n hx hb dX0_passNights_9 rfl (lv_at hl 2 rfl) ?_
      refine lv_aload_n hx hb dX0_passNights_10 rfl (lv_at hl 0 rfl) ?_
      refine kr_i (ws' := wC E A (B 0) (f_night G (l_passS G S i)) ++ wG E B G) (va_runV (As := []) (rest := [.int (l_passN G S i)]) ⟨hx, hb, hml, hown, hts⟩ (c_X0_passNight l E A B (l_passS G S i) G  _) (cwV 0 hts gX0_passNights_X0_passNight rfl rfl rfl ⟨rfl, hd_X0_passNight⟩ ⟨Nat.le_of_ble_eq_true rfl, Nat.le_of_ble_eq_true rfl⟩) (pwV (ci := 0) (q0 := 0) (C := RX0) hw hK rfl rfl rfl (rpS (AV := [.ref (A 0)]) hw hK hG rp_46)) rfl rfl hl.1 rfl (lv_room (Nat.le_of_ble_eq_true rfl)) dX0_passNights_11 ⟨Nat.le_of_ble_eq_true rfl, Nat.le_of_ble_eq_true rfl⟩) hw hA rp_49 (fun H locs hw => ?_)
      generalize hg_3 : f_night G (l_passS G S i) = Z_2 at hw
      refine lv_iadd hx hb dX0_passNights_14 ?_
      refine lv_istore_n (lv' := [(2, .int ((l_passN G S i) + (f_nightN G (l_passS G S i)))), (0, .ref (A 0)), (1, .int (nI n)), (3, .int (nI i))]) hx hb dX0_passNights_15 rfl hl (by decide) rfl (fun ls hl => ?_)
      refine lv_iinc (v := nI (i + 1)) (lv' := [(3, .int (nI (i + 1))), (2, .int ((l_passN G S i) + (f_nightN G (l_passS G S i)))), (0, .ref (A 0)), (1, .int (nI n))]) hx hb dX0_passNights_16 hl (k := 3) rfl (nI_add i 1) (by decide) rfl (fun ls hl => ?_)
      refine lv_goto (tgt := 4) hx hb dX0_passNights_19 (by decide) ?_
      exact ih_4 (i + 1) _ _ _ (by omega) (hw.to (by subst hg_3; first | rfl | assumption | (simp only [l_passN, l_passS, if_true, if_false, Bool.false_eq_true, Bool.true_eq_false, reduceIte, reduceCtorEq]; done) | (simp only [l_passN, l_passS, if_true, if_false, Bool.false_eq_true, Bool.true_eq_false, reduceIte, reduceCtorEq]; rfl) | (simp [l_passN, l_passS, if_true, if_false, Bool.false_eq_true, Bool.true_eq_false, reduceIte, reduceCtorEq]; done) | (simp [bI, l_passN, l_passS]; done))) (by rw [show (.int (l_passN G S (i + 1)) : Value) = .int ((l_passN G S i) + (f_nightN G (l_passS G S i))) from (by subst hg_3; first | rfl | assumption | (simp only [l_passN, l_passS, if_true, if_false, Bool.false_eq_true, Bool.true_eq_false, reduceIte, reduceCtorEq]; done) | (simp only [l_passN, l_passS, if_true, if_false, Bool.false_eq_true, Bool.true_eq_false, reduceIte, reduceCtorEq]; rfl) | (simp [l_passN, l_passS, if_true, if_false, Bool.false_eq_true, Bool.true_eq_false, reduceIte, reduceCtorEq]; done) | (simp [bI, l_passN, l_passS]; done))]; exact lv_sub hl [2, 3, 1, 0] rfl)
  exact L_4 (n - 0) 0 _ _ _ (by omega) hw (lv_sub hl [2, 3, 1, 0] rfl)
