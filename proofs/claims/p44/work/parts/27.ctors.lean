abbrev rm_X1_init : Room := { frames := 1, cells := 5, slots := 69, locals := 40 }
set_option maxHeartbeats 4000000 in
set_option maxRecDepth 100000 in
theorem c_X1_init (l : Launch) (E : Ev) (h : Nat) : MC l E yX1_init wsX1_init rm_X1_init [.ref h] ([(h, .inr (1, [.int 0, .int 0, .int 0, .null, .null, .null, .null, .null]))]) (fun (u : Nat → Nat) => u 0 = h) (fun (u : Nat → Nat) => wG E u G0) := by
  refine k_bC (cc := cX1_init) (maxL := 2) (ret := none) (by decide) rfl (Nat.le_of_ble_eq_true rfl) ?_
  intro p9 e s9 m args below meth c A9 ls hC hin9 hl hw
  obtain ⟨hx, hb, hml, hr, hown, hts, hlocks, hK, hG, hA⟩ := hC
  have hq0 := hts (.methodLink RX1 3 objectInit) (List.mem_of_getElem? (i := 1) rfl)
  have hq1 := hts (.instanceMethod objectInit) (List.mem_of_getElem? (i := 2) rfl)
  have hq2 := hts (.code objectInit ⟨#[0xb1]⟩ 1 none) (List.mem_of_getElem? (i := 3) rfl)
  have hq3 := hts (.arrayClass .int) (List.mem_of_getElem? (i := 4) rfl)
  have hf9 := hts (.fieldLink RX1 9 "SailorCandles$Harbour" "masts" "[I") (List.mem_of_getElem? (i := 5) rfl)
  have hinX1 : ∀ w ∈ wsX10, w ∈ wsX1_init := fun w h => List.mem_cons_of_mem _ (List.mem_append_right _ h)
  have hf15 := hts (.fieldLink RX1 15 "SailorCandles$Harbour" "ship" "[I") (List.mem_of_getElem? (i := 6) rfl)
  have hf18 := hts (.fieldLink RX1 18 "SailorCandles$Harbour" "mast" "[I") (List.mem_of_getElem? (i := 7) rfl)
  have hq8 := hts (.arrayClass .boolean) (List.mem_of_getElem? (i := 8) rfl)
  have hf21 := hts (.fieldLink RX1 21 "SailorCandles$Harbour" "voter" "[Z") (List.mem_of_getElem? (i := 9) rfl)
  have hf25 := hts (.fieldLink RX1 25 "SailorCandles$Harbour" "givenUp" "[Z") (List.mem_of_getElem? (i := 10) rfl)
  have hl : lv_has ls 2 [(0, .ref h)] := hl
  refine lv_aload_n hx hb dX1_init_0 rfl (lv_at hl 0 rfl) ?_
  refine W.objInit hx hb hown hq0 hq1 hq2 rfl (by rw [hml]; exact hl.1) rfl dX1_init_1 (Nat.le_of_ble_eq_true rfl) (Nat.le_of_ble_eq_true rfl) ?_
  refine W.eq (g2 := F0 m 4 ls []) rfl ?_
  refine lv_aload_n hx hb dX1_init_4 rfl (lv_at hl 0 rfl) ?_
  refine lv_iconst (v := 5) hx hb dX1_init_5 (by decide) ?_
  refine k_newI (N := 5) hx hb hq3 hK hw hA (by decide) (Nat.le_of_ble_eq_true rfl) (Nat.le_of_ble_eq_true rfl) dX1_init_6 (fun q6 H hw => ?_)
  have hw : Wd E A9 s9.heap ([(h, .inr (1, [.int 0, .int 0, .int 0, .null, .null, .null, .null, .null]))] ++ [(q6, aI E 5 (fun _ => 0))]) H _ := hw
  refine k_putF (ci := 1) (v := .ref q6) (C := RX1) (T := TX1) (N := 8) (ws' := [(h, .inr (1, [.int 0, .int 0, .int 0, .ref q6, .null, .null, .null, .null]))] ++ [(q6, aI E 5 (fun _ => 0))]) hx hb hown hK hw hts hinX1 tyX1 tyX1_ok nmX1 0 rfl rfl 3 (by decide) hf9 rfl hin9 rfl rfl rfl (Nat.le_of_ble_eq_true rfl) dX1_init_8 rfl (fun H locs hw => ?_)
  refine lv_aload_n hx hb dX1_init_11 rfl (lv_at hl 0 rfl) ?_
  refine lv_bipush (v := 16) hx hb dX1_init_12 (by decide) ?_
  refine k_newI (N := 16) hx hb hq3 hK hw hA (by decide) (Nat.le_of_ble_eq_true rfl) (Nat.le_of_ble_eq_true rfl) dX1_init_14 (fun q14 H hw => ?_)
  have hw : Wd E A9 s9.heap ([(h, .inr (1, [.int 0, .int 0, .int 0, .ref q6, .null, .null, .null, .null]))] ++ [(q6, aI E 5 (fun _ => 0))] ++ [(q14, aI E 16 (fun _ => 0))]) H _ := hw
  refine k_putF (ci := 1) (v := .ref q14) (C := RX1) (T := TX1) (N := 8) (ws' := [(h, .inr (1, [.int 0, .int 0, .int 0, .ref q6, .ref q14, .null, .null, .null]))] ++ [(q6, aI E 5 (fun _ => 0))] ++ [(q14, aI E 16 (fun _ => 0))]) hx hb hown hK hw hts hinX1 tyX1 tyX1_ok nmX1 0 rfl rfl 4 (by decide) hf15 rfl hin9 rfl rfl rfl (Nat.le_of_ble_eq_true rfl) dX1_init_16 rfl (fun H locs hw => ?_)
  refine lv_aload_n hx hb dX1_init_19 rfl (lv_at hl 0 rfl) ?_
  refine lv_bipush (v := 16) hx hb dX1_init_20 (by decide) ?_
  refine k_newI (N := 16) hx hb hq3 hK hw hA (by decide) (Nat.le_of_ble_eq_true rfl) (Nat.le_of_ble_eq_true rfl) dX1_init_22 (fun q22 H hw => ?_)
  have hw : Wd E A9 s9.heap ([(h, .inr (1, [.int 0, .int 0, .int 0, .ref q6, .ref q14, .null, .null, .null]))] ++ [(q6, aI E 5 (fun _ => 0))] ++ [(q14, aI E 16 (fun _ => 0))] ++ [(q22, aI E 16 (fun _ => 0))]) H _ := hw
  refine k_putF (ci := 1) (v := .ref q22) (C := RX1) (T := TX1) (N := 8) (ws' := [(h, .inr (1, [.int 0, .int 0, .int 0, .ref q6, .ref q14, .ref q22, .null, .null]))] ++ [(q6, aI E 5 (fun _ => 0))] ++ [(q14, aI E 16 (fun _ => 0))] ++ [(q22, aI E 16 (fun _ => 0))]) hx hb hown hK hw hts hinX1 tyX1 tyX1_ok nmX1 0 rfl rfl 5 (by decide) hf18 rfl hin9 rfl rfl rfl (Nat.le_of_ble_eq_true rfl) dX1_init_24 rfl (fun H locs hw => ?_)
  refine lv_aload_n hx hb dX1_init_27 rfl (lv_at hl 0 rfl) ?_
  refine lv_bipush (v := 16) hx hb dX1_init_28 (by decide) ?_
  refine k_newZ (N := 16) hx hb hq8 hK hw hA (by decide) (Nat.le_of_ble_eq_true rfl) (Nat.le_of_ble_eq_true rfl) dX1_init_30 (fun q30 H hw => ?_)
  have hw : Wd E A9 s9.heap ([(h, .inr (1, [.int 0, .int 0, .int 0, .ref q6, .ref q14, .ref q22, .null, .null]))] ++ [(q6, aI E 5 (fun _ => 0))] ++ [(q14, aI E 16 (fun _ => 0))] ++ [(q22, aI E 16 (fun _ => 0))] ++ [(q30, aZ E 16 (fun _ => false))]) H _ := hw
  refine k_putF (ci := 1) (v := .ref q30) (C := RX1) (T := TX1) (N := 8) (ws' := [(h, .inr (1, [.int 0, .int 0, .int 0, .ref q6, .ref q14, .ref q22, .ref q30, .null]))] ++ [(q6, aI E 5 (fun _ => 0))] ++ [(q14, aI E 16 (fun _ => 0))] ++ [(q22, aI E 16 (fun _ => 0))] ++ [(q30, aZ E 16 (fun _ => false))]) hx hb hown hK hw hts hinX1 tyX1 tyX1_ok nmX1 0 rfl rfl 6 (by decide) hf21 rfl hin9 rfl rfl rfl (Nat.le_of_ble_eq_true rfl) dX1_init_32 rfl (fun H locs hw => ?_)
  refine lv_aload_n hx hb dX1_init_35 rfl (lv_at hl 0 rfl) ?_
  refine lv_bipush (v := 16) hx hb dX1_init_36 (by decide) ?_
  refine k_newZ (N := 16) hx hb hq8 hK hw hA (by decide) (Nat.le_of_ble_eq_true rfl) (Nat.le_of_ble_eq_true rfl) dX1_init_38 (fun q38 H hw => ?_)
  have hw : Wd E A9 s9.heap ([(h, .inr (1, [.int 0, .int 0, .int 0, .ref q6, .ref q14, .ref q22, .ref q30, .null]))] ++ [(q6, aI E 5 (fun _ => 0))] ++ [(q14, aI E 16 (fun _ => 0))] ++ [(q22, aI E 16 (fun _ => 0))] ++ [(q30, aZ E 16 (fun _ => false))] ++ [(q38, aZ E 16 (fun _ => false))]) H _ := hw
  refine k_putF (ci := 1) (v := .ref q38) (C := RX1) (T := TX1) (N := 8) (ws' := [(h, .inr (1, [.int 0, .int 0, .int 0, .ref q6, .ref q14, .ref q22, .ref q30, .ref q38]))] ++ [(q6, aI E 5 (fun _ => 0))] ++ [(q14, aI E 16 (fun _ => 0))] ++ [(q22, aI E 16 (fun _ => 0))] ++ [(q30, aZ E 16 (fun _ => false))] ++ [(q38, aZ E 16 (fun _ => false))]) hx hb hown hK hw hts hinX1 tyX1 tyX1_ok nmX1 0 rfl rfl 7 (by decide) hf25 rfl hin9 rfl rfl rfl (Nat.le_of_ble_eq_true rfl) dX1_init_40 rfl (fun H locs hw => ?_)
  refine lv_iconst (v := 0) hx hb dX1_init_43 (by decide) ?_
  refine lv_istore_n (lv' := [(1, .int 0), (0, .ref h)]) hx hb dX1_init_44 rfl hl (by decide) rfl (fun ls hl => ?_)
  have L_45 : ∀ (k9 i : Nat) (H : Heap) (locs : List Loc) (ls : Array Slot), i + k9 = 16 → Wd E A9 s9.heap ([(h, .inr (1, [.int 0, .int 0, .int 0, .ref q6, .ref q14, .ref q22, .ref q30, .ref q38]))] ++ [(q6, aI E 5 (fun _ => 0))] ++ [(q14, aI E 16 (l_fil (-1) (fun _ => 0) i))] ++ [(q22, aI E 16 (fun _ => 0))] ++ [(q30, aZ E 16 (fun _ => false))] ++ [(q38, aZ E 16 (fun _ => false))]) H locs → lv_has ls 2 [(0, .ref h), (1, .int (nI i))] → W p9 l e rm_X1_init s9 m args below meth c H locs 5 69 (EndC E A9 (fun (u : Nat → Nat) => u 0 = h) (fun (u : Nat → Nat) => wG E u G0) below args s9 (rm_X1_init).cells (rm_X1_init).slots) (F0 m 45 ls []) := by
    intro k9
    induction k9 with
    | zero =>
      intro i H locs ls hi hw hl
      have hz_1 : 16 = i := by omega
      refine lv_iload_n hx hb dX1_init_45 rfl (lv_at hl 1 rfl) ?_
      refine lv_aload_n hx hb dX1_init_46 rfl (lv_at hl 0 rfl) ?_
      refine k_get (ci := 1) (v := .ref q14) (C := RX1) (T := TX1) (N := 8) hx hb hown hK hw hts hinX1 0 rfl rfl 4 (by decide) hf15 rfl dX1_init_47 ?_
      refine k_lenI hx hb hK hw 2 rfl dX1_init_50 ?_
      refine lv_icmp_ge (tgt := 67) hx hb dX1_init_51 (by decide) (fun _ => ?_) (fun q8 => absurd (by rw [← hz_1]; exact Int32.le_refl _) q8)
      have hw : Wd E A9 s9.heap ([(h, .inr (1, [.int 0, .int 0, .int 0, .ref q6, .ref q14, .ref q22, .ref q30, .ref q38]))] ++ [(q6, aI E 5 (fun _ => 0))] ++ [(q14, aI E 16 (fun _ => -1))] ++ [(q22, aI E 16 (fun _ => 0))] ++ [(q30, aZ E 16 (fun _ => false))] ++ [(q38, aZ E 16 (fun _ => false))]) H _ := Wd.setI (w1 := [(h, .inr (1, [.int 0, .int 0, .int 0, .ref q6, .ref q14, .ref q22, .ref q30, .ref q38])), (q6, aI E 5 (fun _ => 0))]) (w2 := [(q22, aI E 16 (fun _ => 0)), (q30, aZ E 16 (fun _ => false)), (q38, aZ E 16 (fun _ => false))]) (q := q14) (n := 16) (f := (l_fil (-1) (fun _ => 0) i)) (g := (fun _ => -1)) hw (fun j hj => l_fil_in _ _ _ _ (by omega))
      refine W.widen (k := (rm_X1_init).cells) (n := (rm_X1_init).slots) (Nat.le_of_ble_eq_true rfl) (Nat.le_of_ble_eq_true rfl) ?_
      exact k_cret (ad6 h q6 q14 q22 q30 q38) hx hb hr hlocks hK hw dX1_init_67 rfl rfl
    | succ k9 ih_45 =>
      intro i H locs ls hi hw hl
      have hi9 : i < 16 := by omega
      refine lv_iload_n hx hb dX1_init_45 rfl (lv_at hl 1 rfl) ?_
      refine lv_aload_n hx hb dX1_init_46 rfl (lv_at hl 0 rfl) ?_
      refine k_get (ci := 1) (v := .ref q14) (C := RX1) (T := TX1) (N := 8) hx hb hown hK hw hts hinX1 0 rfl rfl 4 (by decide) hf15 rfl dX1_init_47 ?_
      refine k_lenI hx hb hK hw 2 rfl dX1_init_50 ?_
      refine lv_icmp_ge (tgt := 67) hx hb dX1_init_51 (by decide) (fun q8 => absurd q8 (nI_ge (a := i) (b := 16) (by omega) (by omega))) (fun _ => ?_)
      refine lv_aload_n hx hb dX1_init_54 rfl (lv_at hl 0 rfl) ?_
      refine k_get (ci := 1) (v := .ref q14) (C := RX1) (T := TX1) (N := 8) hx hb hown hK hw hts hinX1 0 rfl rfl 4 (by decide) hf15 rfl dX1_init_55 ?_
      refine lv_iload_n hx hb dX1_init_58 rfl (lv_at hl 1 rfl) ?_
      refine lv_iconst (v := (-1)) hx hb dX1_init_59 (by decide) ?_
      refine k_istN (i := i) (ws' := [(h, .inr (1, [.int 0, .int 0, .int 0, .ref q6, .ref q14, .ref q22, .ref q30, .ref q38]))] ++ [(q6, aI E 5 (fun _ => 0))] ++ [(q14, aI E 16 (upd (l_fil (-1) (fun _ => 0) i) i (-1)))] ++ [(q22, aI E 16 (fun _ => 0))] ++ [(q30, aZ E 16 (fun _ => false))] ++ [(q38, aZ E 16 (fun _ => false))]) hx hb hK hw 2 rfl (by omega) (by omega) dX1_init_60 rfl (fun H locs hw => ?_)
      refine lv_iinc (v := nI (i + 1)) (lv' := [(1, .int (nI (i + 1))), (0, .ref h)]) hx hb dX1_init_61 hl (k := 1) rfl (nI_add i 1) (by decide) rfl (fun ls hl => ?_)
      refine lv_goto (tgt := 45) hx hb dX1_init_64 (by decide) ?_
      exact ih_45 (i + 1) _ _ _ (by omega) (hw.to (by first | rfl | assumption | (simp only [if_true, if_false, Bool.false_eq_true, Bool.true_eq_false, reduceIte, reduceCtorEq]; done) | (simp only [if_true, if_false, Bool.false_eq_true, Bool.true_eq_false, reduceIte, reduceCtorEq]; rfl) | (simp [if_true, if_false, Bool.false_eq_true, Bool.true_eq_false, reduceIte, reduceCtorEq]; done) | (simp [bI, ]; done))) (lv_sub hl [1, 0] rfl)
  exact L_45 (16 - 0) 0 _ _ _ (by omega) hw (lv_sub hl [1, 0] rfl)
abbrev rm_X0_init : Room := { frames := 1, cells := 6, slots := 55, locals := 40 }
set_option maxHeartbeats 4000000 in
set_option maxRecDepth 100000 in
theorem c_X0_init (l : Launch) (E : Ev) (h b : Nat) : MC l E yX0_init wsX0_init rm_X0_init [.ref h, .ref b] ([(h, .inr (0, [.null, .null, .null, .null, .null, .null, .null, .int 0, .int 0, .int 0]))]) (fun (u : Nat → Nat) => u 0 = h) (fun (u : Nat → Nat) => wC E u b S0) := by
  refine k_bC (cc := cX0_init) (maxL := 3) (ret := none) (by decide) rfl (Nat.le_of_ble_eq_true rfl) ?_
  intro p9 e s9 m args below meth c A9 ls hC hin9 hl hw
  obtain ⟨hx, hb, hml, hr, hown, hts, hlocks, hK, hG, hA⟩ := hC
  have hq0 := hts (.methodLink RX0 3 objectInit) (List.mem_of_getElem? (i := 1) rfl)
  have hq1 := hts (.instanceMethod objectInit) (List.mem_of_getElem? (i := 2) rfl)
  have hq2 := hts (.code objectInit ⟨#[0xb1]⟩ 1 none) (List.mem_of_getElem? (i := 3) rfl)
  have hq3 := hts (.arrayClass .int) (List.mem_of_getElem? (i := 4) rfl)
  have hf9 := hts (.fieldLink RX0 9 "SailorCandles$Chapel" "stay" "[I") (List.mem_of_getElem? (i := 5) rfl)
  have hinX0 : ∀ w ∈ wsX00, w ∈ wsX0_init := fun w h => List.mem_cons_of_mem _ (List.mem_append_right _ h)
  have hf15 := hts (.fieldLink RX0 15 "SailorCandles$Chapel" "outFor" "[I") (List.mem_of_getElem? (i := 6) rfl)
  have hq7 := hts (.arrayClass .boolean) (List.mem_of_getElem? (i := 7) rfl)
  have hf18 := hts (.fieldLink RX0 18 "SailorCandles$Chapel" "rung" "[Z") (List.mem_of_getElem? (i := 8) rfl)
  have hf22 := hts (.fieldLink RX0 22 "SailorCandles$Chapel" "candle" "[I") (List.mem_of_getElem? (i := 9) rfl)
  have hf25 := hts (.fieldLink RX0 25 "SailorCandles$Chapel" "trust" "[I") (List.mem_of_getElem? (i := 10) rfl)
  have hf28 := hts (.fieldLink RX0 28 "SailorCandles$Chapel" "sightingAge" "[I") (List.mem_of_getElem? (i := 11) rfl)
  have hf31 := hts (.fieldLink RX0 31 "SailorCandles$Chapel" "harbour" "LSailorCandles$Harbour;") (List.mem_of_getElem? (i := 12) rfl)
  have hl : lv_has ls 3 [(0, .ref h), (1, .ref b)] := hl
  refine lv_aload_n hx hb dX0_init_0 rfl (lv_at hl 0 rfl) ?_
  refine W.objInit hx hb hown hq0 hq1 hq2 rfl (by rw [hml]; exact hl.1) rfl dX0_init_1 (Nat.le_of_ble_eq_true rfl) (Nat.le_of_ble_eq_true rfl) ?_
  refine W.eq (g2 := F0 m 4 ls []) rfl ?_
  refine lv_aload_n hx hb dX0_init_4 rfl (lv_at hl 0 rfl) ?_
  refine lv_iconst (v := 5) hx hb dX0_init_5 (by decide) ?_
  refine k_newI (N := 5) hx hb hq3 hK hw hA (by decide) (Nat.le_of_ble_eq_true rfl) (Nat.le_of_ble_eq_true rfl) dX0_init_6 (fun q6 H hw => ?_)
  have hw : Wd E A9 s9.heap ([(h, .inr (0, [.null, .null, .null, .null, .null, .null, .null, .int 0, .int 0, .int 0]))] ++ [(q6, aI E 5 (fun _ => 0))]) H _ := hw
  refine k_putF (ci := 0) (v := .ref q6) (C := RX0) (T := TX0) (N := 10) (ws' := [(h, .inr (0, [.null, .ref q6, .null, .null, .null, .null, .null, .int 0, .int 0, .int 0]))] ++ [(q6, aI E 5 (fun _ => 0))]) hx hb hown hK hw hts hinX0 tyX0 tyX0_ok nmX0 0 rfl rfl 1 (by decide) hf9 rfl hin9 rfl rfl rfl (Nat.le_of_ble_eq_true rfl) dX0_init_8 rfl (fun H locs hw => ?_)
  refine lv_aload_n hx hb dX0_init_11 rfl (lv_at hl 0 rfl) ?_
  refine lv_iconst (v := 5) hx hb dX0_init_12 (by decide) ?_
  refine k_newI (N := 5) hx hb hq3 hK hw hA (by decide) (Nat.le_of_ble_eq_true rfl) (Nat.le_of_ble_eq_true rfl) dX0_init_13 (fun q13 H hw => ?_)
  have hw : Wd E A9 s9.heap ([(h, .inr (0, [.null, .ref q6, .null, .null, .null, .null, .null, .int 0, .int 0, .int 0]))] ++ [(q6, aI E 5 (fun _ => 0))] ++ [(q13, aI E 5 (fun _ => 0))]) H _ := hw
  refine k_putF (ci := 0) (v := .ref q13) (C := RX0) (T := TX0) (N := 10) (ws' := [(h, .inr (0, [.null, .ref q6, .ref q13, .null, .null, .null, .null, .int 0, .int 0, .int 0]))] ++ [(q6, aI E 5 (fun _ => 0))] ++ [(q13, aI E 5 (fun _ => 0))]) hx hb hown hK hw hts hinX0 tyX0 tyX0_ok nmX0 0 rfl rfl 2 (by decide) hf15 rfl hin9 rfl rfl rfl (Nat.le_of_ble_eq_true rfl) dX0_init_15 rfl (fun H locs hw => ?_)
  refine lv_aload_n hx hb dX0_init_18 rfl (lv_at hl 0 rfl) ?_
  refine lv_iconst (v := 5) hx hb dX0_init_19 (by decide) ?_
  refine k_newZ (N := 5) hx hb hq7 hK hw hA (by decide) (Nat.le_of_ble_eq_true rfl) (Nat.le_of_ble_eq_true rfl) dX0_init_20 (fun q20 H hw => ?_)
  have hw : Wd E A9 s9.heap ([(h, .inr (0, [.null, .ref q6, .ref q13, .null, .null, .null, .null, .int 0, .int 0, .int 0]))] ++ [(q6, aI E 5 (fun _ => 0))] ++ [(q13, aI E 5 (fun _ => 0))] ++ [(q20, aZ E 5 (fun _ => false))]) H _ := hw
  refine k_putF (ci := 0) (v := .ref q20) (C := RX0) (T := TX0) (N := 10) (ws' := [(h, .inr (0, [.null, .ref q6, .ref q13, .ref q20, .null, .null, .null, .int 0, .int 0, .int 0]))] ++ [(q6, aI E 5 (fun _ => 0))] ++ [(q13, aI E 5 (fun _ => 0))] ++ [(q20, aZ E 5 (fun _ => false))]) hx hb hown hK hw hts hinX0 tyX0 tyX0_ok nmX0 0 rfl rfl 3 (by decide) hf18 rfl hin9 rfl rfl rfl (Nat.le_of_ble_eq_true rfl) dX0_init_22 rfl (fun H locs hw => ?_)
  refine lv_aload_n hx hb dX0_init_25 rfl (lv_at hl 0 rfl) ?_
  refine lv_bipush (v := 16) hx hb dX0_init_26 (by decide) ?_
  refine k_newI (N := 16) hx hb hq3 hK hw hA (by decide) (Nat.le_of_ble_eq_true rfl) (Nat.le_of_ble_eq_true rfl) dX0_init_28 (fun q28 H hw => ?_)
  have hw : Wd E A9 s9.heap ([(h, .inr (0, [.null, .ref q6, .ref q13, .ref q20, .null, .null, .null, .int 0, .int 0, .int 0]))] ++ [(q6, aI E 5 (fun _ => 0))] ++ [(q13, aI E 5 (fun _ => 0))] ++ [(q20, aZ E 5 (fun _ => false))] ++ [(q28, aI E 16 (fun _ => 0))]) H _ := hw
  refine k_putF (ci := 0) (v := .ref q28) (C := RX0) (T := TX0) (N := 10) (ws' := [(h, .inr (0, [.null, .ref q6, .ref q13, .ref q20, .ref q28, .null, .null, .int 0, .int 0, .int 0]))] ++ [(q6, aI E 5 (fun _ => 0))] ++ [(q13, aI E 5 (fun _ => 0))] ++ [(q20, aZ E 5 (fun _ => false))] ++ [(q28, aI E 16 (fun _ => 0))]) hx hb hown hK hw hts hinX0 tyX0 tyX0_ok nmX0 0 rfl rfl 4 (by decide) hf22 rfl hin9 rfl rfl rfl (Nat.le_of_ble_eq_true rfl) dX0_init_30 rfl (fun H locs hw => ?_)
  refine lv_aload_n hx hb dX0_init_33 rfl (lv_at hl 0 rfl) ?_
  refine lv_iconst (v := 4) hx hb dX0_init_34 (by decide) ?_
  refine k_newI (N := 4) hx hb hq3 hK hw hA (by decide) (Nat.le_of_ble_eq_true rfl) (Nat.le_of_ble_eq_true rfl) dX0_init_35 (fun q35 H hw => ?_)
  have hw : Wd E A9 s9.heap ([(h, .inr (0, [.null, .ref q6, .ref q13, .ref q20, .ref q28, .null, .null, .int 0, .int 0, .int 0]))] ++ [(q6, aI E 5 (fun _ => 0))] ++ [(q13, aI E 5 (fun _ => 0))] ++ [(q20, aZ E 5 (fun _ => false))] ++ [(q28, aI E 16 (fun _ => 0))] ++ [(q35, aI E 4 (fun _ => 0))]) H _ := hw
  refine k_putF (ci := 0) (v := .ref q35) (C := RX0) (T := TX0) (N := 10) (ws' := [(h, .inr (0, [.null, .ref q6, .ref q13, .ref q20, .ref q28, .ref q35, .null, .int 0, .int 0, .int 0]))] ++ [(q6, aI E 5 (fun _ => 0))] ++ [(q13, aI E 5 (fun _ => 0))] ++ [(q20, aZ E 5 (fun _ => false))] ++ [(q28, aI E 16 (fun _ => 0))] ++ [(q35, aI E 4 (fun _ => 0))]) hx hb hown hK hw hts hinX0 tyX0 tyX0_ok nmX0 0 rfl rfl 5 (by decide) hf25 rfl hin9 rfl rfl rfl (Nat.le_of_ble_eq_true rfl) dX0_init_37 rfl (fun H locs hw => ?_)
  refine lv_aload_n hx hb dX0_init_40 rfl (lv_at hl 0 rfl) ?_
  refine lv_bipush (v := 20) hx hb dX0_init_41 (by decide) ?_
  refine k_newI (N := 20) hx hb hq3 hK hw hA (by decide) (Nat.le_of_ble_eq_true rfl) (Nat.le_of_ble_eq_true rfl) dX0_init_43 (fun q43 H hw => ?_)
  have hw : Wd E A9 s9.heap ([(h, .inr (0, [.null, .ref q6, .ref q13, .ref q20, .ref q28, .ref q35, .null, .int 0, .int 0, .int 0]))] ++ [(q6, aI E 5 (fun _ => 0))] ++ [(q13, aI E 5 (fun _ => 0))] ++ [(q20, aZ E 5 (fun _ => false))] ++ [(q28, aI E 16 (fun _ => 0))] ++ [(q35, aI E 4 (fun _ => 0))] ++ [(q43, aI E 20 (fun _ => 0))]) H _ := hw
  refine k_putF (ci := 0) (v := .ref q43) (C := RX0) (T := TX0) (N := 10) (ws' := [(h, .inr (0, [.null, .ref q6, .ref q13, .ref q20, .ref q28, .ref q35, .ref q43, .int 0, .int 0, .int 0]))] ++ [(q6, aI E 5 (fun _ => 0))] ++ [(q13, aI E 5 (fun _ => 0))] ++ [(q20, aZ E 5 (fun _ => false))] ++ [(q28, aI E 16 (fun _ => 0))] ++ [(q35, aI E 4 (fun _ => 0))] ++ [(q43, aI E 20 (fun _ => 0))]) hx hb hown hK hw hts hinX0 tyX0 tyX0_ok nmX0 0 rfl rfl 6 (by decide) hf28 rfl hin9 rfl rfl rfl (Nat.le_of_ble_eq_true rfl) dX0_init_45 rfl (fun H locs hw => ?_)
  refine lv_aload_n hx hb dX0_init_48 rfl (lv_at hl 0 rfl) ?_
  refine lv_aload_n hx hb dX0_init_49 rfl (lv_at hl 1 rfl) ?_
  refine k_putF (ci := 0) (v := .ref b) (C := RX0) (T := TX0) (N := 10) (ws' := [(h, .inr (0, [.ref b, .ref q6, .ref q13, .ref q20, .ref q28, .ref q35, .ref q43, .int 0, .int 0, .int 0]))] ++ [(q6, aI E 5 (fun _ => 0))] ++ [(q13, aI E 5 (fun _ => 0))] ++ [(q20, aZ E 5 (fun _ => false))] ++ [(q28, aI E 16 (fun _ => 0))] ++ [(q35, aI E 4 (fun _ => 0))] ++ [(q43, aI E 20 (fun _ => 0))]) hx hb hown hK hw hts hinX0 tyX0 tyX0_ok nmX0 0 rfl rfl 0 (by decide) hf31 rfl hin9 rfl rfl rfl (Nat.le_of_ble_eq_true rfl) dX0_init_50 rfl (fun H locs hw => ?_)
  refine lv_iconst (v := 0) hx hb dX0_init_53 (by decide) ?_
  refine lv_istore_n (lv' := [(2, .int 0), (0, .ref h), (1, .ref b)]) hx hb dX0_init_54 rfl hl (by decide) rfl (fun ls hl => ?_)
  have L_55 : ∀ (k9 i : Nat) (H : Heap) (locs : List Loc) (ls : Array Slot), i + k9 = 20 → Wd E A9 s9.heap ([(h, .inr (0, [.ref b, .ref q6, .ref q13, .ref q20, .ref q28, .ref q35, .ref q43, .int 0, .int 0, .int 0]))] ++ [(q6, aI E 5 (fun _ => 0))] ++ [(q13, aI E 5 (fun _ => 0))] ++ [(q20, aZ E 5 (fun _ => false))] ++ [(q28, aI E 16 (fun _ => 0))] ++ [(q35, aI E 4 (fun _ => 0))] ++ [(q43, aI E 20 (l_fil (-1) (fun _ => 0) i))]) H locs → lv_has ls 3 [(0, .ref h), (1, .ref b), (2, .int (nI i))] → W p9 l e rm_X0_init s9 m args below meth c H locs 6 55 (EndC E A9 (fun (u : Nat → Nat) => u 0 = h) (fun (u : Nat → Nat) => wC E u b S0) below args s9 (rm_X0_init).cells (rm_X0_init).slots) (F0 m 55 ls []) := by
    intro k9
    induction k9 with
    | zero =>
      intro i H locs ls hi hw hl
      have hz_1 : 20 = i := by omega
      refine lv_iload_n hx hb dX0_init_55 rfl (lv_at hl 2 rfl) ?_
      refine lv_aload_n hx hb dX0_init_56 rfl (lv_at hl 0 rfl) ?_
      refine k_get (ci := 0) (v := .ref q43) (C := RX0) (T := TX0) (N := 10) hx hb hown hK hw hts hinX0 0 rfl rfl 6 (by decide) hf28 rfl dX0_init_57 ?_
      refine k_lenI hx hb hK hw 6 rfl dX0_init_60 ?_
      refine lv_icmp_ge (tgt := 77) hx hb dX0_init_61 (by decide) (fun _ => ?_) (fun q8 => absurd (by rw [← hz_1]; exact Int32.le_refl _) q8)
      have hw : Wd E A9 s9.heap ([(h, .inr (0, [.ref b, .ref q6, .ref q13, .ref q20, .ref q28, .ref q35, .ref q43, .int 0, .int 0, .int 0]))] ++ [(q6, aI E 5 (fun _ => 0))] ++ [(q13, aI E 5 (fun _ => 0))] ++ [(q20, aZ E 5 (fun _ => false))] ++ [(q28, aI E 16 (fun _ => 0))] ++ [(q35, aI E 4 (fun _ => 0))] ++ [(q43, aI E 20 (fun _ => -1))]) H _ := Wd.setI (w1 := [(h, .inr (0, [.ref b, .ref q6, .ref q13, .ref q20, .ref q28, .ref q35, .ref q43, .int 0, .int 0, .int 0])), (q6, aI E 5 (fun _ => 0)), (q13, aI E 5 (fun _ => 0)), (q20, aZ E 5 (fun _ => false)), (q28, aI E 16 (fun _ => 0)), (q35, aI E 4 (fun _ => 0))]) (w2 := []) (q := q43) (n := 20) (f := (l_fil (-1) (fun _ => 0) i)) (g := (fun _ => -1)) hw (fun j hj => l_fil_in _ _ _ _ (by omega))
      refine W.widen (k := (rm_X0_init).cells) (n := (rm_X0_init).slots) (Nat.le_of_ble_eq_true rfl) (Nat.le_of_ble_eq_true rfl) ?_
      exact k_cret (ad7 h q6 q13 q20 q28 q35 q43) hx hb hr hlocks hK hw dX0_init_77 rfl rfl
    | succ k9 ih_55 =>
      intro i H locs ls hi hw hl
      have hi9 : i < 20 := by omega
      refine lv_iload_n hx hb dX0_init_55 rfl (lv_at hl 2 rfl) ?_
      refine lv_aload_n hx hb dX0_init_56 rfl (lv_at hl 0 rfl) ?_
      refine k_get (ci := 0) (v := .ref q43) (C := RX0) (T := TX0) (N := 10) hx hb hown hK hw hts hinX0 0 rfl rfl 6 (by decide) hf28 rfl dX0_init_57 ?_
      refine k_lenI hx hb hK hw 6 rfl dX0_init_60 ?_
      refine lv_icmp_ge (tgt := 77) hx hb dX0_init_61 (by decide) (fun q8 => absurd q8 (nI_ge (a := i) (b := 20) (by omega) (by omega))) (fun _ => ?_)
      refine lv_aload_n hx hb dX0_init_64 rfl (lv_at hl 0 rfl) ?_
      refine k_get (ci := 0) (v := .ref q43) (C := RX0) (T := TX0) (N := 10) hx hb hown hK hw hts hinX0 0 rfl rfl 6 (by decide) hf28 rfl dX0_init_65 ?_
      refine lv_iload_n hx hb dX0_init_68 rfl (lv_at hl 2 rfl) ?_
      refine lv_iconst (v := (-1)) hx hb dX0_init_69 (by decide) ?_
      refine k_istN (i := i) (ws' := [(h, .inr (0, [.ref b, .ref q6, .ref q13, .ref q20, .ref q28, .ref q35, .ref q43, .int 0, .int 0, .int 0]))] ++ [(q6, aI E 5 (fun _ => 0))] ++ [(q13, aI E 5 (fun _ => 0))] ++ [(q20, aZ E 5 (fun _ => false))] ++ [(q28, aI E 16 (fun _ => 0))] ++ [(q35, aI E 4 (fun _ => 0))] ++ [(q43, aI E 20 (upd (l_fil (-1) (fun _ => 0) i) i (-1)))]) hx hb hK hw 6 rfl (by omega) (by omega) dX0_init_70 rfl (fun H locs hw => ?_)
      refine lv_iinc (v := nI (i + 1)) (lv' := [(2, .int (nI (i + 1))), (0, .ref h), (1, .ref b)]) hx hb dX0_init_71 hl (k := 2) rfl (nI_add i 1) (by decide) rfl (fun ls hl => ?_)
      refine lv_goto (tgt := 55) hx hb dX0_init_74 (by decide) ?_
      exact ih_55 (i + 1) _ _ _ (by omega) (hw.to (by first | rfl | assumption | (simp only [if_true, if_false, Bool.false_eq_true, Bool.true_eq_false, reduceIte, reduceCtorEq]; done) | (simp only [if_true, if_false, Bool.false_eq_true, Bool.true_eq_false, reduceIte, reduceCtorEq]; rfl) | (simp [if_true, if_false, Bool.false_eq_true, Bool.true_eq_false, reduceIte, reduceCtorEq]; done) | (simp [bI, ]; done))) (lv_sub hl [1, 2, 0] rfl)
  exact L_55 (20 - 0) 0 _ _ _ (by omega) hw (lv_sub hl [1, 2, 0] rfl)
abbrev rm_X2_init : Room := { frames := 2, cells := 20, slots := 207, locals := 62 }
set_option maxHeartbeats 4000000 in
set_option maxRecDepth 100000 in
theorem c_X2_init (l : Launch) (E : Ev) (h : Nat) : MC l E yX2_init wsX2_init rm_X2_init [.ref h] ([(h, .inr (2, [.null, .null, .null]))]) (fun (u : (Nat → Nat) × (Nat → Nat) × (Nat → Nat)) => True) (fun (u : (Nat → Nat) × (Nat → Nat) × (Nat → Nat)) => wX h u.1 u.2.1 u.2.2 ++ wC E u.1 (u.2.2 0) S0 ++ wC E u.2.1 (u.2.2 0) S0 ++ wG E u.2.2 G0) := by
  refine k_bC (cc := cX2_init) (maxL := 2) (ret := none) (by decide) rfl (Nat.le_of_ble_eq_true rfl) ?_
  intro p9 e s9 m args below meth c A9 ls hC hin9 hl hw
  obtain ⟨hx, hb, hml, hr, hown, hts, hlocks, hK, hG, hA⟩ := hC
  have hq0 := hts (.methodLink RX2 1 objectInit) (List.mem_of_getElem? (i := 1) rfl)
  have hq1 := hts (.instanceMethod objectInit) (List.mem_of_getElem? (i := 2) rfl)
  have hq2 := hts (.code objectInit ⟨#[0xb1]⟩ 1 none) (List.mem_of_getElem? (i := 3) rfl)
  have hinX1 : ∀ w ∈ wsX10, w ∈ wsX2_init := fun w h => List.mem_cons_of_mem _ (List.mem_append_left _ (List.mem_append_left _ (List.mem_append_right _ h)))
  have hq4 := hts (.classLink RX2 7 RX1) (List.mem_of_getElem? (i := 4) rfl)
  have hq5 := hts (.instantiable RX1 8) (List.mem_of_getElem? (i := 5) rfl)
  have hq6 := hts (.initialized RX1) (List.mem_of_getElem? (i := 6) rfl)
  have hq7 := hts (.methodLink RX2 9 yX1_init) (List.mem_of_getElem? (i := 13) rfl)
  have hq8 := hts (.instanceMethod yX1_init) (List.mem_of_getElem? (i := 14) rfl)
  have hf10 := hts (.fieldLink RX2 10 "SailorCandles" "harbour" "LSailorCandles$Harbour;") (List.mem_of_getElem? (i := 7) rfl)
  have hinX2 : ∀ w ∈ wsX20, w ∈ wsX2_init := fun w h => List.mem_cons_of_mem _ (List.mem_append_left _ (List.mem_append_right _ h))
  have hinX0 : ∀ w ∈ wsX00, w ∈ wsX2_init := fun w h => List.mem_cons_of_mem _ (List.mem_append_right _ h)
  have hq12 := hts (.classLink RX2 16 RX0) (List.mem_of_getElem? (i := 8) rfl)
  have hq13 := hts (.instantiable RX0 10) (List.mem_of_getElem? (i := 9) rfl)
  have hq14 := hts (.initialized RX0) (List.mem_of_getElem? (i := 10) rfl)
  have hq15 := hts (.methodLink RX2 18 yX0_init) (List.mem_of_getElem? (i := 24) rfl)
  have hq16 := hts (.instanceMethod yX0_init) (List.mem_of_getElem? (i := 25) rfl)
  have hf21 := hts (.fieldLink RX2 21 "SailorCandles" "now" "LSailorCandles$Chapel;") (List.mem_of_getElem? (i := 11) rfl)
  have hf25 := hts (.fieldLink RX2 25 "SailorCandles" "trial" "LSailorCandles$Chapel;") (List.mem_of_getElem? (i := 12) rfl)
  have hl : lv_has ls 2 [(0, .ref h)] := hl
  refine lv_aload_n hx hb dX2_init_0 rfl (lv_at hl 0 rfl) ?_
  refine W.objInit hx hb hown hq0 hq1 hq2 rfl (by rw [hml]; exact hl.1) rfl dX2_init_1 (Nat.le_of_ble_eq_true rfl) (Nat.le_of_ble_eq_true rfl) ?_
  refine W.eq (g2 := F0 m 4 ls []) rfl ?_
  refine k_new (ci := 1) (fs := [.int 0, .int 0, .int 0, .null, .null, .null, .null, .null]) (C := RX1) (T := TX1) (N := 8) hx hb hown hK hw hA hts hinX1 tyX1 tyX1_ok hq4 hq5 hq6 rfl (fun j hj => by rcases (show j = 0 ∨ j = 1 ∨ j = 2 ∨ j = 3 ∨ j = 4 ∨ j = 5 ∨ j = 6 ∨ j = 7 by omega) with rfl | rfl | rfl | rfl | rfl | rfl | rfl | rfl <;> rfl) (Nat.le_of_ble_eq_true rfl) (Nat.le_of_ble_eq_true rfl) dX2_init_4 (fun q4 H hw => ?_)
  have hw : Wd E A9 s9.heap ([(h, .inr (2, [.null, .null, .null]))] ++ [(q4, .inr (1, [.int 0, .int 0, .int 0, .null, .null, .null, .null, .null]))]) H _ := hw
  refine lv_dup hx hb dX2_init_7 rfl ?_
  have hn8 : Rn ([(h, .inr (2, [.null, .null, .null]))] ++ [(q4, .inr (1, [.int 0, .int 0, .int 0, .null, .null, .null, .null, .null]))]) ([(q4, .inr (1, [.int 0, .int 0, .int 0, .null, .null, .null, .null, .null]))]) ([(h, .inr (2, [.null, .null, .null]))]) := perm9 (fun a => by simp only [cnt9_app, cnt9_cons, cnt9_nil] <;> omega)
  refine kr_new (va_runI (As := []) (rest := [.ref q4]) ⟨hx, hb, hml, hown, hts⟩ (c_X1_init l E q4 _) (cwI 0 hts gX2_init_X1_init rfl rfl rfl hq6 hq7 hq8 rfl (by decide +kernel) ⟨Nat.le_of_ble_eq_true rfl, Nat.le_of_ble_eq_true rfl⟩) (rpS (AV := [.ref q4]) hw hK hG hn8.rp) rfl rfl hl.1 rfl (lv_room (Nat.le_of_ble_eq_true rfl)) dX2_init_8 ⟨Nat.le_of_ble_eq_true rfl, Nat.le_of_ble_eq_true rfl⟩) hw hA hn8 (fun B8 H locs hk8 hw8 => ?_)
  have hk8 : q4 = B8 0 := hk8.symm
  subst hk8
  have hw : Wd E A9 s9.heap (wG E B8 G0 ++ [(h, .inr (2, [.null, .null, .null]))]) H _ := Wd.perm hw8 (perm9 (fun a => by simp only [cnt9_app, cnt9_cons, cnt9_nil] <;> omega))
  refine lv_astore_n (lv' := [(1, .ref (B8 0)), (0, .ref h)]) hx hb dX2_init_11 rfl hl (by decide) rfl (fun ls hl => ?_)
  refine lv_aload_n hx hb dX2_init_12 rfl (lv_at hl 1 rfl) ?_
  refine lv_aload_n hx hb dX2_init_13 rfl (lv_at hl 0 rfl) ?_
  refine k_putF (ci := 2) (v := .ref (B8 0)) (C := RX2) (T := TX2) (N := 3) (ws' := wG E B8 G0 ++ [(h, .inr (2, [.ref (B8 0), .null, .null]))]) hx hb hown hK hw hts hinX2 tyX2 tyX2_ok nmX2 6 rfl rfl 0 (by decide) hf10 rfl hin9 rfl rfl rfl (Nat.le_of_ble_eq_true rfl) dX2_init_14 rfl (fun H locs hw => ?_)
  refine lv_aload_n hx hb dX2_init_17 rfl (lv_at hl 1 rfl) ?_
  refine k_new (ci := 0) (fs := [.null, .null, .null, .null, .null, .null, .null, .int 0, .int 0, .int 0]) (C := RX0) (T := TX0) (N := 10) hx hb hown hK hw hA hts hinX0 tyX0 tyX0_ok hq12 hq13 hq14 rfl (fun j hj => by rcases (show j = 0 ∨ j = 1 ∨ j = 2 ∨ j = 3 ∨ j = 4 ∨ j = 5 ∨ j = 6 ∨ j = 7 ∨ j = 8 ∨ j = 9 by omega) with rfl | rfl | rfl | rfl | rfl | rfl | rfl | rfl | rfl | rfl <;> rfl) (Nat.le_of_ble_eq_true rfl) (Nat.le_of_ble_eq_true rfl) dX2_init_18 (fun q18 H hw => ?_)
  have hw : Wd E A9 s9.heap (wG E B8 G0 ++ [(h, .inr (2, [.ref (B8 0), .null, .null]))] ++ [(q18, .inr (0, [.null, .null, .null, .null, .null, .null, .null, .int 0, .int 0, .int 0]))]) H _ := hw
  refine lv_dup hx hb dX2_init_21 rfl ?_
  refine lv_aload_n hx hb dX2_init_22 rfl (lv_at hl 0 rfl) ?_
  have hn23 : Rn (wG E B8 G0 ++ [(h, .inr (2, [.ref (B8 0), .null, .null]))] ++ [(q18, .inr (0, [.null, .null, .null, .null, .null, .null, .null, .int 0, .int 0, .int 0]))]) ([(q18, .inr (0, [.null, .null, .null, .null, .null, .null, .null, .int 0, .int 0, .int 0]))]) (wG E B8 G0 ++ [(h, .inr (2, [.ref (B8 0), .null, .null]))]) := perm9 (fun a => by simp only [cnt9_app, cnt9_cons, cnt9_nil] <;> omega)
  refine kr_new (va_runI (As := [.ref (B8 0)]) (rest := [.ref q18, .ref h]) ⟨hx, hb, hml, hown, hts⟩ (c_X0_init l E q18 (B8 0) _) (cwI 1 hts gX2_init_X0_init rfl rfl rfl hq14 hq15 hq16 rfl (by decide +kernel) ⟨Nat.le_of_ble_eq_true rfl, Nat.le_of_ble_eq_true rfl⟩) (rpS (AV := [.ref q18, .ref (B8 0)]) hw hK hG hn23.rp) rfl rfl hl.1 rfl (lv_room (Nat.le_of_ble_eq_true rfl)) dX2_init_23 ⟨Nat.le_of_ble_eq_true rfl, Nat.le_of_ble_eq_true rfl⟩) hw hA hn23 (fun B23 H locs hk23 hw23 => ?_)
  have hk23 : q18 = B23 0 := hk23.symm
  subst hk23
  have hw : Wd E A9 s9.heap (wC E B23 (B8 0) S0 ++ wG E B8 G0 ++ [(h, .inr (2, [.ref (B8 0), .null, .null]))]) H _ := Wd.perm hw23 (perm9 (fun a => by simp only [cnt9_app, cnt9_cons, cnt9_nil] <;> omega))
  refine k_putF (ci := 2) (v := .ref (B23 0)) (C := RX2) (T := TX2) (N := 3) (ws' := wC E B23 (B8 0) S0 ++ wG E B8 G0 ++ [(h, .inr (2, [.ref (B8 0), .ref (B23 0), .null]))]) hx hb hown hK hw hts hinX2 tyX2 tyX2_ok nmX2 13 rfl rfl 1 (by decide) hf21 rfl hin9 rfl rfl rfl (Nat.le_of_ble_eq_true rfl) dX2_init_26 rfl (fun H locs hw => ?_)
  refine lv_aload_n hx hb dX2_init_29 rfl (lv_at hl 1 rfl) ?_
  refine k_new (ci := 0) (fs := [.null, .null, .null, .null, .null, .null, .null, .int 0, .int 0, .int 0]) (C := RX0) (T := TX0) (N := 10) hx hb hown hK hw hA hts hinX0 tyX0 tyX0_ok hq12 hq13 hq14 rfl (fun j hj => by rcases (show j = 0 ∨ j = 1 ∨ j = 2 ∨ j = 3 ∨ j = 4 ∨ j = 5 ∨ j = 6 ∨ j = 7 ∨ j = 8 ∨ j = 9 by omega) with rfl | rfl | rfl | rfl | rfl | rfl | rfl | rfl | rfl | rfl <;> rfl) (Nat.le_of_ble_eq_true rfl) (Nat.le_of_ble_eq_true rfl) dX2_init_30 (fun q30 H hw => ?_)
  have hw : Wd E A9 s9.heap (wC E B23 (B8 0) S0 ++ wG E B8 G0 ++ [(h, .inr (2, [.ref (B8 0), .ref (B23 0), .null]))] ++ [(q30, .inr (0, [.null, .null, .null, .null, .null, .null, .null, .int 0, .int 0, .int 0]))]) H _ := hw
  refine lv_dup hx hb dX2_init_33 rfl ?_
  refine lv_aload_n hx hb dX2_init_34 rfl (lv_at hl 0 rfl) ?_
  have hn35 : Rn (wC E B23 (B8 0) S0 ++ wG E B8 G0 ++ [(h, .inr (2, [.ref (B8 0), .ref (B23 0), .null]))] ++ [(q30, .inr (0, [.null, .null, .null, .null, .null, .null, .null, .int 0, .int 0, .int 0]))]) ([(q30, .inr (0, [.null, .null, .null, .null, .null, .null, .null, .int 0, .int 0, .int 0]))]) (wC E B23 (B8 0) S0 ++ wG E B8 G0 ++ [(h, .inr (2, [.ref (B8 0), .ref (B23 0), .null]))]) := perm9 (fun a => by simp only [cnt9_app, cnt9_cons, cnt9_nil] <;> omega)
  refine kr_new (va_runI (As := [.ref (B8 0)]) (rest := [.ref q30, .ref h]) ⟨hx, hb, hml, hown, hts⟩ (c_X0_init l E q30 (B8 0) _) (cwI 1 hts gX2_init_X0_init rfl rfl rfl hq14 hq15 hq16 rfl (by decide +kernel) ⟨Nat.le_of_ble_eq_true rfl, Nat.le_of_ble_eq_true rfl⟩) (rpS (AV := [.ref q30, .ref (B8 0)]) hw hK hG hn35.rp) rfl rfl hl.1 rfl (lv_room (Nat.le_of_ble_eq_true rfl)) dX2_init_35 ⟨Nat.le_of_ble_eq_true rfl, Nat.le_of_ble_eq_true rfl⟩) hw hA hn35 (fun B35 H locs hk35 hw35 => ?_)
  have hk35 : q30 = B35 0 := hk35.symm
  subst hk35
  have hw : Wd E A9 s9.heap (wC E B35 (B8 0) S0 ++ wC E B23 (B8 0) S0 ++ wG E B8 G0 ++ [(h, .inr (2, [.ref (B8 0), .ref (B23 0), .null]))]) H _ := Wd.perm hw35 (perm9 (fun a => by simp only [cnt9_app, cnt9_cons, cnt9_nil] <;> omega))
  refine k_putF (ci := 2) (v := .ref (B35 0)) (C := RX2) (T := TX2) (N := 3) (ws' := wC E B35 (B8 0) S0 ++ wC E B23 (B8 0) S0 ++ wG E B8 G0 ++ [(h, .inr (2, [.ref (B8 0), .ref (B23 0), .ref (B35 0)]))]) hx hb hown hK hw hts hinX2 tyX2 tyX2_ok nmX2 20 rfl rfl 2 (by decide) hf25 rfl hin9 rfl rfl rfl (Nat.le_of_ble_eq_true rfl) dX2_init_38 rfl (fun H locs hw => ?_)
  have hw : Wd E A9 s9.heap (wX h B23 B35 B8 ++ wC E B23 (B8 0) S0 ++ wC E B35 (B8 0) S0 ++ wG E B8 G0) H _ := Wd.perm hw (perm9 (fun a => by simp only [wX, cnt9_app, cnt9_cons, cnt9_nil] <;> omega))
  refine W.widen (k := (rm_X2_init).cells) (n := (rm_X2_init).slots) (Nat.le_of_ble_eq_true rfl) (Nat.le_of_ble_eq_true rfl) ?_
  exact k_cret (B23, B35, B8) hx hb hr hlocks hK hw dX2_init_41 trivial rfl
