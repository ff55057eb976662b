abbrev rm_X2_nightsUntilDark : Room := { frames := 5, cells := 0, slots := 0, locals := 110 }
set_option maxHeartbeats 4000000 in
set_option maxRecDepth 100000 in
theorem c_X2_nightsUntilDark (l : Launch) (E : Ev) (x : Nat) (A T B : Nat → Nat) (S U : CS) (G : HS) : MIE l E yX2_nightsUntilDark wsX2_nightsUntilDark rm_X2_nightsUntilDark [.ref x] (wX x A T B ++ wC E A (B 0) S ++ wC E T (B 0) U ++ wG E B G) (f_untilD G S) (fun U9 => wX x A T B ++ wC E A (B 0) S ++ wC E T (B 0) U9 ++ wG E B G) := by
  refine k_bIE (cc := cX2_nightsUntilDark) (maxL := 2) (ret := (some .int)) (by decide) rfl (Nat.le_of_ble_eq_true rfl) ?_
  intro p9 e s9 m args below meth c A9 ls hC hl hw
  obtain ⟨hx, hb, hml, hr, hown, hts, hlocks, hK, hG, hA⟩ := hC
  have hf25 := hts (.fieldLink RX2 25 "SailorCandles" "trial" "LSailorCandles$Chapel;") (List.mem_of_getElem? (i := 1) rfl)
  have hinX2 : ∀ w ∈ wsX20, w ∈ wsX2_nightsUntilDark := fun w h => List.mem_cons_of_mem _ (List.mem_append_left _ (List.mem_append_left _ (List.mem_append_right _ h)))
  have hf21 := hts (.fieldLink RX2 21 "SailorCandles" "now" "LSailorCandles$Chapel;") (List.mem_of_getElem? (i := 2) rfl)
  have hl : lv_has ls 2 [(0, .ref x)] := hl
  refine lv_aload_n hx hb dX2_nightsUntilDark_0 rfl (lv_at hl 0 rfl) ?_
  refine k_get (ci := 2) (v := .ref (T 0)) (C := RX2) (T := TX2) (N := 3) hx hb hown hK hw hts hinX2 0 rfl rfl 2 (by decide) hf25 rfl dX2_nightsUntilDark_1 ?_
  refine lv_aload_n hx hb dX2_nightsUntilDark_4 rfl (lv_at hl 0 rfl) ?_
  refine k_get (ci := 2) (v := .ref (A 0)) (C := RX2) (T := TX2) (N := 3) hx hb hown hK hw hts hinX2 0 rfl rfl 1 (by decide) hf21 rfl dX2_nightsUntilDark_5 ?_
  refine kr_v (ws' := wX x A T B ++ wC E A (B 0) S ++ wC E T (B 0) S ++ wG E B G) (va_runV (As := [.ref (A 0)]) (rest := []) ⟨hx, hb, hml, hown, hts⟩ (c_X0_copyFrom l E T A (B 0) (B 0) U S  _) (cwV 1 hts gX2_nightsUntilDark_X0_copyFrom rfl rfl rfl ⟨rfl, hd_X0_copyFrom⟩ ⟨Nat.le_of_ble_eq_true rfl, Nat.le_of_ble_eq_true rfl⟩) (pwV (ci := 0) (q0 := 8) (C := RX0) hw hK rfl rfl rfl (rpS (AV := [.ref (T 0), .ref (A 0)]) hw hK hG rp_69)) rfl rfl hl.1 rfl (lv_room (Nat.le_of_ble_eq_true rfl)) dX2_nightsUntilDark_8 ⟨Nat.le_of_ble_eq_true rfl, Nat.le_of_ble_eq_true rfl⟩) hw hA rp_68 (fun H locs hw => ?_)
  refine lv_iconst (v := 0) hx hb dX2_nightsUntilDark_11 (by decide) ?_
  refine lv_istore_n (lv' := [(1, .int 0), (0, .ref x)]) hx hb dX2_nightsUntilDark_12 rfl hl (by decide) rfl (fun ls hl => ?_)
  have L_13 : ∀ (k9 i : Nat) (H : Heap) (locs : List Loc) (ls : Array Slot), i + k9 = 200 → (∀ j, j < i → f_isDk G S j = false) → Wd E A9 s9.heap (wX x A T B ++ wC E A (B 0) S ++ wC E T (B 0) (l_passS G S i) ++ wG E B G) H locs → lv_has ls 2 [(0, .ref x), (1, .int (nI i))] → W p9 l e rm_X2_nightsUntilDark s9 m args below meth c H locs 0 0 (EndIE E A9 (f_untilD G S) (fun U9 => wX x A T B ++ wC E A (B 0) S ++ wC E T (B 0) U9 ++ wG E B G) below args s9 (rm_X2_nightsUntilDark).cells (rm_X2_nightsUntilDark).slots) (F0 m 13 ls []) := by
    intro k9
    induction k9 with
    | zero =>
      intro i H locs ls hi hno hw hl
      have hz_1 : 200 = i := by omega
      refine lv_iload_n hx hb dX2_nightsUntilDark_13 rfl (lv_at hl 1 rfl) ?_
      refine lv_sipush (v := 200) hx hb dX2_nightsUntilDark_14 (by decide) ?_
      refine lv_icmp_ge (tgt := 46) hx hb dX2_nightsUntilDark_17 (by decide) (fun _ => ?_) (fun q8 => absurd (by rw [← hz_1]; exact Int32.le_refl _) q8)
      refine lv_aload_n hx hb dX2_nightsUntilDark_46 rfl (lv_at hl 0 rfl) ?_
      refine k_get (ci := 2) (v := .ref (T 0)) (C := RX2) (T := TX2) (N := 3) hx hb hown hK hw hts hinX2 0 rfl rfl 2 (by decide) hf25 rfl dX2_nightsUntilDark_47 ?_
      refine kr_i (ws' := wX x A T B ++ wC E A (B 0) S ++ wC E T (B 0) (l_passS G S i) ++ wG E B G) (va_runV (As := []) (rest := []) ⟨hx, hb, hml, hown, hts⟩ (c_X0_darkCount l E T B (l_passS G S i) G  _) (cwV 0 hts gX2_nightsUntilDark_X0_darkCount rfl rfl rfl ⟨rfl, hd_X0_darkCount⟩ ⟨Nat.le_of_ble_eq_true rfl, Nat.le_of_ble_eq_true rfl⟩) (pwV (ci := 0) (q0 := 8) (C := RX0) hw hK rfl rfl rfl (rpS (AV := [.ref (T 0)]) hw hK hG rp_70)) rfl rfl hl.1 rfl (lv_room (Nat.le_of_ble_eq_true rfl)) dX2_nightsUntilDark_50 ⟨Nat.le_of_ble_eq_true rfl, Nat.le_of_ble_eq_true rfl⟩) hw hA rp_70 (fun H locs hw => ?_)
      refine lv_if_le (tgt := 62) hx hb dX2_nightsUntilDark_53 (by decide) (fun c_2 => ?_) (fun c_2 => ?_)
      · refine lv_iconst (v := (-1)) hx hb dX2_nightsUntilDark_62 (by decide) ?_
        exact k_ieret (l_passS G S i) hx hb hr hlocks hK hw rfl dX2_nightsUntilDark_63 (by subst hz_1; first | (rw [f_untilD, l_first_at _ 200 hno (isDk_t c_2) 201 (by omega), if_pos (by omega)]; first | done | rfl) | (rw [f_untilD, l_first_no _ 201 (fun j hj => by rcases Nat.lt_or_ge j 200 with q | q; exact hno j q; have e9 : j = 200 := (by omega); subst e9; exact isDk_f c_2), if_neg (by omega)]; done)) rfl
      · refine lv_sipush (v := 200) hx hb dX2_nightsUntilDark_56 (by decide) ?_
        refine lv_goto (tgt := 63) hx hb dX2_nightsUntilDark_59 (by decide) ?_
        exact k_ieret (l_passS G S i) hx hb hr hlocks hK hw rfl dX2_nightsUntilDark_63 (by subst hz_1; first | (rw [f_untilD, l_first_at _ 200 hno (isDk_t c_2) 201 (by omega), if_pos (by omega)]; first | done | rfl) | (rw [f_untilD, l_first_no _ 201 (fun j hj => by rcases Nat.lt_or_ge j 200 with q | q; exact hno j q; have e9 : j = 200 := (by omega); subst e9; exact isDk_f c_2), if_neg (by omega)]; done)) rfl
    | succ k9 ih_13 =>
      intro i H locs ls hi hno hw hl
      have hi9 : i < 200 := by omega
      refine lv_iload_n hx hb dX2_nightsUntilDark_13 rfl (lv_at hl 1 rfl) ?_
      refine lv_sipush (v := 200) hx hb dX2_nightsUntilDark_14 (by decide) ?_
      refine lv_icmp_ge (tgt := 46) hx hb dX2_nightsUntilDark_17 (by decide) (fun q8 => absurd q8 (nI_ge (a := i) (b := 200) (by omega) (by omega))) (fun _ => ?_)
      refine lv_aload_n hx hb dX2_nightsUntilDark_20 rfl (lv_at hl 0 rfl) ?_
      refine k_get (ci := 2) (v := .ref (T 0)) (C := RX2) (T := TX2) (N := 3) hx hb hown hK hw hts hinX2 0 rfl rfl 2 (by decide) hf25 rfl dX2_nightsUntilDark_21 ?_
      refine kr_i (ws' := wX x A T B ++ wC E A (B 0) S ++ wC E T (B 0) (l_passS G S i) ++ wG E B G) (va_runV (As := []) (rest := []) ⟨hx, hb, hml, hown, hts⟩ (c_X0_darkCount l E T B (l_passS G S i) G  _) (cwV 0 hts gX2_nightsUntilDark_X0_darkCount rfl rfl rfl ⟨rfl, hd_X0_darkCount⟩ ⟨Nat.le_of_ble_eq_true rfl, Nat.le_of_ble_eq_true rfl⟩) (pwV (ci := 0) (q0 := 8) (C := RX0) hw hK rfl rfl rfl (rpS (AV := [.ref (T 0)]) hw hK hG rp_70)) rfl rfl hl.1 rfl (lv_room (Nat.le_of_ble_eq_true rfl)) dX2_nightsUntilDark_24 ⟨Nat.le_of_ble_eq_true rfl, Nat.le_of_ble_eq_true rfl⟩) hw hA rp_70 (fun H locs hw => ?_)
      refine lv_if_le (tgt := 32) hx hb dX2_nightsUntilDark_27 (by decide) (fun c_3 => ?_) (fun c_3 => ?_)
      · refine lv_aload_n hx hb dX2_nightsUntilDark_32 rfl (lv_at hl 0 rfl) ?_
        refine k_get (ci := 2) (v := .ref (T 0)) (C := RX2) (T := TX2) (N := 3) hx hb hown hK hw hts hinX2 0 rfl rfl 2 (by decide) hf25 rfl dX2_nightsUntilDark_33 ?_
        refine kr_i (ws' := wX x A T B ++ wC E A (B 0) S ++ wC E T (B 0) (f_night G (l_passS G S i)) ++ wG E B G) (va_runV (As := []) (rest := []) ⟨hx, hb, hml, hown, hts⟩ (c_X0_passNight l E T B (l_passS G S i) G  _) (cwV 0 hts gX2_nightsUntilDark_X0_passNight rfl rfl rfl ⟨rfl, hd_X0_passNight⟩ ⟨Nat.le_of_ble_eq_true rfl, Nat.le_of_ble_eq_true rfl⟩) (pwV (ci := 0) (q0 := 8) (C := RX0) hw hK rfl rfl rfl (rpS (AV := [.ref (T 0)]) hw hK hG rp_70)) rfl rfl hl.1 rfl (lv_room (Nat.le_of_ble_eq_true rfl)) dX2_nightsUntilDark_36 ⟨Nat.le_of_ble_eq_true rfl, Nat.le_of_ble_eq_true rfl⟩) hw hA rp_71 (fun H locs hw => ?_)
        generalize hg_5 : f_night G (l_passS G S i) = Z_4 at hw
        refine lv_pop hx hb dX2_nightsUntilDark_39 rfl ?_
        refine lv_iinc (v := nI (i + 1)) (lv' := [(1, .int (nI (i + 1))), (0, .ref x)]) hx hb dX2_nightsUntilDark_40 hl (k := 1) rfl (nI_add i 1) (by decide) rfl (fun ls hl => ?_)
        refine lv_goto (tgt := 13) hx hb dX2_nightsUntilDark_43 (by decide) ?_
        exact ih_13 (i + 1) _ _ _ (by omega) (fun j hj => by rcases Nat.lt_or_ge j i with q | q; exact hno j q; have e9 : j = i := (by omega); subst e9; exact isDk_f c_3) (hw.to (by subst hg_5; first | assumption | (simp only [if_pos c_3, if_true, if_false, Bool.false_eq_true, Bool.true_eq_false, reduceIte, reduceCtorEq]; done) | (simp only [if_pos c_3, if_true, if_false, Bool.false_eq_true, Bool.true_eq_false, reduceIte, reduceCtorEq]; rfl) | rfl | (simp [if_pos c_3, if_true, if_false, Bool.false_eq_true, Bool.true_eq_false, reduceIte, reduceCtorEq]; done) | (simp [bI, c_3]; done))) (lv_sub hl [1, 0] rfl)
      · refine lv_iload_n hx hb dX2_nightsUntilDark_30 rfl (lv_at hl 1 rfl) ?_
        exact k_ieret (l_passS G S i) hx hb hr hlocks hK hw rfl dX2_nightsUntilDark_31 (by rw [f_untilD, l_first_at _ i hno (isDk_t c_3) 201 (by omega), if_pos (by omega)]) rfl
  exact L_13 (200 - 0) 0 _ _ _ (by omega) (fun j hj => absurd hj (by omega)) hw (lv_sub hl [1, 0] rfl)
