abbrev rm_X2_wouldStayLit : Room := { frames := 5, cells := 0, slots := 0, locals := 110 }
set_option maxHeartbeats 4000000 in
set_option maxRecDepth 100000 in
theorem c_X2_wouldStayLit (l : Launch) (E : Ev) (x : Nat) (A T B : Nat → Nat) (S U : CS) (G : HS) (b : Int32) (n : Nat) (hn : n < 1000) : MIE l E yX2_wouldStayLit wsX2_wouldStayLit rm_X2_wouldStayLit [.ref x, .int b, .int (nI n)] (wX x A T B ++ wC E A (B 0) S ++ wC E T (B 0) U ++ wG E B G) (bI (f_stayLit G S b n)) (fun U9 => wX x A T B ++ wC E A (B 0) S ++ wC E T (B 0) U9 ++ wG E B G) := by
  refine k_bIE (cc := cX2_wouldStayLit) (maxL := 4) (ret := (some .boolean)) (by decide) rfl (Nat.le_of_ble_eq_true rfl) ?_
  intro p9 e s9 m args below meth c A9 ls hC hl hw
  obtain ⟨hx, hb, hml, hr, hown, hts, hlocks, hK, hG, hA⟩ := hC
  have hf25 := hts (.fieldLink RX2 25 "SailorCandles" "trial" "LSailorCandles$Chapel;") (List.mem_of_getElem? (i := 1) rfl)
  have hinX2 : ∀ w ∈ wsX20, w ∈ wsX2_wouldStayLit := fun w h => List.mem_cons_of_mem _ (List.mem_append_left _ (List.mem_append_left _ (List.mem_append_right _ h)))
  have hf21 := hts (.fieldLink RX2 21 "SailorCandles" "now" "LSailorCandles$Chapel;") (List.mem_of_getElem? (i := 2) rfl)
  have hf97 := hG.nw 13 (w := .fieldLinkNest RX2 97 "SailorCandles$Chapel" "waxLeft" "I" "SailorCandles") rfl
  have hinX0 : ∀ w ∈ wsX00, w ∈ wsX2_wouldStayLit := fun w h => List.mem_cons_of_mem _ (List.mem_append_left _ (List.mem_append_right _ h))
  have hl : lv_has ls 4 [(0, .ref x), (1, .int b), (2, .int (nI n))] := hl
  refine lv_aload_n hx hb dX2_wouldStayLit_0 rfl (lv_at hl 0 rfl) ?_
  refine k_get (ci := 2) (v := .ref (T 0)) (C := RX2) (T := TX2) (N := 3) hx hb hown hK hw hts hinX2 0 rfl rfl 2 (by decide) hf25 rfl dX2_wouldStayLit_1 ?_
  refine lv_aload_n hx hb dX2_wouldStayLit_4 rfl (lv_at hl 0 rfl) ?_
  refine k_get (ci := 2) (v := .ref (A 0)) (C := RX2) (T := TX2) (N := 3) hx hb hown hK hw hts hinX2 0 rfl rfl 1 (by decide) hf21 rfl dX2_wouldStayLit_5 ?_
  refine kr_v (ws' := wX x A T B ++ wC E A (B 0) S ++ wC E T (B 0) S ++ wG E B G) (va_runV (As := [.ref (A 0)]) (rest := []) ⟨hx, hb, hml, hown, hts⟩ (c_X0_copyFrom l E T A (B 0) (B 0) U S  _) (cwV 1 hts gX2_wouldStayLit_X0_copyFrom rfl rfl rfl ⟨rfl, hd_X0_copyFrom⟩ ⟨Nat.le_of_ble_eq_true rfl, Nat.le_of_ble_eq_true rfl⟩) (pwV (ci := 0) (q0 := 8) (C := RX0) hw hK rfl rfl rfl (rpS (AV := [.ref (T 0), .ref (A 0)]) hw hK hG rp_69)) rfl rfl hl.1 rfl (lv_room (Nat.le_of_ble_eq_true rfl)) dX2_wouldStayLit_8 ⟨Nat.le_of_ble_eq_true rfl, Nat.le_of_ble_eq_true rfl⟩) hw hA rp_68 (fun H locs hw => ?_)
  refine lv_aload_n hx hb dX2_wouldStayLit_11 rfl (lv_at hl 0 rfl) ?_
  refine k_get (ci := 2) (v := .ref (T 0)) (C := RX2) (T := TX2) (N := 3) hx hb hown hK hw hts hinX2 0 rfl rfl 2 (by decide) hf25 rfl dX2_wouldStayLit_12 ?_
  refine lv_dup hx hb dX2_wouldStayLit_15 rfl ?_
  refine k_getN (ci := 0) (v := .int (c_wa S)) (C := RX0) (T := TX0) (N := 10) hx hb hown hK hw hts hinX0 8 rfl rfl 8 (by decide) hf97 rfl dX2_wouldStayLit_16 ?_
  refine lv_iload_n hx hb dX2_wouldStayLit_19 rfl (lv_at hl 1 rfl) ?_
  refine lv_iadd hx hb dX2_wouldStayLit_20 ?_
  refine k_putN (ci := 0) (C := RX0) (T := TX0) (N := 10) (ws' := wX x A T B ++ wC E A (B 0) S ++ wC E T (B 0) (p_wa S ((c_wa S) + b)) ++ wG E B G) hx hb hown hK hw hts hinX0 tyX0 tyX0_ok nmX0 8 rfl rfl 8 (by decide) hf97 rfl rfl (Nat.le_of_ble_eq_true rfl) dX2_wouldStayLit_21 rfl (fun H locs hw => ?_)
  refine lv_iconst (v := 0) hx hb dX2_wouldStayLit_24 (by decide) ?_
  refine lv_istore_n (lv' := [(3, .int 0), (0, .ref x), (1, .int b), (2, .int (nI n))]) hx hb dX2_wouldStayLit_25 rfl hl (by decide) rfl (fun ls hl => ?_)
  have L_26 : ∀ (k9 i : Nat) (H : Heap) (locs : List Loc) (ls : Array Slot), i + k9 = n → (l_lit G (p_wa S (c_wa S + b)) i = true) → Wd E A9 s9.heap (wX x A T B ++ wC E A (B 0) S ++ wC E T (B 0) (l_passS G (p_wa S (c_wa S + b)) i) ++ wG E B G) H locs → lv_has ls 4 [(0, .ref x), (2, .int (nI n)), (3, .int (nI i))] → W p9 l e rm_X2_wouldStayLit s9 m args below meth c H locs 0 0 (EndIE E A9 (bI (f_stayLit G S b n)) (fun U9 => wX x A T B ++ wC E A (B 0) S ++ wC E T (B 0) U9 ++ wG E B G) below args s9 (rm_X2_wouldStayLit).cells (rm_X2_wouldStayLit).slots) (F0 m 26 ls []) := by
    intro k9
    induction k9 with
    | zero =>
      intro i H locs ls hi hno hw hl
      have hz_1 : n = i := by omega
      refine lv_iload_n hx hb dX2_wouldStayLit_26 rfl (lv_at hl 2 rfl) ?_
      refine lv_iload_n hx hb dX2_wouldStayLit_27 rfl (lv_at hl 1 rfl) ?_
      refine lv_icmp_ge (tgt := 57) hx hb dX2_wouldStayLit_28 (by decide) (fun _ => ?_) (fun q8 => absurd (by rw [← hz_1]; exact Int32.le_refl _) q8)
      refine lv_iconst (v := 1) hx hb dX2_wouldStayLit_57 (by decide) ?_
      exact k_ieret (l_passS G (p_wa S (c_wa S + b)) i) hx hb hr hlocks hK hw rfl dX2_wouldStayLit_58 (by subst hz_1; exact stayLit_yes hno) rfl
    | succ k9 ih_26 =>
      intro i H locs ls hi hno hw hl
      have hi9 : i < n := by omega
      refine lv_iload_n hx hb dX2_wouldStayLit_26 rfl (lv_at hl 2 rfl) ?_
      refine lv_iload_n hx hb dX2_wouldStayLit_27 rfl (lv_at hl 1 rfl) ?_
      refine lv_icmp_ge (tgt := 57) hx hb dX2_wouldStayLit_28 (by decide) (fun q8 => absurd q8 (nI_ge (a := i) (b := n) (by omega) (by omega))) (fun _ => ?_)
      refine lv_aload_n hx hb dX2_wouldStayLit_31 rfl (lv_at hl 0 rfl) ?_
      refine k_get (ci := 2) (v := .ref (T 0)) (C := RX2) (T := TX2) (N := 3) hx hb hown hK hw hts hinX2 0 rfl rfl 2 (by decide) hf25 rfl dX2_wouldStayLit_32 ?_
      refine kr_i (ws' := wX x A T B ++ wC E A (B 0) S ++ wC E T (B 0) (f_night G (l_passS G (p_wa S (c_wa S + b)) i)) ++ wG E B G) (va_runV (As := []) (rest := []) ⟨hx, hb, hml, hown, hts⟩ (c_X0_passNight l E T B (l_passS G (p_wa S (c_wa S + b)) i) G  _) (cwV 0 hts gX2_wouldStayLit_X0_passNight rfl rfl rfl ⟨rfl, hd_X0_passNight⟩ ⟨Nat.le_of_ble_eq_true rfl, Nat.le_of_ble_eq_true rfl⟩) (pwV (ci := 0) (q0 := 8) (C := RX0) hw hK rfl rfl rfl (rpS (AV := [.ref (T 0)]) hw hK hG rp_70)) rfl rfl hl.1 rfl (lv_room (Nat.le_of_ble_eq_true rfl)) dX2_wouldStayLit_35 ⟨Nat.le_of_ble_eq_true rfl, Nat.le_of_ble_eq_true rfl⟩) hw hA rp_71 (fun H locs hw => ?_)
      generalize hg_3 : f_night G (l_passS G (p_wa S (c_wa S + b)) i) = Z_2 at hw
      refine lv_pop hx hb dX2_wouldStayLit_38 rfl ?_
      refine lv_aload_n hx hb dX2_wouldStayLit_39 rfl (lv_at hl 0 rfl) ?_
      refine k_get (ci := 2) (v := .ref (T 0)) (C := RX2) (T := TX2) (N := 3) hx hb hown hK hw hts hinX2 0 rfl rfl 2 (by decide) hf25 rfl dX2_wouldStayLit_40 ?_
      refine kr_i (ws' := wX x A T B ++ wC E A (B 0) S ++ wC E T (B 0) Z_2 ++ wG E B G) (va_runV (As := []) (rest := []) ⟨hx, hb, hml, hown, hts⟩ (c_X0_darkCount l E T B Z_2 G  _) (cwV 0 hts gX2_wouldStayLit_X0_darkCount rfl rfl rfl ⟨rfl, hd_X0_darkCount⟩ ⟨Nat.le_of_ble_eq_true rfl, Nat.le_of_ble_eq_true rfl⟩) (pwV (ci := 0) (q0 := 8) (C := RX0) hw hK rfl rfl rfl (rpS (AV := [.ref (T 0)]) hw hK hG rp_70)) rfl rfl hl.1 rfl (lv_room (Nat.le_of_ble_eq_true rfl)) dX2_wouldStayLit_43 ⟨Nat.le_of_ble_eq_true rfl, Nat.le_of_ble_eq_true rfl⟩) hw hA rp_70 (fun H locs hw => ?_)
      refine lv_if_le (tgt := 51) hx hb dX2_wouldStayLit_46 (by decide) (fun c_4 => ?_) (fun c_4 => ?_)
      · refine lv_iinc (v := nI (i + 1)) (lv' := [(3, .int (nI (i + 1))), (0, .ref x), (2, .int (nI n))]) hx hb dX2_wouldStayLit_51 hl (k := 2) rfl (nI_add i 1) (by decide) rfl (fun ls hl => ?_)
        refine lv_goto (tgt := 26) hx hb dX2_wouldStayLit_54 (by decide) ?_
        exact ih_26 (i + 1) _ _ _ (by omega) (by subst hg_3; exact stayLit_on hno c_4) (hw.to (by subst hg_3; first | assumption | (simp only [if_pos c_4, if_true, if_false, Bool.false_eq_true, Bool.true_eq_false, reduceIte, reduceCtorEq]; done) | (simp only [if_pos c_4, if_true, if_false, Bool.false_eq_true, Bool.true_eq_false, reduceIte, reduceCtorEq]; rfl) | rfl | (simp [if_pos c_4, if_true, if_false, Bool.false_eq_true, Bool.true_eq_false, reduceIte, reduceCtorEq]; done) | (simp [bI, c_4]; done))) (lv_sub hl [1, 2, 0] rfl)
      · refine lv_iconst (v := 0) hx hb dX2_wouldStayLit_49 (by decide) ?_
        exact k_ieret Z_2 hx hb hr hlocks hK hw rfl dX2_wouldStayLit_50 (by subst hg_3; exact stayLit_no (by omega) hno c_4) rfl
  exact L_26 (n - 0) 0 _ _ _ (by omega) (rfl) hw (lv_sub hl [1, 3, 0] rfl)
abbrev rm_X2_waxWanted : Room := { frames := 7, cells := 1, slots := 6, locals := 133 }
set_option maxHeartbeats 4000000 in
set_option maxRecDepth 100000 in
theorem c_X2_waxWanted (l : Launch) (hflags : l.stackTraces = false) (E : Ev) (x : Nat) (A T B : Nat → Nat) (S U : CS) (G : HS) (n : Int32) : XIE l E yX2_waxWanted wsX2_waxWanted rm_X2_waxWanted [.ref x, .int n] (wX x A T B ++ wC E A (B 0) S ++ wC E T (B 0) U ++ wG E B G) (t_nights n 60) (f_want G S n.toNatClampNeg) (fun U9 => wX x A T B ++ wC E A (B 0) S ++ wC E T (B 0) U9 ++ wG E B G) := by
  refine k_bXIE (cc := cX2_waxWanted) (maxL := 4) (ret := (some .int)) (by decide) rfl (Nat.le_of_ble_eq_true rfl) ?_
  intro p9 e s9 m args below meth c A9 ls hC ht9 hZ hl hw
  obtain ⟨hx, hb, hml, hr, hown, hts, hlocks, hK, hG, hA⟩ := hC
  have hl : lv_has ls 4 [(0, .ref x), (1, .int n)] := hl
  refine lv_iload_n hx hb dX2_waxWanted_0 rfl (lv_at hl 1 rfl) ?_
  refine lv_bipush (v := 60) hx hb dX2_waxWanted_1 (by decide) ?_
  refine krx_v (ws' := wX x A T B ++ wC E A (B 0) S ++ wC E T (B 0) U ++ wG E B G) (vx_runS (As := [.int n, .int 60]) (rest := []) ⟨hx, hb, hml, hown, hts⟩ (c_X2_needNights l hflags E n 60  _) (va_cwS 2 hts gX2_waxWanted_X2_needNights rfl rfl rfl hd_X2_needNights ⟨Nat.le_of_ble_eq_true rfl, Nat.le_of_ble_eq_true rfl⟩) (rpX (AV := [.int n, .int 60]) hw hK hG hZ hA rp_65) rfl rfl hl.1 rfl (lv_room (Nat.le_of_ble_eq_true rfl)) dX2_waxWanted_3 ⟨Nat.le_of_ble_eq_true rfl, Nat.le_of_ble_eq_true rfl⟩) hw hA rp_65 rp_65 (fun H locs ce9 q9 t_1 hw hq1 hq2 hq3 => ?_) (fun H locs t_1 hw => ?_)
  · refine vx_widen (k := (rm_X2_waxWanted).cells) (n := (rm_X2_waxWanted).slots) (Nat.le_of_ble_eq_true rfl) (Nat.le_of_ble_eq_true rfl) ?_
    exact vx_out (fun z9 hz9 => (ht9 z9 hz9).elim) hlocks hq1 hq2 hq3 (fun t ht hvm => ⟨(), (by first | assumption | (simp only [if_neg t_1, if_true, if_false, Bool.false_eq_true, Bool.true_eq_false, reduceIte, reduceCtorEq]; exact t_1) | (simp [if_neg t_1, if_true, if_false, Bool.false_eq_true, Bool.true_eq_false, reduceIte, reduceCtorEq]; done)), ⟨(by first | rfl | (simp only [if_neg t_1, if_true, if_false, Bool.false_eq_true, Bool.true_eq_false, reduceIte, reduceCtorEq]; done) | (simp [if_neg t_1, if_true, if_false, Bool.false_eq_true, Bool.true_eq_false, reduceIte, reduceCtorEq]; done)), by rw [ht]; exact hw.1, va_K.moved hvm hK, hw.2.1⟩, hw.2.2.F ht⟩) hw.2.2.2.2 (Nat.le_refl _) (Nat.le_refl _)
  obtain ⟨nn, hn1, hn2, hn3⟩ := nights_of (k := 60) rfl (by decide) t_1
  subst hn3
  refine lv_iconst (v := 0) hx hb dX2_waxWanted_6 (by decide) ?_
  refine lv_istore_n (lv' := [(2, .int 0), (0, .ref x), (1, .int (nI nn))]) hx hb dX2_waxWanted_7 rfl hl (by decide) rfl (fun ls hl => ?_)
  refine lv_sipush (v := 256) hx hb dX2_waxWanted_8 (by decide) ?_
  refine lv_istore_n (lv' := [(3, .int 256), (2, .int 0), (0, .ref x), (1, .int (nI nn))]) hx hb dX2_waxWanted_11 rfl hl (by decide) rfl (fun ls hl => ?_)
  have L_12 : ∀ (k9 i : Nat) (V : CS) (H : Heap) (locs : List Loc) (ls : Array Slot), i + k9 = 9 → Wd E A9 s9.heap (wX x A T B ++ wC E A (B 0) S ++ wC E T (B 0) V ++ wG E B G) H locs → lv_has ls 4 [(0, .ref x), (1, .int (nI nn)), (2, .int (nI (l_want (fun b => f_stayLit G S b nn) i))), (3, .int (nI (256 / 2 ^ i)))] → W p9 l e rm_X2_waxWanted s9 m args below meth c H locs 1 6 (XndIE E A9 (t_nights (nI nn) 60) (f_want G S (nI nn).toNatClampNeg) (wX x A T B ++ wC E A (B 0) S ++ wC E T (B 0) U ++ wG E B G) (fun U9 => wX x A T B ++ wC E A (B 0) S ++ wC E T (B 0) U9 ++ wG E B G) below args s9 (rm_X2_waxWanted).cells (rm_X2_waxWanted).slots) (F0 m 12 ls []) := by
    intro k9
    induction k9 with
    | zero =>
      intro i V H locs ls hi hw hl
      have hz_2 : 9 = i := by omega
      refine lv_iload_n hx hb dX2_waxWanted_12 rfl (lv_at hl 3 rfl) ?_
      refine lv_if_le (tgt := 40) hx hb dX2_waxWanted_13 (by decide) (fun _ => ?_) (fun q8 => absurd (by rw [← hz_2]; decide) q8)
      refine lv_iload_n hx hb dX2_waxWanted_40 rfl (lv_at hl 2 rfl) ?_
      refine lv_sipush (v := 500) hx hb dX2_waxWanted_41 (by decide) ?_
      refine lv_icmp_le (tgt := 51) hx hb dX2_waxWanted_44 (by decide) (fun c_3 => ?_) (fun c_3 => ?_)
      · refine lv_iload_n hx hb dX2_waxWanted_51 rfl (lv_at hl 2 rfl) ?_
        refine W.widen (k := (rm_X2_waxWanted).cells) (n := (rm_X2_waxWanted).slots) (Nat.le_of_ble_eq_true rfl) (Nat.le_of_ble_eq_true rfl) ?_
        exact k_xieret V hx hb hr hlocks hK hw rfl dX2_waxWanted_52 (by subst hz_2; assumption) (by subst hz_2; first | (rw [nI_clamp (by omega), f_want, if_pos c_3]; done) | (rw [nI_clamp (by omega), f_want, if_neg c_3]; done)) rfl
      · refine lv_iconst (v := (-1)) hx hb dX2_waxWanted_47 (by decide) ?_
        refine lv_goto (tgt := 52) hx hb dX2_waxWanted_48 (by decide) ?_
        refine W.widen (k := (rm_X2_waxWanted).cells) (n := (rm_X2_waxWanted).slots) (Nat.le_of_ble_eq_true rfl) (Nat.le_of_ble_eq_true rfl) ?_
        exact k_xieret V hx hb hr hlocks hK hw rfl dX2_waxWanted_52 (by subst hz_2; assumption) (by subst hz_2; first | (rw [nI_clamp (by omega), f_want, if_pos c_3]; done) | (rw [nI_clamp (by omega), f_want, if_neg c_3]; done)) rfl
    | succ k9 ih_12 =>
      intro i V H locs ls hi hw hl
      have hi9 : i < 9 := by omega
      refine lv_iload_n hx hb dX2_waxWanted_12 rfl (lv_at hl 3 rfl) ?_
      refine lv_if_le (tgt := 40) hx hb dX2_waxWanted_13 (by decide) (fun q8 => absurd q8 (nI_nle (pw_pos i hi9) (Nat.lt_of_le_of_lt (pw_le i) (by decide)))) (fun _ => ?_)
      refine lv_aload_n hx hb dX2_waxWanted_16 rfl (lv_at hl 0 rfl) ?_
      refine lv_iload_n hx hb dX2_waxWanted_17 rfl (lv_at hl 2 rfl) ?_
      refine lv_iload_n hx hb dX2_waxWanted_18 rfl (lv_at hl 3 rfl) ?_
      refine k_iaddN (a := l_want (fun b => f_stayLit G S b nn) i) (b := 256 / 2 ^ i) hx hb dX2_waxWanted_19 ?_
      refine lv_iconst (v := 1) hx hb dX2_waxWanted_20 (by decide) ?_
      refine lv_isub hx hb dX2_waxWanted_21 ?_
      refine lv_iload_n hx hb dX2_waxWanted_22 rfl (lv_at hl 1 rfl) ?_
      refine kr_ie (wU' := fun U9 => wX x A T B ++ wC E A (B 0) S ++ wC E T (B 0) U9 ++ wG E B G) (va_runV (As := [.int ((nI ((l_want (fun b => f_stayLit G S b nn) i) + (256 / 2 ^ i))) - 1), .int (nI nn)]) (rest := []) ⟨hx, hb, hml, hown, hts⟩ (c_X2_wouldStayLit l E x A T B S V G ((nI ((l_want (fun b => f_stayLit G S b nn) i) + (256 / 2 ^ i))) - 1) nn (by omega) _) (cwV 2 hts gX2_waxWanted_X2_wouldStayLit rfl rfl rfl ⟨rfl, hd_X2_wouldStayLit⟩ ⟨Nat.le_of_ble_eq_true rfl, Nat.le_of_ble_eq_true rfl⟩) (pwV (ci := 2) (q0 := 0) (C := RX2) hw hK rfl rfl rfl (rpS (AV := [.ref x, .int ((nI ((l_want (fun b => f_stayLit G S b nn) i) + (256 / 2 ^ i))) - 1), .int (nI nn)]) hw hK hG rp_50)) rfl rfl hl.1 rfl (lv_room (Nat.le_of_ble_eq_true rfl)) dX2_waxWanted_23 ⟨Nat.le_of_ble_eq_true rfl, Nat.le_of_ble_eq_true rfl⟩) hw hA (fun _ => rp_72) (fun U_4 H locs hw => ?_)
      refine lv_if_ne (tgt := 33) hx hb dX2_waxWanted_26 (by decide) (fun c_5 => ?_) (fun c_5 => ?_)
      · have c_5 := bI_nz c_5
        refine lv_iload_n hx hb dX2_waxWanted_33 rfl (lv_at hl 3 rfl) ?_
        refine lv_iconst (v := 2) hx hb dX2_waxWanted_34 (by decide) ?_
        refine lv_idiv hx hb dX2_waxWanted_35 (by decide) ?_
        refine lv_istore_n (lv' := [(3, .int ((nI (256 / 2 ^ i)) / 2)), (0, .ref x), (1, .int (nI nn)), (2, .int (nI (l_want (fun b => f_stayLit G S b nn) i)))]) hx hb dX2_waxWanted_36 rfl hl (by decide) rfl (fun ls hl => ?_)
        refine lv_goto (tgt := 12) hx hb dX2_waxWanted_37 (by decide) ?_
        exact ih_12 (i + 1) _ _ _ _ (by omega) hw (by rw [show (.int (nI (l_want (fun b => f_stayLit G S b nn) (i + 1))) : Value) = .int (nI (l_want (fun b => f_stayLit G S b nn) i)) from (by first | (rw [l_want, if_pos c_5]; done) | (rw [l_want, if_neg (by rw [c_5]; decide)]; done) | (rw [pw_nextI i hi9]; done) | rfl)]; rw [show (.int (nI (256 / 2 ^ (i + 1))) : Value) = .int ((nI (256 / 2 ^ i)) / 2) from (by first | (rw [l_want, if_pos c_5]; done) | (rw [l_want, if_neg (by rw [c_5]; decide)]; done) | (rw [pw_nextI i hi9]; done) | rfl)]; exact lv_sub hl [1, 2, 3, 0] rfl)
      · have c_5 := bI_z c_5
        refine lv_iload_n hx hb dX2_waxWanted_29 rfl (lv_at hl 2 rfl) ?_
        refine lv_iload_n hx hb dX2_waxWanted_30 rfl (lv_at hl 3 rfl) ?_
        refine k_iaddN (a := l_want (fun b => f_stayLit G S b nn) i) (b := 256 / 2 ^ i) hx hb dX2_waxWanted_31 ?_
        refine lv_istore_n (lv' := [(2, .int (nI ((l_want (fun b => f_stayLit G S b nn) i) + (256 / 2 ^ i)))), (0, .ref x), (1, .int (nI nn)), (3, .int (nI (256 / 2 ^ i)))]) hx hb dX2_waxWanted_32 rfl hl (by decide) rfl (fun ls hl => ?_)
        refine lv_iload_n hx hb dX2_waxWanted_33 rfl (lv_at hl 3 rfl) ?_
        refine lv_iconst (v := 2) hx hb dX2_waxWanted_34 (by decide) ?_
        refine lv_idiv hx hb dX2_waxWanted_35 (by decide) ?_
        refine lv_istore_n (lv' := [(3, .int ((nI (256 / 2 ^ i)) / 2)), (2, .int (nI ((l_want (fun b => f_stayLit G S b nn) i) + (256 / 2 ^ i)))), (0, .ref x), (1, .int (nI nn))]) hx hb dX2_waxWanted_36 rfl hl (by decide) rfl (fun ls hl => ?_)
        refine lv_goto (tgt := 12) hx hb dX2_waxWanted_37 (by decide) ?_
        exact ih_12 (i + 1) _ _ _ _ (by omega) hw (by rw [show (.int (nI (l_want (fun b => f_stayLit G S b nn) (i + 1))) : Value) = .int (nI ((l_want (fun b => f_stayLit G S b nn) i) + (256 / 2 ^ i))) from (by first | (rw [l_want, if_pos c_5]; done) | (rw [l_want, if_neg (by rw [c_5]; decide)]; done) | (rw [pw_nextI i hi9]; done) | rfl)]; rw [show (.int (nI (256 / 2 ^ (i + 1))) : Value) = .int ((nI (256 / 2 ^ i)) / 2) from (by first | (rw [l_want, if_pos c_5]; done) | (rw [l_want, if_neg (by rw [c_5]; decide)]; done) | (rw [pw_nextI i hi9]; done) | rfl)]; exact lv_sub hl [2, 3, 1, 0] rfl)
  exact L_12 (9 - 0) 0 _ _ _ _ (by omega) hw (lv_sub hl [2, 3, 1, 0] rfl)
