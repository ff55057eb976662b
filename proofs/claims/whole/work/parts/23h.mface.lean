abbrev rm_X3_nightsUntilDark : Room := { frames := 4, cells := 0, slots := 0, locals := 86 }
set_option maxHeartbeats 4000000 in
set_option maxRecDepth 100000 in
theorem c_X3_nightsUntilDark (l : Launch) (E : Ev) (M : Nat → Nat) (th : Int32) (Hb : MH) (a k : Fn) (K : Nat) (h1 : n_ns Hb ≤ 5) (h2 : n_np Hb ≤ 16) (h3 : n_nw Hb ≤ 4) (h4 : ∀ p, p < n_np Hb → n_so Hb p < 5) (hK0 : K ≤ 200) (hK1 : ∀ i, i < K → l_mdk Hb (l_mpass Hb a i) (n_np Hb) = 0) (hK2 : ¬ l_mdk Hb (l_mpass Hb a K) (n_np Hb) = 0) : MI l E yX3_nightsUntilDark wsX3_nightsUntilDark rm_X3_nightsUntilDark [.ref (M 0)] (wN E M (th, Hb, a, k)) (nI K) (wN E M (0, Hb, a, a)) := by
  refine k_bI (cc := cX3_nightsUntilDark) (maxL := 2) (ret := (some .int)) (by decide) rfl (Nat.le_of_ble_eq_true rfl) ?_
  intro p9 e s9 m args below meth c A9 ls hC hl hw
  obtain ⟨hx, hb, hml, hr, hown, hts, hlocks, hK, hG, hA⟩ := hC
  have hf29 := hts (.fieldLink RX3 29 "SailorCandlesModel" "thrown" "I") (List.mem_of_getElem? (i := 1) rfl)
  have hinX3 : ∀ w ∈ wsX30, w ∈ wsX3_nightsUntilDark := fun w h => List.mem_cons_of_mem _ (List.mem_append_right _ h)
  have hl : lv_has ls 2 [(0, .ref (M 0))] := hl
  refine lv_aload_n hx hb dX3_nightsUntilDark_0 rfl (lv_at hl 0 rfl) ?_
  refine lv_iconst (v := 0) hx hb dX3_nightsUntilDark_1 (by decide) ?_
  refine k_put (ci := 3) (C := RX3) (T := TX3) (N := 10) (ws' := wN E M (0, Hb, a, k)) hx hb hown hK hw hts hinX3 tyX3 tyX3_ok nmX3 0 rfl rfl 0 (by decide) hf29 rfl rfl (Nat.le_of_ble_eq_true rfl) dX3_nightsUntilDark_2 rfl (fun H locs hw => ?_)
  refine lv_aload_n hx hb dX3_nightsUntilDark_5 rfl (lv_at hl 0 rfl) ?_
  refine kr_v (ws' := wN E M (0, Hb, a, a)) (va_runV (As := []) (rest := []) ⟨hx, hb, hml, hown, hts⟩ (c_X3_keep l E M 0 Hb a k  _) (cwV 0 hts gX3_nightsUntilDark_X3_keep rfl rfl rfl ⟨rfl, hd_X3_keep⟩ ⟨Nat.le_of_ble_eq_true rfl, Nat.le_of_ble_eq_true rfl⟩) (pwV (ci := 3) (q0 := 0) (C := RX3) hw hK rfl rfl rfl (rpS (AV := [.ref (M 0)]) hw hK hG rp_75)) rfl rfl hl.1 rfl (lv_room (Nat.le_of_ble_eq_true rfl)) dX3_nightsUntilDark_6 ⟨Nat.le_of_ble_eq_true rfl, Nat.le_of_ble_eq_true rfl⟩) hw hA rp_76 (fun H locs hw => ?_)
  refine lv_iconst (v := 0) hx hb dX3_nightsUntilDark_9 (by decide) ?_
  refine lv_istore_n (lv' := [(1, .int 0), (0, .ref (M 0))]) hx hb dX3_nightsUntilDark_10 rfl hl (by decide) rfl (fun ls hl => ?_)
  have L_11 : ∀ (k9 i : Nat) (H : Heap) (locs : List Loc) (ls : Array Slot), i + k9 = K → Wd E A9 s9.heap (wN E M (0, Hb, l_mpass Hb a i, a)) H locs → lv_has ls 2 [(0, .ref (M 0)), (1, .int (nI i))] → W p9 l e rm_X3_nightsUntilDark s9 m args below meth c H locs 0 0 (EndI E A9 (nI K) (wN E M (0, Hb, a, a)) below args s9 (rm_X3_nightsUntilDark).cells (rm_X3_nightsUntilDark).slots) (F0 m 11 ls []) := by
    intro k9
    induction k9 with
    | zero =>
      intro i H locs ls hi hw hl
      have hz_1 : K = i := by omega
      refine lv_iload_n hx hb dX3_nightsUntilDark_11 rfl (lv_at hl 1 rfl) ?_
      refine lv_sipush (v := 200) hx hb dX3_nightsUntilDark_12 (by decide) ?_
      refine lv_icmp_gt (tgt := 36) hx hb dX3_nightsUntilDark_15 (by decide) (fun q8 => absurd q8 (nI_nlt (a := 200) (b := i) (by omega) (by omega))) (fun _ => ?_)
      refine lv_aload_n hx hb dX3_nightsUntilDark_18 rfl (lv_at hl 0 rfl) ?_
      refine kr_i (ws' := wN E M (0, Hb, l_mpass Hb a i, a)) (va_runV (As := []) (rest := []) ⟨hx, hb, hml, hown, hts⟩ (c_X3_allDark l E M 0 Hb (l_mpass Hb a i) a (by omega) (by omega) (by omega) (h4) _) (cwV 0 hts gX3_nightsUntilDark_X3_allDark rfl rfl rfl ⟨rfl, hd_X3_allDark⟩ ⟨Nat.le_of_ble_eq_true rfl, Nat.le_of_ble_eq_true rfl⟩) (pwV (ci := 3) (q0 := 0) (C := RX3) hw hK rfl rfl rfl (rpS (AV := [.ref (M 0)]) hw hK hG rp_75)) rfl rfl hl.1 rfl (lv_room (Nat.le_of_ble_eq_true rfl)) dX3_nightsUntilDark_19 ⟨Nat.le_of_ble_eq_true rfl, Nat.le_of_ble_eq_true rfl⟩) hw hA rp_75 (fun H locs hw => ?_)
      refine lv_if_ne (tgt := 36) hx hb dX3_nightsUntilDark_22 (by decide) (fun _ => ?_) (fun q8 => absurd q8 (by rw [← hz_1]; exact hK2))
      refine lv_aload_n hx hb dX3_nightsUntilDark_36 rfl (lv_at hl 0 rfl) ?_
      refine kr_v (ws' := wN E M (0, Hb, a, a)) (va_runV (As := []) (rest := []) ⟨hx, hb, hml, hown, hts⟩ (c_X3_bringBack l E M 0 Hb (l_mpass Hb a i) a  _) (cwV 0 hts gX3_nightsUntilDark_X3_bringBack rfl rfl rfl ⟨rfl, hd_X3_bringBack⟩ ⟨Nat.le_of_ble_eq_true rfl, Nat.le_of_ble_eq_true rfl⟩) (pwV (ci := 3) (q0 := 0) (C := RX3) hw hK rfl rfl rfl (rpS (AV := [.ref (M 0)]) hw hK hG rp_75)) rfl rfl hl.1 rfl (lv_room (Nat.le_of_ble_eq_true rfl)) dX3_nightsUntilDark_37 ⟨Nat.le_of_ble_eq_true rfl, Nat.le_of_ble_eq_true rfl⟩) hw hA rp_76 (fun H locs hw => ?_)
      refine lv_iload_n hx hb dX3_nightsUntilDark_40 rfl (lv_at hl 1 rfl) ?_
      refine lv_sipush (v := 200) hx hb dX3_nightsUntilDark_41 (by decide) ?_
      refine lv_icmp_le (tgt := 51) hx hb dX3_nightsUntilDark_44 (by decide) (fun _ => ?_) (fun q8 => absurd (nI_le (b := 200) (by omega) (by omega)) q8)
      refine lv_iload_n hx hb dX3_nightsUntilDark_51 rfl (lv_at hl 1 rfl) ?_
      exact k_iret hx hb hr hlocks hK hw rfl dX3_nightsUntilDark_52 (by subst hz_1; first | rfl | assumption | (simp only [l_mpass, if_true, if_false, Bool.false_eq_true, Bool.true_eq_false, reduceIte, reduceCtorEq]; done) | (simp only [l_mpass, if_true, if_false, Bool.false_eq_true, Bool.true_eq_false, reduceIte, reduceCtorEq]; rfl) | (simp [l_mpass, if_true, if_false, Bool.false_eq_true, Bool.true_eq_false, reduceIte, reduceCtorEq]; done) | (simp [bI, l_mpass]; done)) rfl
    | succ k9 ih_11 =>
      intro i H locs ls hi hw hl
      have hi9 : i < K := by omega
      refine lv_iload_n hx hb dX3_nightsUntilDark_11 rfl (lv_at hl 1 rfl) ?_
      refine lv_sipush (v := 200) hx hb dX3_nightsUntilDark_12 (by decide) ?_
      refine lv_icmp_gt (tgt := 36) hx hb dX3_nightsUntilDark_15 (by decide) (fun q8 => absurd q8 (nI_nlt (a := 200) (b := i) (by omega) (by omega))) (fun _ => ?_)
      refine lv_aload_n hx hb dX3_nightsUntilDark_18 rfl (lv_at hl 0 rfl) ?_
      refine kr_i (ws' := wN E M (0, Hb, l_mpass Hb a i, a)) (va_runV (As := []) (rest := []) ⟨hx, hb, hml, hown, hts⟩ (c_X3_allDark l E M 0 Hb (l_mpass Hb a i) a (by omega) (by omega) (by omega) (h4) _) (cwV 0 hts gX3_nightsUntilDark_X3_allDark rfl rfl rfl ⟨rfl, hd_X3_allDark⟩ ⟨Nat.le_of_ble_eq_true rfl, Nat.le_of_ble_eq_true rfl⟩) (pwV (ci := 3) (q0 := 0) (C := RX3) hw hK rfl rfl rfl (rpS (AV := [.ref (M 0)]) hw hK hG rp_75)) rfl rfl hl.1 rfl (lv_room (Nat.le_of_ble_eq_true rfl)) dX3_nightsUntilDark_19 ⟨Nat.le_of_ble_eq_true rfl, Nat.le_of_ble_eq_true rfl⟩) hw hA rp_75 (fun H locs hw => ?_)
      refine lv_if_ne (tgt := 36) hx hb dX3_nightsUntilDark_22 (by decide) (fun q8 => absurd (hK1 i hi9) q8) (fun _ => ?_)
      refine lv_aload_n hx hb dX3_nightsUntilDark_25 rfl (lv_at hl 0 rfl) ?_
      refine kr_i (ws' := wN E M (0, Hb, r_night Hb (l_mpass Hb a i), a)) (va_runV (As := []) (rest := []) ⟨hx, hb, hml, hown, hts⟩ (c_X3_nightOn l E M 0 Hb (l_mpass Hb a i) a (by omega) (by omega) (by omega) (h4) _) (cwV 0 hts gX3_nightsUntilDark_X3_nightOn rfl rfl rfl ⟨rfl, hd_X3_nightOn⟩ ⟨Nat.le_of_ble_eq_true rfl, Nat.le_of_ble_eq_true rfl⟩) (pwV (ci := 3) (q0 := 0) (C := RX3) hw hK rfl rfl rfl (rpS (AV := [.ref (M 0)]) hw hK hG rp_75)) rfl rfl hl.1 rfl (lv_room (Nat.le_of_ble_eq_true rfl)) dX3_nightsUntilDark_26 ⟨Nat.le_of_ble_eq_true rfl, Nat.le_of_ble_eq_true rfl⟩) hw hA rp_76 (fun H locs hw => ?_)
      refine lv_pop hx hb dX3_nightsUntilDark_29 rfl ?_
      refine lv_iinc (v := nI (i + 1)) (lv' := [(1, .int (nI (i + 1))), (0, .ref (M 0))]) hx hb dX3_nightsUntilDark_30 hl (k := 1) rfl (nI_add i 1) (by decide) rfl (fun ls hl => ?_)
      refine lv_goto (tgt := 11) hx hb dX3_nightsUntilDark_33 (by decide) ?_
      exact ih_11 (i + 1) _ _ _ (by omega) (hw.to (by first | rfl | assumption | (simp only [l_mpass, if_true, if_false, Bool.false_eq_true, Bool.true_eq_false, reduceIte, reduceCtorEq]; done) | (simp only [l_mpass, if_true, if_false, Bool.false_eq_true, Bool.true_eq_false, reduceIte, reduceCtorEq]; rfl) | (simp [l_mpass, if_true, if_false, Bool.false_eq_true, Bool.true_eq_false, reduceIte, reduceCtorEq]; done) | (simp [bI, l_mpass]; done))) (lv_sub hl [1, 0] rfl)
  exact L_11 (K - 0) 0 _ _ _ (by omega) hw (lv_sub hl [1, 0] rfl)
set_option maxHeartbeats 4000000 in
set_option maxRecDepth 100000 in
theorem c_X3_nightsUntilDark_n (l : Launch) (E : Ev) (M : Nat → Nat) (th : Int32) (Hb : MH) (a k : Fn) (h1 : n_ns Hb ≤ 5) (h2 : n_np Hb ≤ 16) (h3 : n_nw Hb ≤ 4) (h4 : ∀ p, p < n_np Hb → n_so Hb p < 5) (hK1 : ∀ i, i < 201 → l_mdk Hb (l_mpass Hb a i) (n_np Hb) = 0) : MI l E yX3_nightsUntilDark wsX3_nightsUntilDark rm_X3_nightsUntilDark [.ref (M 0)] (wN E M (th, Hb, a, k)) (-1) (wN E M (0, Hb, a, a)) := by
  refine k_bI (cc := cX3_nightsUntilDark) (maxL := 2) (ret := (some .int)) (by decide) rfl (Nat.le_of_ble_eq_true rfl) ?_
  intro p9 e s9 m args below meth c A9 ls hC hl hw
  obtain ⟨hx, hb, hml, hr, hown, hts, hlocks, hK, hG, hA⟩ := hC
  have hf29 := hts (.fieldLink RX3 29 "SailorCandlesModel" "thrown" "I") (List.mem_of_getElem? (i := 1) rfl)
  have hinX3 : ∀ w ∈ wsX30, w ∈ wsX3_nightsUntilDark := fun w h => List.mem_cons_of_mem _ (List.mem_append_right _ h)
  have hl : lv_has ls 2 [(0, .ref (M 0))] := hl
  refine lv_aload_n hx hb dX3_nightsUntilDark_0 rfl (lv_at hl 0 rfl) ?_
  refine lv_iconst (v := 0) hx hb dX3_nightsUntilDark_1 (by decide) ?_
  refine k_put (ci := 3) (C := RX3) (T := TX3) (N := 10) (ws' := wN E M (0, Hb, a, k)) hx hb hown hK hw hts hinX3 tyX3 tyX3_ok nmX3 0 rfl rfl 0 (by decide) hf29 rfl rfl (Nat.le_of_ble_eq_true rfl) dX3_nightsUntilDark_2 rfl (fun H locs hw => ?_)
  refine lv_aload_n hx hb dX3_nightsUntilDark_5 rfl (lv_at hl 0 rfl) ?_
  refine kr_v (ws' := wN E M (0, Hb, a, a)) (va_runV (As := []) (rest := []) ⟨hx, hb, hml, hown, hts⟩ (c_X3_keep l E M 0 Hb a k  _) (cwV 0 hts gX3_nightsUntilDark_X3_keep rfl rfl rfl ⟨rfl, hd_X3_keep⟩ ⟨Nat.le_of_ble_eq_true rfl, Nat.le_of_ble_eq_true rfl⟩) (pwV (ci := 3) (q0 := 0) (C := RX3) hw hK rfl rfl rfl (rpS (AV := [.ref (M 0)]) hw hK hG rp_75)) rfl rfl hl.1 rfl (lv_room (Nat.le_of_ble_eq_true rfl)) dX3_nightsUntilDark_6 ⟨Nat.le_of_ble_eq_true rfl, Nat.le_of_ble_eq_true rfl⟩) hw hA rp_76 (fun H locs hw => ?_)
  refine lv_iconst (v := 0) hx hb dX3_nightsUntilDark_9 (by decide) ?_
  refine lv_istore_n (lv' := [(1, .int 0), (0, .ref (M 0))]) hx hb dX3_nightsUntilDark_10 rfl hl (by decide) rfl (fun ls hl => ?_)
  have L_11 : ∀ (k9 i : Nat) (H : Heap) (locs : List Loc) (ls : Array Slot), i + k9 = 201 → Wd E A9 s9.heap (wN E M (0, Hb, l_mpass Hb a i, a)) H locs → lv_has ls 2 [(0, .ref (M 0)), (1, .int (nI i))] → W p9 l e rm_X3_nightsUntilDark s9 m args below meth c H locs 0 0 (EndI E A9 (-1) (wN E M (0, Hb, a, a)) below args s9 (rm_X3_nightsUntilDark).cells (rm_X3_nightsUntilDark).slots) (F0 m 11 ls []) := by
    intro k9
    induction k9 with
    | zero =>
      intro i H locs ls hi hw hl
      have hz_1 : 201 = i := by omega
      refine lv_iload_n hx hb dX3_nightsUntilDark_11 rfl (lv_at hl 1 rfl) ?_
      refine lv_sipush (v := 200) hx hb dX3_nightsUntilDark_12 (by decide) ?_
      refine lv_icmp_gt (tgt := 36) hx hb dX3_nightsUntilDark_15 (by decide) (fun _ => ?_) (fun q8 => absurd (by rw [← hz_1]; decide) q8)
      refine lv_aload_n hx hb dX3_nightsUntilDark_36 rfl (lv_at hl 0 rfl) ?_
      refine kr_v (ws' := wN E M (0, Hb, a, a)) (va_runV (As := []) (rest := []) ⟨hx, hb, hml, hown, hts⟩ (c_X3_bringBack l E M 0 Hb (l_mpass Hb a i) a  _) (cwV 0 hts gX3_nightsUntilDark_X3_bringBack rfl rfl rfl ⟨rfl, hd_X3_bringBack⟩ ⟨Nat.le_of_ble_eq_true rfl, Nat.le_of_ble_eq_true rfl⟩) (pwV (ci := 3) (q0 := 0) (C := RX3) hw hK rfl rfl rfl (rpS (AV := [.ref (M 0)]) hw hK hG rp_75)) rfl rfl hl.1 rfl (lv_room (Nat.le_of_ble_eq_true rfl)) dX3_nightsUntilDark_37 ⟨Nat.le_of_ble_eq_true rfl, Nat.le_of_ble_eq_true rfl⟩) hw hA rp_76 (fun H locs hw => ?_)
      refine lv_iload_n hx hb dX3_nightsUntilDark_40 rfl (lv_at hl 1 rfl) ?_
      refine lv_sipush (v := 200) hx hb dX3_nightsUntilDark_41 (by decide) ?_
      refine lv_icmp_le (tgt := 51) hx hb dX3_nightsUntilDark_44 (by decide) (fun q8 => absurd q8 (by rw [← hz_1]; decide)) (fun _ => ?_)
      refine lv_iconst (v := (-1)) hx hb dX3_nightsUntilDark_47 (by decide) ?_
      refine lv_goto (tgt := 52) hx hb dX3_nightsUntilDark_48 (by decide) ?_
      exact k_iret hx hb hr hlocks hK hw rfl dX3_nightsUntilDark_52 rfl rfl
    | succ k9 ih_11 =>
      intro i H locs ls hi hw hl
      have hi9 : i < 201 := by omega
      refine lv_iload_n hx hb dX3_nightsUntilDark_11 rfl (lv_at hl 1 rfl) ?_
      refine lv_sipush (v := 200) hx hb dX3_nightsUntilDark_12 (by decide) ?_
      refine lv_icmp_gt (tgt := 36) hx hb dX3_nightsUntilDark_15 (by decide) (fun q8 => absurd q8 (nI_nlt (a := 200) (b := i) (by omega) (by omega))) (fun _ => ?_)
      refine lv_aload_n hx hb dX3_nightsUntilDark_18 rfl (lv_at hl 0 rfl) ?_
      refine kr_i (ws' := wN E M (0, Hb, l_mpass Hb a i, a)) (va_runV (As := []) (rest := []) ⟨hx, hb, hml, hown, hts⟩ (c_X3_allDark l E M 0 Hb (l_mpass Hb a i) a (by omega) (by omega) (by omega) (h4) _) (cwV 0 hts gX3_nightsUntilDark_X3_allDark rfl rfl rfl ⟨rfl, hd_X3_allDark⟩ ⟨Nat.le_of_ble_eq_true rfl, Nat.le_of_ble_eq_true rfl⟩) (pwV (ci := 3) (q0 := 0) (C := RX3) hw hK rfl rfl rfl (rpS (AV := [.ref (M 0)]) hw hK hG rp_75)) rfl rfl hl.1 rfl (lv_room (Nat.le_of_ble_eq_true rfl)) dX3_nightsUntilDark_19 ⟨Nat.le_of_ble_eq_true rfl, Nat.le_of_ble_eq_true rfl⟩) hw hA rp_75 (fun H locs hw => ?_)
      refine lv_if_ne (tgt := 36) hx hb dX3_nightsUntilDark_22 (by decide) (fun q8 => absurd (hK1 i hi9) q8) (fun _ => ?_)
      refine lv_aload_n hx hb dX3_nightsUntilDark_25 rfl (lv_at hl 0 rfl) ?_
      refine kr_i (ws' := wN E M (0, Hb, r_night Hb (l_mpass Hb a i), a)) (va_runV (As := []) (rest := []) ⟨hx, hb, hml, hown, hts⟩ (c_X3_nightOn l E M 0 Hb (l_mpass Hb a i) a (by omega) (by omega) (by omega) (h4) _) (cwV 0 hts gX3_nightsUntilDark_X3_nightOn rfl rfl rfl ⟨rfl, hd_X3_nightOn⟩ ⟨Nat.le_of_ble_eq_true rfl, Nat.le_of_ble_eq_true rfl⟩) (pwV (ci := 3) (q0 := 0) (C := RX3) hw hK rfl rfl rfl (rpS (AV := [.ref (M 0)]) hw hK hG rp_75)) rfl rfl hl.1 rfl (lv_room (Nat.le_of_ble_eq_true rfl)) dX3_nightsUntilDark_26 ⟨Nat.le_of_ble_eq_true rfl, Nat.le_of_ble_eq_true rfl⟩) hw hA rp_76 (fun H locs hw => ?_)
      refine lv_pop hx hb dX3_nightsUntilDark_29 rfl ?_
      refine lv_iinc (v := nI (i + 1)) (lv' := [(1, .int (nI (i + 1))), (0, .ref (M 0))]) hx hb dX3_nightsUntilDark_30 hl (k := 1) rfl (nI_add i 1) (by decide) rfl (fun ls hl => ?_)
      refine lv_goto (tgt := 11) hx hb dX3_nightsUntilDark_33 (by decide) ?_
      exact ih_11 (i + 1) _ _ _ (by omega) (hw.to (by first | rfl | assumption | (simp only [l_mpass, if_true, if_false, Bool.false_eq_true, Bool.true_eq_false, reduceIte, reduceCtorEq]; done) | (simp only [l_mpass, if_true, if_false, Bool.false_eq_true, Bool.true_eq_false, reduceIte, reduceCtorEq]; rfl) | (simp [l_mpass, if_true, if_false, Bool.false_eq_true, Bool.true_eq_false, reduceIte, reduceCtorEq]; done) | (simp [bI, l_mpass]; done))) (lv_sub hl [1, 0] rfl)
  exact L_11 (201 - 0) 0 _ _ _ (by omega) hw (lv_sub hl [1, 0] rfl)
