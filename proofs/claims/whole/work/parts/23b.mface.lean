abbrev rm_X3_sail : Room := { frames := 2, cells := 0, slots := 0, locals := 43 }
set_option maxHeartbeats 4000000 in
set_option maxRecDepth 100000 in
theorem c_X3_sail_1 (l : Launch) (E : Ev) (M : Nat → Nat) (th : Int32) (Hb : MH) (a k : Fn) (s : Int32) (h1 : n_ns Hb ≤ 5) (h2 : n_np Hb ≤ 16) (h3 : n_nw Hb ≤ 4) (h4 : ∀ p, p < n_np Hb → n_so Hb p < 5) (hd_ns : d_in s 0 (nI (n_ns Hb) - 1) = false) : MI l E yX3_sail wsX3_sail rm_X3_sail [.ref (M 0), .int s] (wN E M (th, Hb, a, k)) 0 (wN E M (1, Hb, a, k)) := by
  refine k_bI (cc := cX3_sail) (maxL := 4) (ret := (some .int)) (by decide) rfl (Nat.le_of_ble_eq_true rfl) ?_
  intro p9 e s9 m args below meth c A9 ls hC hl hw
  obtain ⟨hx, hb, hml, hr, hown, hts, hlocks, hK, hG, hA⟩ := hC
  have hf29 := hts (.fieldLink RX3 29 "SailorCandlesModel" "thrown" "I") (List.mem_of_getElem? (i := 1) rfl)
  have hinX3 : ∀ w ∈ wsX30, w ∈ wsX3_sail := fun w h => List.mem_cons_of_mem _ (List.mem_append_right _ h)
  have hl : lv_has ls 4 [(0, .ref (M 0)), (1, .int s)] := hl
  refine lv_aload_n hx hb dX3_sail_0 rfl (lv_at hl 0 rfl) ?_
  refine lv_iconst (v := 0) hx hb dX3_sail_1 (by decide) ?_
  refine k_put (ci := 3) (C := RX3) (T := TX3) (N := 10) (ws' := wN E M (0, Hb, a, k)) hx hb hown hK hw hts hinX3 tyX3 tyX3_ok nmX3 0 rfl rfl 0 (by decide) hf29 rfl rfl (Nat.le_of_ble_eq_true rfl) dX3_sail_2 rfl (fun H locs hw => ?_)
  refine lv_aload_n hx hb dX3_sail_5 rfl (lv_at hl 0 rfl) ?_
  refine lv_iload_n hx hb dX3_sail_6 rfl (lv_at hl 1 rfl) ?_
  refine kr_i (ws' := wN E M (0, Hb, a, k)) (va_runV (As := [.int s]) (rest := []) ⟨hx, hb, hml, hown, hts⟩ (c_X3_isShip l E M 0 Hb a k s  _) (cwV 1 hts gX3_sail_X3_isShip rfl rfl rfl ⟨rfl, hd_X3_isShip⟩ ⟨Nat.le_of_ble_eq_true rfl, Nat.le_of_ble_eq_true rfl⟩) (pwV (ci := 3) (q0 := 0) (C := RX3) hw hK rfl rfl rfl (rpS (AV := [.ref (M 0), .int s]) hw hK hG rp_75)) rfl rfl hl.1 rfl (lv_room (Nat.le_of_ble_eq_true rfl)) dX3_sail_7 ⟨Nat.le_of_ble_eq_true rfl, Nat.le_of_ble_eq_true rfl⟩) hw hA rp_75 (fun H locs hw => ?_)
  refine lv_if_ne (tgt := 19) hx hb dX3_sail_10 (by decide) (fun q8 => absurd (by rw [hd_ns]; rfl) q8) (fun _ => ?_)
  refine lv_aload_n hx hb dX3_sail_13 rfl (lv_at hl 0 rfl) ?_
  refine lv_iconst (v := 1) hx hb dX3_sail_14 (by decide) ?_
  refine kr_i (ws' := wN E M (1, Hb, a, k)) (va_runV (As := [.int 1]) (rest := []) ⟨hx, hb, hml, hown, hts⟩ (c_X3_no l E M 0 Hb a k 1  _) (cwV 1 hts gX3_sail_X3_no rfl rfl rfl ⟨rfl, hd_X3_no⟩ ⟨Nat.le_of_ble_eq_true rfl, Nat.le_of_ble_eq_true rfl⟩) (pwV (ci := 3) (q0 := 0) (C := RX3) hw hK rfl rfl rfl (rpS (AV := [.ref (M 0), .int 1]) hw hK hG rp_75)) rfl rfl hl.1 rfl (lv_room (Nat.le_of_ble_eq_true rfl)) dX3_sail_15 ⟨Nat.le_of_ble_eq_true rfl, Nat.le_of_ble_eq_true rfl⟩) hw hA rp_76 (fun H locs hw => ?_)
  exact k_iret hx hb hr hlocks hK hw rfl dX3_sail_18 rfl rfl
set_option maxHeartbeats 4000000 in
set_option maxRecDepth 100000 in
theorem c_X3_sail_2 (l : Launch) (E : Ev) (M : Nat → Nat) (th : Int32) (Hb : MH) (a k : Fn) (s : Nat) (h1 : n_ns Hb ≤ 5) (h2 : n_np Hb ≤ 16) (h3 : n_nw Hb ≤ 4) (h4 : ∀ p, p < n_np Hb → n_so Hb p < 5) (hs : s < n_ns Hb) (hh : ¬ a (3 + 3 * s + 0) = 0) : MI l E yX3_sail wsX3_sail rm_X3_sail [.ref (M 0), .int (nI s)] (wN E M (th, Hb, a, k)) 0 (wN E M (2, Hb, a, k)) := by
  refine k_bI (cc := cX3_sail) (maxL := 4) (ret := (some .int)) (by decide) rfl (Nat.le_of_ble_eq_true rfl) ?_
  intro p9 e s9 m args below meth c A9 ls hC hl hw
  obtain ⟨hx, hb, hml, hr, hown, hts, hlocks, hK, hG, hA⟩ := hC
  have hf29 := hts (.fieldLink RX3 29 "SailorCandlesModel" "thrown" "I") (List.mem_of_getElem? (i := 1) rfl)
  have hinX3 : ∀ w ∈ wsX30, w ∈ wsX3_sail := fun w h => List.mem_cons_of_mem _ (List.mem_append_right _ h)
  have hf23 := hts (.fieldLink RX3 23 "SailorCandlesModel" "now" "[I") (List.mem_of_getElem? (i := 2) rfl)
  have hl : lv_has ls 4 [(0, .ref (M 0)), (1, .int (nI s))] := hl
  refine lv_aload_n hx hb dX3_sail_0 rfl (lv_at hl 0 rfl) ?_
  refine lv_iconst (v := 0) hx hb dX3_sail_1 (by decide) ?_
  refine k_put (ci := 3) (C := RX3) (T := TX3) (N := 10) (ws' := wN E M (0, Hb, a, k)) hx hb hown hK hw hts hinX3 tyX3 tyX3_ok nmX3 0 rfl rfl 0 (by decide) hf29 rfl rfl (Nat.le_of_ble_eq_true rfl) dX3_sail_2 rfl (fun H locs hw => ?_)
  refine lv_aload_n hx hb dX3_sail_5 rfl (lv_at hl 0 rfl) ?_
  refine lv_iload_n hx hb dX3_sail_6 rfl (lv_at hl 1 rfl) ?_
  refine kr_i (ws' := wN E M (0, Hb, a, k)) (va_runV (As := [.int (nI s)]) (rest := []) ⟨hx, hb, hml, hown, hts⟩ (c_X3_isShip l E M 0 Hb a k (nI s)  _) (cwV 1 hts gX3_sail_X3_isShip rfl rfl rfl ⟨rfl, hd_X3_isShip⟩ ⟨Nat.le_of_ble_eq_true rfl, Nat.le_of_ble_eq_true rfl⟩) (pwV (ci := 3) (q0 := 0) (C := RX3) hw hK rfl rfl rfl (rpS (AV := [.ref (M 0), .int (nI s)]) hw hK hG rp_75)) rfl rfl hl.1 rfl (lv_room (Nat.le_of_ble_eq_true rfl)) dX3_sail_7 ⟨Nat.le_of_ble_eq_true rfl, Nat.le_of_ble_eq_true rfl⟩) hw hA rp_75 (fun H locs hw => ?_)
  refine lv_if_ne (tgt := 19) hx hb dX3_sail_10 (by decide) (fun _ => ?_) (fun q8 => absurd q8 (fun q7 => absurd ((d_in_n (n := s) (k := n_ns Hb) (by omega) (by omega)).symm.trans (bI_z q7)) (by decide)))
  refine lv_aload_n hx hb dX3_sail_19 rfl (lv_at hl 0 rfl) ?_
  refine k_get (ci := 3) (v := .ref (M 5)) (C := RX3) (T := TX3) (N := 10) hx hb hown hK hw hts hinX3 0 rfl rfl 8 (by decide) hf23 rfl dX3_sail_20 ?_
  refine lv_iload_n hx hb dX3_sail_23 rfl (lv_at hl 1 rfl) ?_
  refine lv_iconst (v := 0) hx hb dX3_sail_24 (by decide) ?_
  refine kr_i (ws' := wN E M (0, Hb, a, k)) (va_runS (As := [.int (nI s), .int 0]) (rest := [.ref (M 5)]) ⟨hx, hb, hml, hown, hts⟩ (c_X3_ship l E s 0  _) (va_cwS 2 hts gX3_sail_X3_ship rfl rfl rfl hd_X3_ship ⟨Nat.le_of_ble_eq_true rfl, Nat.le_of_ble_eq_true rfl⟩) (rpS (AV := [.int (nI s), .int 0]) hw hK hG rp_74) rfl rfl hl.1 rfl (lv_room (Nat.le_of_ble_eq_true rfl)) dX3_sail_25 ⟨Nat.le_of_ble_eq_true rfl, Nat.le_of_ble_eq_true rfl⟩) hw hA rp_74 (fun H locs hw => ?_)
  refine k_ildN (i := 3 + 3 * s + 0) (f := a) hx hb hK hw 5 rfl (by omega) (by omega) dX3_sail_28 ?_
  refine lv_if_eq (tgt := 38) hx hb dX3_sail_29 (by decide) (fun q8 => absurd q8 hh) (fun _ => ?_)
  refine lv_aload_n hx hb dX3_sail_32 rfl (lv_at hl 0 rfl) ?_
  refine lv_iconst (v := 2) hx hb dX3_sail_33 (by decide) ?_
  refine kr_i (ws' := wN E M (2, Hb, a, k)) (va_runV (As := [.int 2]) (rest := []) ⟨hx, hb, hml, hown, hts⟩ (c_X3_no l E M 0 Hb a k 2  _) (cwV 1 hts gX3_sail_X3_no rfl rfl rfl ⟨rfl, hd_X3_no⟩ ⟨Nat.le_of_ble_eq_true rfl, Nat.le_of_ble_eq_true rfl⟩) (pwV (ci := 3) (q0 := 0) (C := RX3) hw hK rfl rfl rfl (rpS (AV := [.ref (M 0), .int 2]) hw hK hG rp_75)) rfl rfl hl.1 rfl (lv_room (Nat.le_of_ble_eq_true rfl)) dX3_sail_34 ⟨Nat.le_of_ble_eq_true rfl, Nat.le_of_ble_eq_true rfl⟩) hw hA rp_76 (fun H locs hw => ?_)
  exact k_iret hx hb hr hlocks hK hw rfl dX3_sail_37 rfl rfl
set_option maxHeartbeats 4000000 in
set_option maxRecDepth 100000 in
theorem c_X3_sail (l : Launch) (E : Ev) (M : Nat → Nat) (th : Int32) (Hb : MH) (a k : Fn) (s : Nat) (h1 : n_ns Hb ≤ 5) (h2 : n_np Hb ≤ 16) (h3 : n_nw Hb ≤ 4) (h4 : ∀ p, p < n_np Hb → n_so Hb p < 5) (hs : s < n_ns Hb) (hh : a (3 + 3 * s + 0) = 0) : MI l E yX3_sail wsX3_sail rm_X3_sail [.ref (M 0), .int (nI s)] (wN E M (th, Hb, a, k)) (l_mslN Hb s (r_sailA a s) (n_np Hb)) (wN E M (0, Hb, l_msl Hb s (r_sailA a s) (n_np Hb), k)) := by
  refine k_bI (cc := cX3_sail) (maxL := 4) (ret := (some .int)) (by decide) rfl (Nat.le_of_ble_eq_true rfl) ?_
  intro p9 e s9 m args below meth c A9 ls hC hl hw
  obtain ⟨hx, hb, hml, hr, hown, hts, hlocks, hK, hG, hA⟩ := hC
  have hf29 := hts (.fieldLink RX3 29 "SailorCandlesModel" "thrown" "I") (List.mem_of_getElem? (i := 1) rfl)
  have hinX3 : ∀ w ∈ wsX30, w ∈ wsX3_sail := fun w h => List.mem_cons_of_mem _ (List.mem_append_right _ h)
  have hf23 := hts (.fieldLink RX3 23 "SailorCandlesModel" "now" "[I") (List.mem_of_getElem? (i := 2) rfl)
  have hf40 := hts (.fieldLink RX3 40 "SailorCandlesModel" "sailors" "I") (List.mem_of_getElem? (i := 3) rfl)
  have hf13 := hts (.fieldLink RX3 13 "SailorCandlesModel" "shipOf" "[I") (List.mem_of_getElem? (i := 4) rfl)
  have hl : lv_has ls 4 [(0, .ref (M 0)), (1, .int (nI s))] := hl
  refine lv_aload_n hx hb dX3_sail_0 rfl (lv_at hl 0 rfl) ?_
  refine lv_iconst (v := 0) hx hb dX3_sail_1 (by decide) ?_
  refine k_put (ci := 3) (C := RX3) (T := TX3) (N := 10) (ws' := wN E M (0, Hb, a, k)) hx hb hown hK hw hts hinX3 tyX3 tyX3_ok nmX3 0 rfl rfl 0 (by decide) hf29 rfl rfl (Nat.le_of_ble_eq_true rfl) dX3_sail_2 rfl (fun H locs hw => ?_)
  refine lv_aload_n hx hb dX3_sail_5 rfl (lv_at hl 0 rfl) ?_
  refine lv_iload_n hx hb dX3_sail_6 rfl (lv_at hl 1 rfl) ?_
  refine kr_i (ws' := wN E M (0, Hb, a, k)) (va_runV (As := [.int (nI s)]) (rest := []) ⟨hx, hb, hml, hown, hts⟩ (c_X3_isShip l E M 0 Hb a k (nI s)  _) (cwV 1 hts gX3_sail_X3_isShip rfl rfl rfl ⟨rfl, hd_X3_isShip⟩ ⟨Nat.le_of_ble_eq_true rfl, Nat.le_of_ble_eq_true rfl⟩) (pwV (ci := 3) (q0 := 0) (C := RX3) hw hK rfl rfl rfl (rpS (AV := [.ref (M 0), .int (nI s)]) hw hK hG rp_75)) rfl rfl hl.1 rfl (lv_room (Nat.le_of_ble_eq_true rfl)) dX3_sail_7 ⟨Nat.le_of_ble_eq_true rfl, Nat.le_of_ble_eq_true rfl⟩) hw hA rp_75 (fun H locs hw => ?_)
  refine lv_if_ne (tgt := 19) hx hb dX3_sail_10 (by decide) (fun _ => ?_) (fun q8 => absurd q8 (fun q7 => absurd ((d_in_n (n := s) (k := n_ns Hb) (by omega) (by omega)).symm.trans (bI_z q7)) (by decide)))
  refine lv_aload_n hx hb dX3_sail_19 rfl (lv_at hl 0 rfl) ?_
  refine k_get (ci := 3) (v := .ref (M 5)) (C := RX3) (T := TX3) (N := 10) hx hb hown hK hw hts hinX3 0 rfl rfl 8 (by decide) hf23 rfl dX3_sail_20 ?_
  refine lv_iload_n hx hb dX3_sail_23 rfl (lv_at hl 1 rfl) ?_
  refine lv_iconst (v := 0) hx hb dX3_sail_24 (by decide) ?_
  refine kr_i (ws' := wN E M (0, Hb, a, k)) (va_runS (As := [.int (nI s), .int 0]) (rest := [.ref (M 5)]) ⟨hx, hb, hml, hown, hts⟩ (c_X3_ship l E s 0  _) (va_cwS 2 hts gX3_sail_X3_ship rfl rfl rfl hd_X3_ship ⟨Nat.le_of_ble_eq_true rfl, Nat.le_of_ble_eq_true rfl⟩) (rpS (AV := [.int (nI s), .int 0]) hw hK hG rp_74) rfl rfl hl.1 rfl (lv_room (Nat.le_of_ble_eq_true rfl)) dX3_sail_25 ⟨Nat.le_of_ble_eq_true rfl, Nat.le_of_ble_eq_true rfl⟩) hw hA rp_74 (fun H locs hw => ?_)
  refine k_ildN (i := 3 + 3 * s + 0) (f := a) hx hb hK hw 5 rfl (by omega) (by omega) dX3_sail_28 ?_
  refine lv_if_eq (tgt := 38) hx hb dX3_sail_29 (by decide) (fun _ => ?_) (fun q8 => absurd hh q8)
  refine lv_aload_n hx hb dX3_sail_38 rfl (lv_at hl 0 rfl) ?_
  refine k_get (ci := 3) (v := .ref (M 5)) (C := RX3) (T := TX3) (N := 10) hx hb hown hK hw hts hinX3 0 rfl rfl 8 (by decide) hf23 rfl dX3_sail_39 ?_
  refine lv_iload_n hx hb dX3_sail_42 rfl (lv_at hl 1 rfl) ?_
  refine lv_iconst (v := 0) hx hb dX3_sail_43 (by decide) ?_
  refine kr_i (ws' := wN E M (0, Hb, a, k)) (va_runS (As := [.int (nI s), .int 0]) (rest := [.ref (M 5)]) ⟨hx, hb, hml, hown, hts⟩ (c_X3_ship l E s 0  _) (va_cwS 2 hts gX3_sail_X3_ship rfl rfl rfl hd_X3_ship ⟨Nat.le_of_ble_eq_true rfl, Nat.le_of_ble_eq_true rfl⟩) (rpS (AV := [.int (nI s), .int 0]) hw hK hG rp_74) rfl rfl hl.1 rfl (lv_room (Nat.le_of_ble_eq_true rfl)) dX3_sail_44 ⟨Nat.le_of_ble_eq_true rfl, Nat.le_of_ble_eq_true rfl⟩) hw hA rp_74 (fun H locs hw => ?_)
  refine lv_iconst (v := 1) hx hb dX3_sail_47 (by decide) ?_
  refine k_istN (i := 3 + 3 * s + 0) (ws' := wN E M (0, Hb, upd a (3 + 3 * s + 0) 1, k)) hx hb hK hw 5 rfl (by omega) (by omega) dX3_sail_48 rfl (fun H locs hw => ?_)
  refine lv_aload_n hx hb dX3_sail_49 rfl (lv_at hl 0 rfl) ?_
  refine k_get (ci := 3) (v := .ref (M 5)) (C := RX3) (T := TX3) (N := 10) hx hb hown hK hw hts hinX3 0 rfl rfl 8 (by decide) hf23 rfl dX3_sail_50 ?_
  refine lv_iload_n hx hb dX3_sail_53 rfl (lv_at hl 1 rfl) ?_
  refine lv_iconst (v := 1) hx hb dX3_sail_54 (by decide) ?_
  refine kr_i (ws' := wN E M (0, Hb, upd a (3 + 3 * s + 0) 1, k)) (va_runS (As := [.int (nI s), .int 1]) (rest := [.ref (M 5)]) ⟨hx, hb, hml, hown, hts⟩ (c_X3_ship l E s 1  _) (va_cwS 2 hts gX3_sail_X3_ship rfl rfl rfl hd_X3_ship ⟨Nat.le_of_ble_eq_true rfl, Nat.le_of_ble_eq_true rfl⟩) (rpS (AV := [.int (nI s), .int 1]) hw hK hG rp_74) rfl rfl hl.1 rfl (lv_room (Nat.le_of_ble_eq_true rfl)) dX3_sail_55 ⟨Nat.le_of_ble_eq_true rfl, Nat.le_of_ble_eq_true rfl⟩) hw hA rp_74 (fun H locs hw => ?_)
  refine lv_iconst (v := 0) hx hb dX3_sail_58 (by decide) ?_
  refine k_istN (i := 3 + 3 * s + 1) (ws' := wN E M (0, Hb, upd (upd a (3 + 3 * s + 0) 1) (3 + 3 * s + 1) 0, k)) hx hb hK hw 5 rfl (by omega) (by omega) dX3_sail_59 rfl (fun H locs hw => ?_)
  refine lv_iconst (v := 0) hx hb dX3_sail_60 (by decide) ?_
  refine lv_istore_n (lv' := [(2, .int 0), (0, .ref (M 0)), (1, .int (nI s))]) hx hb dX3_sail_61 rfl hl (by decide) rfl (fun ls hl => ?_)
  refine lv_iconst (v := 0) hx hb dX3_sail_62 (by decide) ?_
  refine lv_istore_n (lv' := [(3, .int 0), (2, .int 0), (0, .ref (M 0)), (1, .int (nI s))]) hx hb dX3_sail_63 rfl hl (by decide) rfl (fun ls hl => ?_)
  have L_64 : ∀ (k9 i : Nat) (H : Heap) (locs : List Loc) (ls : Array Slot), i + k9 = (n_np Hb) → Wd E A9 s9.heap (wN E M (0, Hb, l_msl Hb s ((upd (upd a (3 + 3 * s + 0) 1) (3 + 3 * s + 1) 0)) i, k)) H locs → lv_has ls 4 [(0, .ref (M 0)), (1, .int (nI s)), (2, .int (l_mslN Hb s ((upd (upd a (3 + 3 * s + 0) 1) (3 + 3 * s + 1) 0)) i)), (3, .int (nI i))] → W p9 l e rm_X3_sail s9 m args below meth c H locs 0 0 (EndI E A9 (l_mslN Hb s (r_sailA a s) (n_np Hb)) (wN E M (0, Hb, l_msl Hb s (r_sailA a s) (n_np Hb), k)) below args s9 (rm_X3_sail).cells (rm_X3_sail).slots) (F0 m 64 ls []) := by
    intro k9
    induction k9 with
    | zero =>
      intro i H locs ls hi hw hl
      have hz_1 : n_np Hb = i := by omega
      refine lv_iload_n hx hb dX3_sail_64 rfl (lv_at hl 3 rfl) ?_
      refine lv_aload_n hx hb dX3_sail_65 rfl (lv_at hl 0 rfl) ?_
      refine k_get (ci := 3) (v := .int (nI (n_np Hb))) (C := RX3) (T := TX3) (N := 10) hx hb hown hK hw hts hinX3 0 rfl rfl 3 (by decide) hf40 rfl dX3_sail_66 ?_
      refine lv_icmp_ge (tgt := 110) hx hb dX3_sail_69 (by decide) (fun _ => ?_) (fun q8 => absurd (by rw [← hz_1]; exact Int32.le_refl _) q8)
      refine lv_iload_n hx hb dX3_sail_110 rfl (lv_at hl 2 rfl) ?_
      exact k_iret hx hb hr hlocks hK hw rfl dX3_sail_111 (by subst hz_1; first | rfl | assumption | (simp only [l_msl, l_mslN, if_true, if_false, Bool.false_eq_true, Bool.true_eq_false, reduceIte, reduceCtorEq]; done) | (simp only [l_msl, l_mslN, if_true, if_false, Bool.false_eq_true, Bool.true_eq_false, reduceIte, reduceCtorEq]; rfl) | (simp [l_msl, l_mslN, if_true, if_false, Bool.false_eq_true, Bool.true_eq_false, reduceIte, reduceCtorEq]; done) | (simp [bI, l_msl, l_mslN]; done)) (by subst hz_1; first | rfl | assumption | (simp only [l_msl, l_mslN, if_true, if_false, Bool.false_eq_true, Bool.true_eq_false, reduceIte, reduceCtorEq]; done) | (simp only [l_msl, l_mslN, if_true, if_false, Bool.false_eq_true, Bool.true_eq_false, reduceIte, reduceCtorEq]; rfl) | (simp [l_msl, l_mslN, if_true, if_false, Bool.false_eq_true, Bool.true_eq_false, reduceIte, reduceCtorEq]; done) | (simp [bI, l_msl, l_mslN]; done))
    | succ k9 ih_64 =>
      intro i H locs ls hi hw hl
      have hi9 : i < n_np Hb := by omega
      refine lv_iload_n hx hb dX3_sail_64 rfl (lv_at hl 3 rfl) ?_
      refine lv_aload_n hx hb dX3_sail_65 rfl (lv_at hl 0 rfl) ?_
      refine k_get (ci := 3) (v := .int (nI (n_np Hb))) (C := RX3) (T := TX3) (N := 10) hx hb hown hK hw hts hinX3 0 rfl rfl 3 (by decide) hf40 rfl dX3_sail_66 ?_
      refine lv_icmp_ge (tgt := 110) hx hb dX3_sail_69 (by decide) (fun q8 => absurd q8 (nI_ge (a := i) (b := n_np Hb) (by omega) (by omega))) (fun _ => ?_)
      refine lv_aload_n hx hb dX3_sail_72 rfl (lv_at hl 0 rfl) ?_
      refine k_get (ci := 3) (v := .ref (M 2)) (C := RX3) (T := TX3) (N := 10) hx hb hown hK hw hts hinX3 0 rfl rfl 4 (by decide) hf13 rfl dX3_sail_73 ?_
      refine lv_iload_n hx hb dX3_sail_76 rfl (lv_at hl 3 rfl) ?_
      refine k_nldN (i := i) (f := n_so Hb) hx hb hK hw 2 rfl (by omega) (by omega) dX3_sail_77 ?_
      refine lv_iload_n hx hb dX3_sail_78 rfl (lv_at hl 1 rfl) ?_
      refine lv_icmp_eq (tgt := 85) hx hb dX3_sail_79 (by decide) (fun c_2 => ?_) (fun c_2 => ?_)
      · refine lv_aload_n hx hb dX3_sail_85 rfl (lv_at hl 0 rfl) ?_
        refine k_get (ci := 3) (v := .ref (M 5)) (C := RX3) (T := TX3) (N := 10) hx hb hown hK hw hts hinX3 0 rfl rfl 8 (by decide) hf23 rfl dX3_sail_86 ?_
        refine lv_iload_n hx hb dX3_sail_89 rfl (lv_at hl 3 rfl) ?_
        refine lv_iconst (v := 1) hx hb dX3_sail_90 (by decide) ?_
        refine kr_i (ws' := wN E M (0, Hb, l_msl Hb s ((upd (upd a (3 + 3 * s + 0) 1) (3 + 3 * s + 1) 0)) i, k)) (va_runS (As := [.int (nI i), .int 1]) (rest := [.ref (M 5)]) ⟨hx, hb, hml, hown, hts⟩ (c_X3_sailor l E i 1  _) (va_cwS 2 hts gX3_sail_X3_sailor rfl rfl rfl hd_X3_sailor ⟨Nat.le_of_ble_eq_true rfl, Nat.le_of_ble_eq_true rfl⟩) (rpS (AV := [.int (nI i), .int 1]) hw hK hG rp_74) rfl rfl hl.1 rfl (lv_room (Nat.le_of_ble_eq_true rfl)) dX3_sail_91 ⟨Nat.le_of_ble_eq_true rfl, Nat.le_of_ble_eq_true rfl⟩) hw hA rp_74 (fun H locs hw => ?_)
        refine lv_iconst (v := 0) hx hb dX3_sail_94 (by decide) ?_
        refine k_istN (i := 18 + 2 * i + 1) (ws' := wN E M (0, Hb, upd (l_msl Hb s ((upd (upd a (3 + 3 * s + 0) 1) (3 + 3 * s + 1) 0)) i) (18 + 2 * i + 1) 0, k)) hx hb hK hw 5 rfl (by omega) (by omega) dX3_sail_95 rfl (fun H locs hw => ?_)
        refine lv_iload_n hx hb dX3_sail_96 rfl (lv_at hl 2 rfl) ?_
        refine lv_aload_n hx hb dX3_sail_97 rfl (lv_at hl 0 rfl) ?_
        refine lv_iload_n hx hb dX3_sail_98 rfl (lv_at hl 3 rfl) ?_
        refine kr_i (ws' := wN E M (0, Hb, r_lit (upd (l_msl Hb s ((upd (upd a (3 + 3 * s + 0) 1) (3 + 3 * s + 1) 0)) i) (18 + 2 * i + 1) 0) i, k)) (va_runV (As := [.int (nI i)]) (rest := [.int (l_mslN Hb s ((upd (upd a (3 + 3 * s + 0) 1) (3 + 3 * s + 1) 0)) i)]) ⟨hx, hb, hml, hown, hts⟩ (c_X3_lights l E M 0 Hb (upd (l_msl Hb s ((upd (upd a (3 + 3 * s + 0) 1) (3 + 3 * s + 1) 0)) i) (18 + 2 * i + 1) 0) k i (by omega) (by omega) (by omega) (h4) (by omega) _) (cwV 1 hts gX3_sail_X3_lights rfl rfl rfl ⟨rfl, hd_X3_lights⟩ ⟨Nat.le_of_ble_eq_true rfl, Nat.le_of_ble_eq_true rfl⟩) (pwV (ci := 3) (q0 := 0) (C := RX3) hw hK rfl rfl rfl (rpS (AV := [.ref (M 0), .int (nI i)]) hw hK hG rp_75)) rfl rfl hl.1 rfl (lv_room (Nat.le_of_ble_eq_true rfl)) dX3_sail_99 ⟨Nat.le_of_ble_eq_true rfl, Nat.le_of_ble_eq_true rfl⟩) hw hA rp_76 (fun H locs hw => ?_)
        refine lv_iadd hx hb dX3_sail_102 ?_
        refine lv_istore_n (lv' := [(2, .int ((l_mslN Hb s ((upd (upd a (3 + 3 * s + 0) 1) (3 + 3 * s + 1) 0)) i) + (r_litN (upd (l_msl Hb s ((upd (upd a (3 + 3 * s + 0) 1) (3 + 3 * s + 1) 0)) i) (18 + 2 * i + 1) 0)))), (0, .ref (M 0)), (1, .int (nI s)), (3, .int (nI i))]) hx hb dX3_sail_103 rfl hl (by decide) rfl (fun ls hl => ?_)
        refine lv_iinc (v := nI (i + 1)) (lv' := [(3, .int (nI (i + 1))), (2, .int ((l_mslN Hb s ((upd (upd a (3 + 3 * s + 0) 1) (3 + 3 * s + 1) 0)) i) + (r_litN (upd (l_msl Hb s ((upd (upd a (3 + 3 * s + 0) 1) (3 + 3 * s + 1) 0)) i) (18 + 2 * i + 1) 0)))), (0, .ref (M 0)), (1, .int (nI s))]) hx hb dX3_sail_104 hl (k := 3) rfl (nI_add i 1) (by decide) rfl (fun ls hl => ?_)
        refine lv_goto (tgt := 64) hx hb dX3_sail_107 (by decide) ?_
        exact ih_64 (i + 1) _ _ _ (by omega) (hw.to (by first | assumption | (simp only [l_msl, l_mslN, if_pos c_2, if_true, if_false, Bool.false_eq_true, Bool.true_eq_false, reduceIte, reduceCtorEq]; done) | (simp only [l_msl, l_mslN, if_pos c_2, if_true, if_false, Bool.false_eq_true, Bool.true_eq_false, reduceIte, reduceCtorEq]; rfl) | rfl | (simp [l_msl, l_mslN, if_pos c_2, if_true, if_false, Bool.false_eq_true, Bool.true_eq_false, reduceIte, reduceCtorEq]; done) | (simp [bI, l_msl, l_mslN, c_2]; done))) (by rw [show (.int (l_mslN Hb s ((upd (upd a (3 + 3 * s + 0) 1) (3 + 3 * s + 1) 0)) (i + 1)) : Value) = .int ((l_mslN Hb s ((upd (upd a (3 + 3 * s + 0) 1) (3 + 3 * s + 1) 0)) i) + (r_litN (upd (l_msl Hb s ((upd (upd a (3 + 3 * s + 0) 1) (3 + 3 * s + 1) 0)) i) (18 + 2 * i + 1) 0))) from (by first | assumption | (simp only [l_msl, l_mslN, if_pos c_2, if_true, if_false, Bool.false_eq_true, Bool.true_eq_false, reduceIte, reduceCtorEq]; done) | (simp only [l_msl, l_mslN, if_pos c_2, if_true, if_false, Bool.false_eq_true, Bool.true_eq_false, reduceIte, reduceCtorEq]; rfl) | rfl | (simp [l_msl, l_mslN, if_pos c_2, if_true, if_false, Bool.false_eq_true, Bool.true_eq_false, reduceIte, reduceCtorEq]; done) | (simp [bI, l_msl, l_mslN, c_2]; done))]; exact lv_sub hl [2, 3, 1, 0] rfl)
      · refine lv_goto (tgt := 104) hx hb dX3_sail_82 (by decide) ?_
        refine lv_iinc (v := nI (i + 1)) (lv' := [(3, .int (nI (i + 1))), (0, .ref (M 0)), (1, .int (nI s)), (2, .int (l_mslN Hb s ((upd (upd a (3 + 3 * s + 0) 1) (3 + 3 * s + 1) 0)) i))]) hx hb dX3_sail_104 hl (k := 3) rfl (nI_add i 1) (by decide) rfl (fun ls hl => ?_)
        refine lv_goto (tgt := 64) hx hb dX3_sail_107 (by decide) ?_
        exact ih_64 (i + 1) _ _ _ (by omega) (hw.to (by first | assumption | (simp only [l_msl, l_mslN, if_neg c_2, if_true, if_false, Bool.false_eq_true, Bool.true_eq_false, reduceIte, reduceCtorEq]; done) | (simp only [l_msl, l_mslN, if_neg c_2, if_true, if_false, Bool.false_eq_true, Bool.true_eq_false, reduceIte, reduceCtorEq]; rfl) | rfl | (simp [l_msl, l_mslN, if_neg c_2, if_true, if_false, Bool.false_eq_true, Bool.true_eq_false, reduceIte, reduceCtorEq]; done) | (simp [bI, l_msl, l_mslN, c_2]; done))) (by rw [show (.int (l_mslN Hb s ((upd (upd a (3 + 3 * s + 0) 1) (3 + 3 * s + 1) 0)) (i + 1)) : Value) = .int (l_mslN Hb s ((upd (upd a (3 + 3 * s + 0) 1) (3 + 3 * s + 1) 0)) i) from (by first | assumption | (simp only [l_msl, l_mslN, if_neg c_2, if_true, if_false, Bool.false_eq_true, Bool.true_eq_false, reduceIte, reduceCtorEq]; done) | (simp only [l_msl, l_mslN, if_neg c_2, if_true, if_false, Bool.false_eq_true, Bool.true_eq_false, reduceIte, reduceCtorEq]; rfl) | rfl | (simp [l_msl, l_mslN, if_neg c_2, if_true, if_false, Bool.false_eq_true, Bool.true_eq_false, reduceIte, reduceCtorEq]; done) | (simp [bI, l_msl, l_mslN, c_2]; done))]; exact lv_sub hl [1, 2, 3, 0] rfl)
  exact L_64 ((n_np Hb) - 0) 0 _ _ _ (by omega) hw (lv_sub hl [2, 3, 1, 0] rfl)
abbrev rm_X3_comeHome : Room := { frames := 2, cells := 0, slots := 0, locals := 43 }
set_option maxHeartbeats 4000000 in
set_option maxRecDepth 100000 in
theorem c_X3_comeHome_1 (l : Launch) (E : Ev) (M : Nat → Nat) (th : Int32) (Hb : MH) (a k : Fn) (s : Int32) (h1 : n_ns Hb ≤ 5) (h2 : n_np Hb ≤ 16) (h3 : n_nw Hb ≤ 4) (h4 : ∀ p, p < n_np Hb → n_so Hb p < 5) (hd_ns : d_in s 0 (nI (n_ns Hb) - 1) = false) : MI l E yX3_comeHome wsX3_comeHome rm_X3_comeHome [.ref (M 0), .int s] (wN E M (th, Hb, a, k)) 0 (wN E M (1, Hb, a, k)) := by
  refine k_bI (cc := cX3_comeHome) (maxL := 3) (ret := (some .int)) (by decide) rfl (Nat.le_of_ble_eq_true rfl) ?_
  intro p9 e s9 m args below meth c A9 ls hC hl hw
  obtain ⟨hx, hb, hml, hr, hown, hts, hlocks, hK, hG, hA⟩ := hC
  have hf29 := hts (.fieldLink RX3 29 "SailorCandlesModel" "thrown" "I") (List.mem_of_getElem? (i := 1) rfl)
  have hinX3 : ∀ w ∈ wsX30, w ∈ wsX3_comeHome := fun w h => List.mem_cons_of_mem _ (List.mem_append_right _ h)
  have hl : lv_has ls 3 [(0, .ref (M 0)), (1, .int s)] := hl
  refine lv_aload_n hx hb dX3_comeHome_0 rfl (lv_at hl 0 rfl) ?_
  refine lv_iconst (v := 0) hx hb dX3_comeHome_1 (by decide) ?_
  refine k_put (ci := 3) (C := RX3) (T := TX3) (N := 10) (ws' := wN E M (0, Hb, a, k)) hx hb hown hK hw hts hinX3 tyX3 tyX3_ok nmX3 0 rfl rfl 0 (by decide) hf29 rfl rfl (Nat.le_of_ble_eq_true rfl) dX3_comeHome_2 rfl (fun H locs hw => ?_)
  refine lv_aload_n hx hb dX3_comeHome_5 rfl (lv_at hl 0 rfl) ?_
  refine lv_iload_n hx hb dX3_comeHome_6 rfl (lv_at hl 1 rfl) ?_
  refine kr_i (ws' := wN E M (0, Hb, a, k)) (va_runV (As := [.int s]) (rest := []) ⟨hx, hb, hml, hown, hts⟩ (c_X3_isShip l E M 0 Hb a k s  _) (cwV 1 hts gX3_comeHome_X3_isShip rfl rfl rfl ⟨rfl, hd_X3_isShip⟩ ⟨Nat.le_of_ble_eq_true rfl, Nat.le_of_ble_eq_true rfl⟩) (pwV (ci := 3) (q0 := 0) (C := RX3) hw hK rfl rfl rfl (rpS (AV := [.ref (M 0), .int s]) hw hK hG rp_75)) rfl rfl hl.1 rfl (lv_room (Nat.le_of_ble_eq_true rfl)) dX3_comeHome_7 ⟨Nat.le_of_ble_eq_true rfl, Nat.le_of_ble_eq_true rfl⟩) hw hA rp_75 (fun H locs hw => ?_)
  refine lv_if_ne (tgt := 19) hx hb dX3_comeHome_10 (by decide) (fun q8 => absurd (by rw [hd_ns]; rfl) q8) (fun _ => ?_)
  refine lv_aload_n hx hb dX3_comeHome_13 rfl (lv_at hl 0 rfl) ?_
  refine lv_iconst (v := 1) hx hb dX3_comeHome_14 (by decide) ?_
  refine kr_i (ws' := wN E M (1, Hb, a, k)) (va_runV (As := [.int 1]) (rest := []) ⟨hx, hb, hml, hown, hts⟩ (c_X3_no l E M 0 Hb a k 1  _) (cwV 1 hts gX3_comeHome_X3_no rfl rfl rfl ⟨rfl, hd_X3_no⟩ ⟨Nat.le_of_ble_eq_true rfl, Nat.le_of_ble_eq_true rfl⟩) (pwV (ci := 3) (q0 := 0) (C := RX3) hw hK rfl rfl rfl (rpS (AV := [.ref (M 0), .int 1]) hw hK hG rp_75)) rfl rfl hl.1 rfl (lv_room (Nat.le_of_ble_eq_true rfl)) dX3_comeHome_15 ⟨Nat.le_of_ble_eq_true rfl, Nat.le_of_ble_eq_true rfl⟩) hw hA rp_76 (fun H locs hw => ?_)
  exact k_iret hx hb hr hlocks hK hw rfl dX3_comeHome_18 rfl rfl
set_option maxHeartbeats 4000000 in
set_option maxRecDepth 100000 in
theorem c_X3_comeHome_2 (l : Launch) (E : Ev) (M : Nat → Nat) (th : Int32) (Hb : MH) (a k : Fn) (s : Nat) (h1 : n_ns Hb ≤ 5) (h2 : n_np Hb ≤ 16) (h3 : n_nw Hb ≤ 4) (h4 : ∀ p, p < n_np Hb → n_so Hb p < 5) (hs : s < n_ns Hb) (hh : a (3 + 3 * s + 0) = 0) : MI l E yX3_comeHome wsX3_comeHome rm_X3_comeHome [.ref (M 0), .int (nI s)] (wN E M (th, Hb, a, k)) 0 (wN E M (2, Hb, a, k)) := by
  refine k_bI (cc := cX3_comeHome) (maxL := 3) (ret := (some .int)) (by decide) rfl (Nat.le_of_ble_eq_true rfl) ?_
  intro p9 e s9 m args below meth c A9 ls hC hl hw
  obtain ⟨hx, hb, hml, hr, hown, hts, hlocks, hK, hG, hA⟩ := hC
  have hf29 := hts (.fieldLink RX3 29 "SailorCandlesModel" "thrown" "I") (List.mem_of_getElem? (i := 1) rfl)
  have hinX3 : ∀ w ∈ wsX30, w ∈ wsX3_comeHome := fun w h => List.mem_cons_of_mem _ (List.mem_append_right _ h)
  have hf23 := hts (.fieldLink RX3 23 "SailorCandlesModel" "now" "[I") (List.mem_of_getElem? (i := 2) rfl)
  have hl : lv_has ls 3 [(0, .ref (M 0)), (1, .int (nI s))] := hl
  refine lv_aload_n hx hb dX3_comeHome_0 rfl (lv_at hl 0 rfl) ?_
  refine lv_iconst (v := 0) hx hb dX3_comeHome_1 (by decide) ?_
  refine k_put (ci := 3) (C := RX3) (T := TX3) (N := 10) (ws' := wN E M (0, Hb, a, k)) hx hb hown hK hw hts hinX3 tyX3 tyX3_ok nmX3 0 rfl rfl 0 (by decide) hf29 rfl rfl (Nat.le_of_ble_eq_true rfl) dX3_comeHome_2 rfl (fun H locs hw => ?_)
  refine lv_aload_n hx hb dX3_comeHome_5 rfl (lv_at hl 0 rfl) ?_
  refine lv_iload_n hx hb dX3_comeHome_6 rfl (lv_at hl 1 rfl) ?_
  refine kr_i (ws' := wN E M (0, Hb, a, k)) (va_runV (As := [.int (nI s)]) (rest := []) ⟨hx, hb, hml, hown, hts⟩ (c_X3_isShip l E M 0 Hb a k (nI s)  _) (cwV 1 hts gX3_comeHome_X3_isShip rfl rfl rfl ⟨rfl, hd_X3_isShip⟩ ⟨Nat.le_of_ble_eq_true rfl, Nat.le_of_ble_eq_true rfl⟩) (pwV (ci := 3) (q0 := 0) (C := RX3) hw hK rfl rfl rfl (rpS (AV := [.ref (M 0), .int (nI s)]) hw hK hG rp_75)) rfl rfl hl.1 rfl (lv_room (Nat.le_of_ble_eq_true rfl)) dX3_comeHome_7 ⟨Nat.le_of_ble_eq_true rfl, Nat.le_of_ble_eq_true rfl⟩) hw hA rp_75 (fun H locs hw => ?_)
  refine lv_if_ne (tgt := 19) hx hb dX3_comeHome_10 (by decide) (fun _ => ?_) (fun q8 => absurd q8 (fun q7 => absurd ((d_in_n (n := s) (k := n_ns Hb) (by omega) (by omega)).symm.trans (bI_z q7)) (by decide)))
  refine lv_aload_n hx hb dX3_comeHome_19 rfl (lv_at hl 0 rfl) ?_
  refine k_get (ci := 3) (v := .ref (M 5)) (C := RX3) (T := TX3) (N := 10) hx hb hown hK hw hts hinX3 0 rfl rfl 8 (by decide) hf23 rfl dX3_comeHome_20 ?_
  refine lv_iload_n hx hb dX3_comeHome_23 rfl (lv_at hl 1 rfl) ?_
  refine lv_iconst (v := 0) hx hb dX3_comeHome_24 (by decide) ?_
  refine kr_i (ws' := wN E M (0, Hb, a, k)) (va_runS (As := [.int (nI s), .int 0]) (rest := [.ref (M 5)]) ⟨hx, hb, hml, hown, hts⟩ (c_X3_ship l E s 0  _) (va_cwS 2 hts gX3_comeHome_X3_ship rfl rfl rfl hd_X3_ship ⟨Nat.le_of_ble_eq_true rfl, Nat.le_of_ble_eq_true rfl⟩) (rpS (AV := [.int (nI s), .int 0]) hw hK hG rp_74) rfl rfl hl.1 rfl (lv_room (Nat.le_of_ble_eq_true rfl)) dX3_comeHome_25 ⟨Nat.le_of_ble_eq_true rfl, Nat.le_of_ble_eq_true rfl⟩) hw hA rp_74 (fun H locs hw => ?_)
  refine k_ildN (i := 3 + 3 * s + 0) (f := a) hx hb hK hw 5 rfl (by omega) (by omega) dX3_comeHome_28 ?_
  refine lv_if_ne (tgt := 38) hx hb dX3_comeHome_29 (by decide) (fun q8 => absurd hh q8) (fun _ => ?_)
  refine lv_aload_n hx hb dX3_comeHome_32 rfl (lv_at hl 0 rfl) ?_
  refine lv_iconst (v := 2) hx hb dX3_comeHome_33 (by decide) ?_
  refine kr_i (ws' := wN E M (2, Hb, a, k)) (va_runV (As := [.int 2]) (rest := []) ⟨hx, hb, hml, hown, hts⟩ (c_X3_no l E M 0 Hb a k 2  _) (cwV 1 hts gX3_comeHome_X3_no rfl rfl rfl ⟨rfl, hd_X3_no⟩ ⟨Nat.le_of_ble_eq_true rfl, Nat.le_of_ble_eq_true rfl⟩) (pwV (ci := 3) (q0 := 0) (C := RX3) hw hK rfl rfl rfl (rpS (AV := [.ref (M 0), .int 2]) hw hK hG rp_75)) rfl rfl hl.1 rfl (lv_room (Nat.le_of_ble_eq_true rfl)) dX3_comeHome_34 ⟨Nat.le_of_ble_eq_true rfl, Nat.le_of_ble_eq_true rfl⟩) hw hA rp_76 (fun H locs hw => ?_)
  exact k_iret hx hb hr hlocks hK hw rfl dX3_comeHome_37 rfl rfl
set_option maxHeartbeats 4000000 in
set_option maxRecDepth 100000 in
theorem c_X3_comeHome (l : Launch) (E : Ev) (M : Nat → Nat) (th : Int32) (Hb : MH) (a k : Fn) (s : Nat) (h1 : n_ns Hb ≤ 5) (h2 : n_np Hb ≤ 16) (h3 : n_nw Hb ≤ 4) (h4 : ∀ p, p < n_np Hb → n_so Hb p < 5) (hs : s < n_ns Hb) (hh : ¬ a (3 + 3 * s + 0) = 0) : MI l E yX3_comeHome wsX3_comeHome rm_X3_comeHome [.ref (M 0), .int (nI s)] (wN E M (th, Hb, a, k)) (r_home Hb a s (3 + 3 * s + 1)) (wN E M (0, Hb, r_home Hb a s, k)) := by
  refine k_bI (cc := cX3_comeHome) (maxL := 3) (ret := (some .int)) (by decide) rfl (Nat.le_of_ble_eq_true rfl) ?_
  intro p9 e s9 m args below meth c A9 ls hC hl hw
  obtain ⟨hx, hb, hml, hr, hown, hts, hlocks, hK, hG, hA⟩ := hC
  have hf29 := hts (.fieldLink RX3 29 "SailorCandlesModel" "thrown" "I") (List.mem_of_getElem? (i := 1) rfl)
  have hinX3 : ∀ w ∈ wsX30, w ∈ wsX3_comeHome := fun w h => List.mem_cons_of_mem _ (List.mem_append_right _ h)
  have hf23 := hts (.fieldLink RX3 23 "SailorCandlesModel" "now" "[I") (List.mem_of_getElem? (i := 2) rfl)
  have hf43 := hts (.fieldLink RX3 43 "SailorCandlesModel" "watchers" "I") (List.mem_of_getElem? (i := 3) rfl)
  have hq4 := hts (.methodLink RX3 101 Lib.Math.min.name) (List.mem_of_getElem? (i := 4) rfl)
  have hq5 := hts (.static Lib.Math.min.name) (List.mem_of_getElem? (i := 5) rfl)
  have hq6 := hts (.initialized "java/lang/Math") (List.mem_of_getElem? (i := 6) rfl)
  have hq7 := hts (.code Lib.Math.min.name Lib.Math.min.code 2 (some .int)) (List.mem_of_getElem? (i := 7) rfl)
  have hl : lv_has ls 3 [(0, .ref (M 0)), (1, .int (nI s))] := hl
  refine lv_aload_n hx hb dX3_comeHome_0 rfl (lv_at hl 0 rfl) ?_
  refine lv_iconst (v := 0) hx hb dX3_comeHome_1 (by decide) ?_
  refine k_put (ci := 3) (C := RX3) (T := TX3) (N := 10) (ws' := wN E M (0, Hb, a, k)) hx hb hown hK hw hts hinX3 tyX3 tyX3_ok nmX3 0 rfl rfl 0 (by decide) hf29 rfl rfl (Nat.le_of_ble_eq_true rfl) dX3_comeHome_2 rfl (fun H locs hw => ?_)
  refine lv_aload_n hx hb dX3_comeHome_5 rfl (lv_at hl 0 rfl) ?_
  refine lv_iload_n hx hb dX3_comeHome_6 rfl (lv_at hl 1 rfl) ?_
  refine kr_i (ws' := wN E M (0, Hb, a, k)) (va_runV (As := [.int (nI s)]) (rest := []) ⟨hx, hb, hml, hown, hts⟩ (c_X3_isShip l E M 0 Hb a k (nI s)  _) (cwV 1 hts gX3_comeHome_X3_isShip rfl rfl rfl ⟨rfl, hd_X3_isShip⟩ ⟨Nat.le_of_ble_eq_true rfl, Nat.le_of_ble_eq_true rfl⟩) (pwV (ci := 3) (q0 := 0) (C := RX3) hw hK rfl rfl rfl (rpS (AV := [.ref (M 0), .int (nI s)]) hw hK hG rp_75)) rfl rfl hl.1 rfl (lv_room (Nat.le_of_ble_eq_true rfl)) dX3_comeHome_7 ⟨Nat.le_of_ble_eq_true rfl, Nat.le_of_ble_eq_true rfl⟩) hw hA rp_75 (fun H locs hw => ?_)
  refine lv_if_ne (tgt := 19) hx hb dX3_comeHome_10 (by decide) (fun _ => ?_) (fun q8 => absurd q8 (fun q7 => absurd ((d_in_n (n := s) (k := n_ns Hb) (by omega) (by omega)).symm.trans (bI_z q7)) (by decide)))
  refine lv_aload_n hx hb dX3_comeHome_19 rfl (lv_at hl 0 rfl) ?_
  refine k_get (ci := 3) (v := .ref (M 5)) (C := RX3) (T := TX3) (N := 10) hx hb hown hK hw hts hinX3 0 rfl rfl 8 (by decide) hf23 rfl dX3_comeHome_20 ?_
  refine lv_iload_n hx hb dX3_comeHome_23 rfl (lv_at hl 1 rfl) ?_
  refine lv_iconst (v := 0) hx hb dX3_comeHome_24 (by decide) ?_
  refine kr_i (ws' := wN E M (0, Hb, a, k)) (va_runS (As := [.int (nI s), .int 0]) (rest := [.ref (M 5)]) ⟨hx, hb, hml, hown, hts⟩ (c_X3_ship l E s 0  _) (va_cwS 2 hts gX3_comeHome_X3_ship rfl rfl rfl hd_X3_ship ⟨Nat.le_of_ble_eq_true rfl, Nat.le_of_ble_eq_true rfl⟩) (rpS (AV := [.int (nI s), .int 0]) hw hK hG rp_74) rfl rfl hl.1 rfl (lv_room (Nat.le_of_ble_eq_true rfl)) dX3_comeHome_25 ⟨Nat.le_of_ble_eq_true rfl, Nat.le_of_ble_eq_true rfl⟩) hw hA rp_74 (fun H locs hw => ?_)
  refine k_ildN (i := 3 + 3 * s + 0) (f := a) hx hb hK hw 5 rfl (by omega) (by omega) dX3_comeHome_28 ?_
  refine lv_if_ne (tgt := 38) hx hb dX3_comeHome_29 (by decide) (fun _ => ?_) (fun q8 => absurd q8 hh)
  refine lv_iconst (v := 0) hx hb dX3_comeHome_38 (by decide) ?_
  refine lv_istore_n (lv' := [(2, .int 0), (0, .ref (M 0)), (1, .int (nI s))]) hx hb dX3_comeHome_39 rfl hl (by decide) rfl (fun ls hl => ?_)
  have L_40 : ∀ (k9 i : Nat) (H : Heap) (locs : List Loc) (ls : Array Slot), i + k9 = (n_nw Hb) → Wd E A9 s9.heap (wN E M (0, Hb, l_mbel s a i, k)) H locs → lv_has ls 3 [(0, .ref (M 0)), (1, .int (nI s)), (2, .int (nI i))] → W p9 l e rm_X3_comeHome s9 m args below meth c H locs 0 0 (EndI E A9 (r_home Hb a s (3 + 3 * s + 1)) (wN E M (0, Hb, r_home Hb a s, k)) below args s9 (rm_X3_comeHome).cells (rm_X3_comeHome).slots) (F0 m 40 ls []) := by
    intro k9
    induction k9 with
    | zero =>
      intro i H locs ls hi hw hl
      have hz_1 : n_nw Hb = i := by omega
      refine lv_iload_n hx hb dX3_comeHome_40 rfl (lv_at hl 2 rfl) ?_
      refine lv_aload_n hx hb dX3_comeHome_41 rfl (lv_at hl 0 rfl) ?_
      refine k_get (ci := 3) (v := .int (nI (n_nw Hb))) (C := RX3) (T := TX3) (N := 10) hx hb hown hK hw hts hinX3 0 rfl rfl 7 (by decide) hf43 rfl dX3_comeHome_42 ?_
      refine lv_icmp_ge (tgt := 93) hx hb dX3_comeHome_45 (by decide) (fun _ => ?_) (fun q8 => absurd (by rw [← hz_1]; exact Int32.le_refl _) q8)
      refine lv_aload_n hx hb dX3_comeHome_93 rfl (lv_at hl 0 rfl) ?_
      refine lv_iload_n hx hb dX3_comeHome_94 rfl (lv_at hl 1 rfl) ?_
      refine kr_v (ws' := wN E M (0, Hb, r_end Hb (l_mbel s a i) s, k)) (va_runV (As := [.int (nI s)]) (rest := []) ⟨hx, hb, hml, hown, hts⟩ (c_X3_end l E M 0 Hb (l_mbel s a i) k s (by omega) (by omega) (by omega) (h4) (by omega) _) (cwV 1 hts gX3_comeHome_X3_end rfl rfl rfl ⟨rfl, hd_X3_end⟩ ⟨Nat.le_of_ble_eq_true rfl, Nat.le_of_ble_eq_true rfl⟩) (pwV (ci := 3) (q0 := 0) (C := RX3) hw hK rfl rfl rfl (rpS (AV := [.ref (M 0), .int (nI s)]) hw hK hG rp_75)) rfl rfl hl.1 rfl (lv_room (Nat.le_of_ble_eq_true rfl)) dX3_comeHome_95 ⟨Nat.le_of_ble_eq_true rfl, Nat.le_of_ble_eq_true rfl⟩) hw hA rp_76 (fun H locs hw => ?_)
      refine lv_aload_n hx hb dX3_comeHome_98 rfl (lv_at hl 0 rfl) ?_
      refine k_get (ci := 3) (v := .ref (M 5)) (C := RX3) (T := TX3) (N := 10) hx hb hown hK hw hts hinX3 0 rfl rfl 8 (by decide) hf23 rfl dX3_comeHome_99 ?_
      refine lv_iload_n hx hb dX3_comeHome_102 rfl (lv_at hl 1 rfl) ?_
      refine lv_iconst (v := 0) hx hb dX3_comeHome_103 (by decide) ?_
      refine kr_i (ws' := wN E M (0, Hb, r_end Hb (l_mbel s a i) s, k)) (va_runS (As := [.int (nI s), .int 0]) (rest := [.ref (M 5)]) ⟨hx, hb, hml, hown, hts⟩ (c_X3_ship l E s 0  _) (va_cwS 2 hts gX3_comeHome_X3_ship rfl rfl rfl hd_X3_ship ⟨Nat.le_of_ble_eq_true rfl, Nat.le_of_ble_eq_true rfl⟩) (rpS (AV := [.int (nI s), .int 0]) hw hK hG rp_74) rfl rfl hl.1 rfl (lv_room (Nat.le_of_ble_eq_true rfl)) dX3_comeHome_104 ⟨Nat.le_of_ble_eq_true rfl, Nat.le_of_ble_eq_true rfl⟩) hw hA rp_74 (fun H locs hw => ?_)
      refine lv_iconst (v := 0) hx hb dX3_comeHome_107 (by decide) ?_
      refine k_istN (i := 3 + 3 * s + 0) (ws' := wN E M (0, Hb, upd (r_end Hb (l_mbel s a i) s) (3 + 3 * s + 0) 0, k)) hx hb hK hw 5 rfl (by omega) (by omega) dX3_comeHome_108 rfl (fun H locs hw => ?_)
      refine lv_aload_n hx hb dX3_comeHome_109 rfl (lv_at hl 0 rfl) ?_
      refine k_get (ci := 3) (v := .ref (M 5)) (C := RX3) (T := TX3) (N := 10) hx hb hown hK hw hts hinX3 0 rfl rfl 8 (by decide) hf23 rfl dX3_comeHome_110 ?_
      refine lv_iload_n hx hb dX3_comeHome_113 rfl (lv_at hl 1 rfl) ?_
      refine lv_iconst (v := 1) hx hb dX3_comeHome_114 (by decide) ?_
      refine kr_i (ws' := wN E M (0, Hb, upd (r_end Hb (l_mbel s a i) s) (3 + 3 * s + 0) 0, k)) (va_runS (As := [.int (nI s), .int 1]) (rest := [.ref (M 5)]) ⟨hx, hb, hml, hown, hts⟩ (c_X3_ship l E s 1  _) (va_cwS 2 hts gX3_comeHome_X3_ship rfl rfl rfl hd_X3_ship ⟨Nat.le_of_ble_eq_true rfl, Nat.le_of_ble_eq_true rfl⟩) (rpS (AV := [.int (nI s), .int 1]) hw hK hG rp_74) rfl rfl hl.1 rfl (lv_room (Nat.le_of_ble_eq_true rfl)) dX3_comeHome_115 ⟨Nat.le_of_ble_eq_true rfl, Nat.le_of_ble_eq_true rfl⟩) hw hA rp_74 (fun H locs hw => ?_)
      refine k_ildN (i := 3 + 3 * s + 1) (f := upd (r_end Hb (l_mbel s a i) s) (3 + 3 * s + 0) 0) hx hb hK hw 5 rfl (by omega) (by omega) dX3_comeHome_118 ?_
      exact k_iret hx hb hr hlocks hK hw rfl dX3_comeHome_119 (by subst hz_1; first | rfl | assumption | (simp only [r_home, l_mbel, if_true, if_false, Bool.false_eq_true, Bool.true_eq_false, reduceIte, reduceCtorEq]; done) | (simp only [r_home, l_mbel, if_true, if_false, Bool.false_eq_true, Bool.true_eq_false, reduceIte, reduceCtorEq]; rfl) | (simp [r_home, l_mbel, if_true, if_false, Bool.false_eq_true, Bool.true_eq_false, reduceIte, reduceCtorEq]; done) | (simp [bI, r_home, l_mbel]; done)) (by subst hz_1; first | rfl | assumption | (simp only [r_home, l_mbel, if_true, if_false, Bool.false_eq_true, Bool.true_eq_false, reduceIte, reduceCtorEq]; done) | (simp only [r_home, l_mbel, if_true, if_false, Bool.false_eq_true, Bool.true_eq_false, reduceIte, reduceCtorEq]; rfl) | (simp [r_home, l_mbel, if_true, if_false, Bool.false_eq_true, Bool.true_eq_false, reduceIte, reduceCtorEq]; done) | (simp [bI, r_home, l_mbel]; done))
    | succ k9 ih_40 =>
      intro i H locs ls hi hw hl
      have hi9 : i < n_nw Hb := by omega
      refine lv_iload_n hx hb dX3_comeHome_40 rfl (lv_at hl 2 rfl) ?_
      refine lv_aload_n hx hb dX3_comeHome_41 rfl (lv_at hl 0 rfl) ?_
      refine k_get (ci := 3) (v := .int (nI (n_nw Hb))) (C := RX3) (T := TX3) (N := 10) hx hb hown hK hw hts hinX3 0 rfl rfl 7 (by decide) hf43 rfl dX3_comeHome_42 ?_
      refine lv_icmp_ge (tgt := 93) hx hb dX3_comeHome_45 (by decide) (fun q8 => absurd q8 (nI_ge (a := i) (b := n_nw Hb) (by omega) (by omega))) (fun _ => ?_)
      refine lv_aload_n hx hb dX3_comeHome_48 rfl (lv_at hl 0 rfl) ?_
      refine k_get (ci := 3) (v := .ref (M 5)) (C := RX3) (T := TX3) (N := 10) hx hb hown hK hw hts hinX3 0 rfl rfl 8 (by decide) hf23 rfl dX3_comeHome_49 ?_
      refine lv_iload_n hx hb dX3_comeHome_52 rfl (lv_at hl 2 rfl) ?_
      refine lv_iload_n hx hb dX3_comeHome_53 rfl (lv_at hl 1 rfl) ?_
      refine kr_i (ws' := wN E M (0, Hb, l_mbel s a i, k)) (va_runS (As := [.int (nI i), .int (nI s)]) (rest := [.ref (M 5)]) ⟨hx, hb, hml, hown, hts⟩ (c_X3_sighting l E i s  _) (va_cwS 2 hts gX3_comeHome_X3_sighting rfl rfl rfl hd_X3_sighting ⟨Nat.le_of_ble_eq_true rfl, Nat.le_of_ble_eq_true rfl⟩) (rpS (AV := [.int (nI i), .int (nI s)]) hw hK hG rp_74) rfl rfl hl.1 rfl (lv_room (Nat.le_of_ble_eq_true rfl)) dX3_comeHome_54 ⟨Nat.le_of_ble_eq_true rfl, Nat.le_of_ble_eq_true rfl⟩) hw hA rp_74 (fun H locs hw => ?_)
      refine k_ildN (i := 54 + 5 * i + s) (f := l_mbel s a i) hx hb hK hw 5 rfl (by omega) (by omega) dX3_comeHome_57 ?_
      refine lv_iconst (v := (-1)) hx hb dX3_comeHome_58 (by decide) ?_
      refine lv_icmp_eq (tgt := 87) hx hb dX3_comeHome_59 (by decide) (fun c_2 => ?_) (fun c_2 => ?_)
      · refine lv_iinc (v := nI (i + 1)) (lv' := [(2, .int (nI (i + 1))), (0, .ref (M 0)), (1, .int (nI s))]) hx hb dX3_comeHome_87 hl (k := 2) rfl (nI_add i 1) (by decide) rfl (fun ls hl => ?_)
        refine lv_goto (tgt := 40) hx hb dX3_comeHome_90 (by decide) ?_
        exact ih_40 (i + 1) _ _ _ (by omega) (hw.to (by first | assumption | (simp only [r_home, l_mbel, if_pos c_2, if_true, if_false, Bool.false_eq_true, Bool.true_eq_false, reduceIte, reduceCtorEq]; done) | (simp only [r_home, l_mbel, if_pos c_2, if_true, if_false, Bool.false_eq_true, Bool.true_eq_false, reduceIte, reduceCtorEq]; rfl) | rfl | (simp [r_home, l_mbel, if_pos c_2, if_true, if_false, Bool.false_eq_true, Bool.true_eq_false, reduceIte, reduceCtorEq]; done) | (simp [bI, r_home, l_mbel, c_2]; done))) (lv_sub hl [1, 2, 0] rfl)
      · refine lv_aload_n hx hb dX3_comeHome_62 rfl (lv_at hl 0 rfl) ?_
        refine k_get (ci := 3) (v := .ref (M 5)) (C := RX3) (T := TX3) (N := 10) hx hb hown hK hw hts hinX3 0 rfl rfl 8 (by decide) hf23 rfl dX3_comeHome_63 ?_
        refine lv_bipush (v := 50) hx hb dX3_comeHome_66 (by decide) ?_
        refine lv_iload_n hx hb dX3_comeHome_68 rfl (lv_at hl 2 rfl) ?_
        refine k_iaddN (a := 50) (b := i) hx hb dX3_comeHome_69 ?_
        refine lv_bipush (v := 9) hx hb dX3_comeHome_70 (by decide) ?_
        refine lv_aload_n hx hb dX3_comeHome_72 rfl (lv_at hl 0 rfl) ?_
        refine k_get (ci := 3) (v := .ref (M 5)) (C := RX3) (T := TX3) (N := 10) hx hb hown hK hw hts hinX3 0 rfl rfl 8 (by decide) hf23 rfl dX3_comeHome_73 ?_
        refine lv_bipush (v := 50) hx hb dX3_comeHome_76 (by decide) ?_
        refine lv_iload_n hx hb dX3_comeHome_78 rfl (lv_at hl 2 rfl) ?_
        refine k_iaddN (a := 50) (b := i) hx hb dX3_comeHome_79 ?_
        refine k_ildN (i := 50 + i) (f := l_mbel s a i) hx hb hK hw 5 rfl (by omega) (by omega) dX3_comeHome_80 ?_
        refine lv_iconst (v := 1) hx hb dX3_comeHome_81 (by decide) ?_
        refine lv_iadd hx hb dX3_comeHome_82 ?_
        refine va_mmin hx hb (by rw [hml]; exact hl.1.symm) hown hq4 hq5 hq6 hq7 (Nat.le_of_ble_eq_true rfl) (Nat.le_of_ble_eq_true rfl) (Nat.le_of_ble_eq_true rfl) (Nat.le_of_ble_eq_true rfl) dX3_comeHome_83 ?_
        refine k_istN (i := 50 + i) (ws' := wN E M (0, Hb, upd (l_mbel s a i) (50 + i) (if (((l_mbel s a i) (50 + i)) + 1) < 9 then ((l_mbel s a i) (50 + i)) + 1 else 9), k)) hx hb hK hw 5 rfl (by omega) (by omega) dX3_comeHome_86 rfl (fun H locs hw => ?_)
        refine lv_iinc (v := nI (i + 1)) (lv' := [(2, .int (nI (i + 1))), (0, .ref (M 0)), (1, .int (nI s))]) hx hb dX3_comeHome_87 hl (k := 2) rfl (nI_add i 1) (by decide) rfl (fun ls hl => ?_)
        refine lv_goto (tgt := 40) hx hb dX3_comeHome_90 (by decide) ?_
        exact ih_40 (i + 1) _ _ _ (by omega) (hw.to (by first | assumption | (simp only [r_home, l_mbel, if_neg c_2, if_true, if_false, Bool.false_eq_true, Bool.true_eq_false, reduceIte, reduceCtorEq]; done) | (simp only [r_home, l_mbel, if_neg c_2, if_true, if_false, Bool.false_eq_true, Bool.true_eq_false, reduceIte, reduceCtorEq]; rfl) | rfl | (simp [r_home, l_mbel, if_neg c_2, if_true, if_false, Bool.false_eq_true, Bool.true_eq_false, reduceIte, reduceCtorEq]; done) | (simp [bI, r_home, l_mbel, c_2]; done))) (lv_sub hl [1, 2, 0] rfl)
  exact L_40 ((n_nw Hb) - 0) 0 _ _ _ (by omega) hw (lv_sub hl [1, 2, 0] rfl)
