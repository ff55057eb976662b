abbrev rm_X3_addShip : Room := { frames := 1, cells := 0, slots := 0, locals := 22 }
set_option maxHeartbeats 4000000 in
set_option maxRecDepth 100000 in
theorem c_X3_addShip_1 (l : Launch) (E : Ev) (M : Nat → Nat) (th : Int32) (Hb : MH) (a k : Fn) (x : Int32) (h1 : n_ns Hb ≤ 5) (h2 : n_np Hb ≤ 16) (h3 : n_nw Hb ≤ 4) (h4 : ∀ p, p < n_np Hb → n_so Hb p < 5) (hd : d_in x 1 3 = false) : MI l E yX3_addShip wsX3_addShip rm_X3_addShip [.ref (M 0), .int x] (wN E M (th, Hb, a, k)) 0 (wN E M (1, Hb, a, k)) := by
  refine k_bI (cc := cX3_addShip) (maxL := 2) (ret := (some .int)) (by decide) rfl (Nat.le_of_ble_eq_true rfl) ?_
  intro p9 e s9 m args below meth c A9 ls hC hl hw
  obtain ⟨hx, hb, hml, hr, hown, hts, hlocks, hK, hG, hA⟩ := hC
  have hf29 := hts (.fieldLink RX3 29 "SailorCandlesModel" "thrown" "I") (List.mem_of_getElem? (i := 1) rfl)
  have hinX3 : ∀ w ∈ wsX30, w ∈ wsX3_addShip := fun w h => List.mem_cons_of_mem _ (List.mem_append_right _ h)
  have hl : lv_has ls 2 [(0, .ref (M 0)), (1, .int x)] := hl
  refine lv_aload_n hx hb dX3_addShip_0 rfl (lv_at hl 0 rfl) ?_
  refine lv_iconst (v := 0) hx hb dX3_addShip_1 (by decide) ?_
  refine k_put (ci := 3) (C := RX3) (T := TX3) (N := 10) (ws' := wN E M (0, Hb, a, k)) hx hb hown hK hw hts hinX3 tyX3 tyX3_ok nmX3 0 rfl rfl 0 (by decide) hf29 rfl rfl (Nat.le_of_ble_eq_true rfl) dX3_addShip_2 rfl (fun H locs hw => ?_)
  refine lv_iload_n hx hb dX3_addShip_5 rfl (lv_at hl 1 rfl) ?_
  refine lv_iconst (v := 1) hx hb dX3_addShip_6 (by decide) ?_
  refine lv_iconst (v := 3) hx hb dX3_addShip_7 (by decide) ?_
  refine kr_i (ws' := wN E M (0, Hb, a, k)) (va_runS (As := [.int x, .int 1, .int 3]) (rest := []) ⟨hx, hb, hml, hown, hts⟩ (c_X3_isIn l E x 1 3  _) (va_cwS 3 hts gX3_addShip_X3_isIn rfl rfl rfl hd_X3_isIn ⟨Nat.le_of_ble_eq_true rfl, Nat.le_of_ble_eq_true rfl⟩) (rpS (AV := [.int x, .int 1, .int 3]) hw hK hG rp_74) rfl rfl hl.1 rfl (lv_room (Nat.le_of_ble_eq_true rfl)) dX3_addShip_8 ⟨Nat.le_of_ble_eq_true rfl, Nat.le_of_ble_eq_true rfl⟩) hw hA rp_74 (fun H locs hw => ?_)
  refine lv_if_ne (tgt := 20) hx hb dX3_addShip_11 (by decide) (fun q8 => absurd (by rw [hd]; rfl) q8) (fun _ => ?_)
  refine lv_aload_n hx hb dX3_addShip_14 rfl (lv_at hl 0 rfl) ?_
  refine lv_iconst (v := 1) hx hb dX3_addShip_15 (by decide) ?_
  refine kr_i (ws' := wN E M (1, Hb, a, k)) (va_runV (As := [.int 1]) (rest := []) ⟨hx, hb, hml, hown, hts⟩ (c_X3_no l E M 0 Hb a k 1  _) (cwV 1 hts gX3_addShip_X3_no rfl rfl rfl ⟨rfl, hd_X3_no⟩ ⟨Nat.le_of_ble_eq_true rfl, Nat.le_of_ble_eq_true rfl⟩) (pwV (ci := 3) (q0 := 0) (C := RX3) hw hK rfl rfl rfl (rpS (AV := [.ref (M 0), .int 1]) hw hK hG rp_75)) rfl rfl hl.1 rfl (lv_room (Nat.le_of_ble_eq_true rfl)) dX3_addShip_16 ⟨Nat.le_of_ble_eq_true rfl, Nat.le_of_ble_eq_true rfl⟩) hw hA rp_76 (fun H locs hw => ?_)
  exact k_iret hx hb hr hlocks hK hw rfl dX3_addShip_19 rfl rfl
set_option maxHeartbeats 4000000 in
set_option maxRecDepth 100000 in
theorem c_X3_addShip_2 (l : Launch) (E : Ev) (M : Nat → Nat) (th : Int32) (Hb : MH) (a k : Fn) (x : Int32) (h1 : n_ns Hb ≤ 5) (h2 : n_np Hb ≤ 16) (h3 : n_nw Hb ≤ 4) (h4 : ∀ p, p < n_np Hb → n_so Hb p < 5) (hd : d_in x 1 3 = true) (hf : n_ns Hb = 5) : MI l E yX3_addShip wsX3_addShip rm_X3_addShip [.ref (M 0), .int x] (wN E M (th, Hb, a, k)) 0 (wN E M (2, Hb, a, k)) := by
  refine k_bI (cc := cX3_addShip) (maxL := 2) (ret := (some .int)) (by decide) rfl (Nat.le_of_ble_eq_true rfl) ?_
  intro p9 e s9 m args below meth c A9 ls hC hl hw
  obtain ⟨hx, hb, hml, hr, hown, hts, hlocks, hK, hG, hA⟩ := hC
  have hf29 := hts (.fieldLink RX3 29 "SailorCandlesModel" "thrown" "I") (List.mem_of_getElem? (i := 1) rfl)
  have hinX3 : ∀ w ∈ wsX30, w ∈ wsX3_addShip := fun w h => List.mem_cons_of_mem _ (List.mem_append_right _ h)
  have hf33 := hts (.fieldLink RX3 33 "SailorCandlesModel" "ships" "I") (List.mem_of_getElem? (i := 2) rfl)
  have hl : lv_has ls 2 [(0, .ref (M 0)), (1, .int x)] := hl
  refine lv_aload_n hx hb dX3_addShip_0 rfl (lv_at hl 0 rfl) ?_
  refine lv_iconst (v := 0) hx hb dX3_addShip_1 (by decide) ?_
  refine k_put (ci := 3) (C := RX3) (T := TX3) (N := 10) (ws' := wN E M (0, Hb, a, k)) hx hb hown hK hw hts hinX3 tyX3 tyX3_ok nmX3 0 rfl rfl 0 (by decide) hf29 rfl rfl (Nat.le_of_ble_eq_true rfl) dX3_addShip_2 rfl (fun H locs hw => ?_)
  refine lv_iload_n hx hb dX3_addShip_5 rfl (lv_at hl 1 rfl) ?_
  refine lv_iconst (v := 1) hx hb dX3_addShip_6 (by decide) ?_
  refine lv_iconst (v := 3) hx hb dX3_addShip_7 (by decide) ?_
  refine kr_i (ws' := wN E M (0, Hb, a, k)) (va_runS (As := [.int x, .int 1, .int 3]) (rest := []) ⟨hx, hb, hml, hown, hts⟩ (c_X3_isIn l E x 1 3  _) (va_cwS 3 hts gX3_addShip_X3_isIn rfl rfl rfl hd_X3_isIn ⟨Nat.le_of_ble_eq_true rfl, Nat.le_of_ble_eq_true rfl⟩) (rpS (AV := [.int x, .int 1, .int 3]) hw hK hG rp_74) rfl rfl hl.1 rfl (lv_room (Nat.le_of_ble_eq_true rfl)) dX3_addShip_8 ⟨Nat.le_of_ble_eq_true rfl, Nat.le_of_ble_eq_true rfl⟩) hw hA rp_74 (fun H locs hw => ?_)
  refine lv_if_ne (tgt := 20) hx hb dX3_addShip_11 (by decide) (fun _ => ?_) (fun q8 => absurd q8 (fun q7 => absurd (hd.symm.trans (bI_z q7)) (by decide)))
  refine lv_aload_n hx hb dX3_addShip_20 rfl (lv_at hl 0 rfl) ?_
  refine k_get (ci := 3) (v := .int (nI (n_ns Hb))) (C := RX3) (T := TX3) (N := 10) hx hb hown hK hw hts hinX3 0 rfl rfl 1 (by decide) hf33 rfl dX3_addShip_21 ?_
  refine lv_iconst (v := 5) hx hb dX3_addShip_24 (by decide) ?_
  refine lv_icmp_ne (tgt := 34) hx hb dX3_addShip_25 (by decide) (fun q8 => absurd (by rw [hf]; rfl) q8) (fun _ => ?_)
  refine lv_aload_n hx hb dX3_addShip_28 rfl (lv_at hl 0 rfl) ?_
  refine lv_iconst (v := 2) hx hb dX3_addShip_29 (by decide) ?_
  refine kr_i (ws' := wN E M (2, Hb, a, k)) (va_runV (As := [.int 2]) (rest := []) ⟨hx, hb, hml, hown, hts⟩ (c_X3_no l E M 0 Hb a k 2  _) (cwV 1 hts gX3_addShip_X3_no rfl rfl rfl ⟨rfl, hd_X3_no⟩ ⟨Nat.le_of_ble_eq_true rfl, Nat.le_of_ble_eq_true rfl⟩) (pwV (ci := 3) (q0 := 0) (C := RX3) hw hK rfl rfl rfl (rpS (AV := [.ref (M 0), .int 2]) hw hK hG rp_75)) rfl rfl hl.1 rfl (lv_room (Nat.le_of_ble_eq_true rfl)) dX3_addShip_30 ⟨Nat.le_of_ble_eq_true rfl, Nat.le_of_ble_eq_true rfl⟩) hw hA rp_76 (fun H locs hw => ?_)
  exact k_iret hx hb hr hlocks hK hw rfl dX3_addShip_33 rfl rfl
set_option maxHeartbeats 4000000 in
set_option maxRecDepth 100000 in
theorem c_X3_addShip (l : Launch) (E : Ev) (M : Nat → Nat) (th : Int32) (Hb : MH) (a k : Fn) (x : Int32) (h1 : n_ns Hb ≤ 5) (h2 : n_np Hb ≤ 16) (h3 : n_nw Hb ≤ 4) (h4 : ∀ p, p < n_np Hb → n_so Hb p < 5) (hd : d_in x 1 3 = true) (hf : n_ns Hb < 5) : MI l E yX3_addShip wsX3_addShip rm_X3_addShip [.ref (M 0), .int x] (wN E M (th, Hb, a, k)) (nI (n_ns Hb)) (wN E M (0, o_ns (o_ma Hb (upd (n_ma Hb) (n_ns Hb) x)) (n_ns Hb + 1), a, k)) := by
  refine k_bI (cc := cX3_addShip) (maxL := 2) (ret := (some .int)) (by decide) rfl (Nat.le_of_ble_eq_true rfl) ?_
  intro p9 e s9 m args below meth c A9 ls hC hl hw
  obtain ⟨hx, hb, hml, hr, hown, hts, hlocks, hK, hG, hA⟩ := hC
  have hf29 := hts (.fieldLink RX3 29 "SailorCandlesModel" "thrown" "I") (List.mem_of_getElem? (i := 1) rfl)
  have hinX3 : ∀ w ∈ wsX30, w ∈ wsX3_addShip := fun w h => List.mem_cons_of_mem _ (List.mem_append_right _ h)
  have hf33 := hts (.fieldLink RX3 33 "SailorCandlesModel" "ships" "I") (List.mem_of_getElem? (i := 2) rfl)
  have hf9 := hts (.fieldLink RX3 9 "SailorCandlesModel" "masts" "[I") (List.mem_of_getElem? (i := 3) rfl)
  have hl : lv_has ls 2 [(0, .ref (M 0)), (1, .int x)] := hl
  refine lv_aload_n hx hb dX3_addShip_0 rfl (lv_at hl 0 rfl) ?_
  refine lv_iconst (v := 0) hx hb dX3_addShip_1 (by decide) ?_
  refine k_put (ci := 3) (C := RX3) (T := TX3) (N := 10) (ws' := wN E M (0, Hb, a, k)) hx hb hown hK hw hts hinX3 tyX3 tyX3_ok nmX3 0 rfl rfl 0 (by decide) hf29 rfl rfl (Nat.le_of_ble_eq_true rfl) dX3_addShip_2 rfl (fun H locs hw => ?_)
  refine lv_iload_n hx hb dX3_addShip_5 rfl (lv_at hl 1 rfl) ?_
  refine lv_iconst (v := 1) hx hb dX3_addShip_6 (by decide) ?_
  refine lv_iconst (v := 3) hx hb dX3_addShip_7 (by decide) ?_
  refine kr_i (ws' := wN E M (0, Hb, a, k)) (va_runS (As := [.int x, .int 1, .int 3]) (rest := []) ⟨hx, hb, hml, hown, hts⟩ (c_X3_isIn l E x 1 3  _) (va_cwS 3 hts gX3_addShip_X3_isIn rfl rfl rfl hd_X3_isIn ⟨Nat.le_of_ble_eq_true rfl, Nat.le_of_ble_eq_true rfl⟩) (rpS (AV := [.int x, .int 1, .int 3]) hw hK hG rp_74) rfl rfl hl.1 rfl (lv_room (Nat.le_of_ble_eq_true rfl)) dX3_addShip_8 ⟨Nat.le_of_ble_eq_true rfl, Nat.le_of_ble_eq_true rfl⟩) hw hA rp_74 (fun H locs hw => ?_)
  refine lv_if_ne (tgt := 20) hx hb dX3_addShip_11 (by decide) (fun _ => ?_) (fun q8 => absurd q8 (fun q7 => absurd (hd.symm.trans (bI_z q7)) (by decide)))
  refine lv_aload_n hx hb dX3_addShip_20 rfl (lv_at hl 0 rfl) ?_
  refine k_get (ci := 3) (v := .int (nI (n_ns Hb))) (C := RX3) (T := TX3) (N := 10) hx hb hown hK hw hts hinX3 0 rfl rfl 1 (by decide) hf33 rfl dX3_addShip_21 ?_
  refine lv_iconst (v := 5) hx hb dX3_addShip_24 (by decide) ?_
  refine lv_icmp_ne (tgt := 34) hx hb dX3_addShip_25 (by decide) (fun _ => ?_) (fun q8 => absurd q8 (fun q7 => absurd ((nI_eq (b := 5) (by omega) (by omega)).mp q7) (by omega)))
  refine lv_aload_n hx hb dX3_addShip_34 rfl (lv_at hl 0 rfl) ?_
  refine k_get (ci := 3) (v := .ref (M 1)) (C := RX3) (T := TX3) (N := 10) hx hb hown hK hw hts hinX3 0 rfl rfl 2 (by decide) hf9 rfl dX3_addShip_35 ?_
  refine lv_aload_n hx hb dX3_addShip_38 rfl (lv_at hl 0 rfl) ?_
  refine k_get (ci := 3) (v := .int (nI (n_ns Hb))) (C := RX3) (T := TX3) (N := 10) hx hb hown hK hw hts hinX3 0 rfl rfl 1 (by decide) hf33 rfl dX3_addShip_39 ?_
  refine lv_iload_n hx hb dX3_addShip_42 rfl (lv_at hl 1 rfl) ?_
  refine k_istN (i := n_ns Hb) (ws' := wN E M (0, o_ma Hb (upd (n_ma Hb) (n_ns Hb) x), a, k)) hx hb hK hw 1 rfl (by omega) (by omega) dX3_addShip_43 rfl (fun H locs hw => ?_)
  refine lv_aload_n hx hb dX3_addShip_44 rfl (lv_at hl 0 rfl) ?_
  refine lv_dup hx hb dX3_addShip_45 rfl ?_
  refine k_get (ci := 3) (v := .int (nI (n_ns Hb))) (C := RX3) (T := TX3) (N := 10) hx hb hown hK hw hts hinX3 0 rfl rfl 1 (by decide) hf33 rfl dX3_addShip_46 ?_
  refine lv_iconst (v := 1) hx hb dX3_addShip_49 (by decide) ?_
  refine k_iaddN (a := n_ns Hb) (b := 1) hx hb dX3_addShip_50 ?_
  refine k_put (ci := 3) (C := RX3) (T := TX3) (N := 10) (ws' := wN E M (0, o_ns (o_ma Hb (upd (n_ma Hb) (n_ns Hb) x)) ((n_ns Hb) + 1), a, k)) hx hb hown hK hw hts hinX3 tyX3 tyX3_ok nmX3 0 rfl rfl 1 (by decide) hf33 rfl rfl (Nat.le_of_ble_eq_true rfl) dX3_addShip_51 rfl (fun H locs hw => ?_)
  refine lv_aload_n hx hb dX3_addShip_54 rfl (lv_at hl 0 rfl) ?_
  refine k_get (ci := 3) (v := .int (nI ((n_ns Hb) + 1))) (C := RX3) (T := TX3) (N := 10) hx hb hown hK hw hts hinX3 0 rfl rfl 1 (by decide) hf33 rfl dX3_addShip_55 ?_
  refine lv_iconst (v := 1) hx hb dX3_addShip_58 (by decide) ?_
  refine lv_isub hx hb dX3_addShip_59 ?_
  exact k_iret hx hb hr hlocks hK hw rfl dX3_addShip_60 (nI_pred _) (rfl)
abbrev rm_X3_addSailor : Room := { frames := 2, cells := 0, slots := 0, locals := 43 }
set_option maxHeartbeats 4000000 in
set_option maxRecDepth 100000 in
theorem c_X3_addSailor_1 (l : Launch) (E : Ev) (M : Nat → Nat) (th : Int32) (Hb : MH) (a k : Fn) (s : Int32) (x : Int32) (v : Bool) (h1 : n_ns Hb ≤ 5) (h2 : n_np Hb ≤ 16) (h3 : n_nw Hb ≤ 4) (h4 : ∀ p, p < n_np Hb → n_so Hb p < 5) (hd_ns : d_in s 0 (nI (n_ns Hb) - 1) = false) : MI l E yX3_addSailor wsX3_addSailor rm_X3_addSailor [.ref (M 0), .int s, .int x, .int (bI v)] (wN E M (th, Hb, a, k)) 0 (wN E M (1, Hb, a, k)) := by
  refine k_bI (cc := cX3_addSailor) (maxL := 4) (ret := (some .int)) (by decide) rfl (Nat.le_of_ble_eq_true rfl) ?_
  intro p9 e s9 m args below meth c A9 ls hC hl hw
  obtain ⟨hx, hb, hml, hr, hown, hts, hlocks, hK, hG, hA⟩ := hC
  have hf29 := hts (.fieldLink RX3 29 "SailorCandlesModel" "thrown" "I") (List.mem_of_getElem? (i := 1) rfl)
  have hinX3 : ∀ w ∈ wsX30, w ∈ wsX3_addSailor := fun w h => List.mem_cons_of_mem _ (List.mem_append_right _ h)
  have hl : lv_has ls 4 [(0, .ref (M 0)), (1, .int s), (2, .int x), (3, .int (bI v))] := hl
  refine lv_aload_n hx hb dX3_addSailor_0 rfl (lv_at hl 0 rfl) ?_
  refine lv_iconst (v := 0) hx hb dX3_addSailor_1 (by decide) ?_
  refine k_put (ci := 3) (C := RX3) (T := TX3) (N := 10) (ws' := wN E M (0, Hb, a, k)) hx hb hown hK hw hts hinX3 tyX3 tyX3_ok nmX3 0 rfl rfl 0 (by decide) hf29 rfl rfl (Nat.le_of_ble_eq_true rfl) dX3_addSailor_2 rfl (fun H locs hw => ?_)
  refine lv_aload_n hx hb dX3_addSailor_5 rfl (lv_at hl 0 rfl) ?_
  refine lv_iload_n hx hb dX3_addSailor_6 rfl (lv_at hl 1 rfl) ?_
  refine kr_i (ws' := wN E M (0, Hb, a, k)) (va_runV (As := [.int s]) (rest := []) ⟨hx, hb, hml, hown, hts⟩ (c_X3_isShip l E M 0 Hb a k s  _) (cwV 1 hts gX3_addSailor_X3_isShip rfl rfl rfl ⟨rfl, hd_X3_isShip⟩ ⟨Nat.le_of_ble_eq_true rfl, Nat.le_of_ble_eq_true rfl⟩) (pwV (ci := 3) (q0 := 0) (C := RX3) hw hK rfl rfl rfl (rpS (AV := [.ref (M 0), .int s]) hw hK hG rp_75)) rfl rfl hl.1 rfl (lv_room (Nat.le_of_ble_eq_true rfl)) dX3_addSailor_7 ⟨Nat.le_of_ble_eq_true rfl, Nat.le_of_ble_eq_true rfl⟩) hw hA rp_75 (fun H locs hw => ?_)
  refine lv_if_eq (tgt := 29) hx hb dX3_addSailor_10 (by decide) (fun _ => ?_) (fun q8 => absurd (by rw [hd_ns]; rfl) q8)
  refine lv_aload_n hx hb dX3_addSailor_29 rfl (lv_at hl 0 rfl) ?_
  refine lv_iconst (v := 1) hx hb dX3_addSailor_30 (by decide) ?_
  refine kr_i (ws' := wN E M (1, Hb, a, k)) (va_runV (As := [.int 1]) (rest := []) ⟨hx, hb, hml, hown, hts⟩ (c_X3_no l E M 0 Hb a k 1  _) (cwV 1 hts gX3_addSailor_X3_no rfl rfl rfl ⟨rfl, hd_X3_no⟩ ⟨Nat.le_of_ble_eq_true rfl, Nat.le_of_ble_eq_true rfl⟩) (pwV (ci := 3) (q0 := 0) (C := RX3) hw hK rfl rfl rfl (rpS (AV := [.ref (M 0), .int 1]) hw hK hG rp_75)) rfl rfl hl.1 rfl (lv_room (Nat.le_of_ble_eq_true rfl)) dX3_addSailor_31 ⟨Nat.le_of_ble_eq_true rfl, Nat.le_of_ble_eq_true rfl⟩) hw hA rp_76 (fun H locs hw => ?_)
  exact k_iret hx hb hr hlocks hK hw rfl dX3_addSailor_34 rfl rfl
set_option maxHeartbeats 4000000 in
set_option maxRecDepth 100000 in
theorem c_X3_addSailor_1b (l : Launch) (E : Ev) (M : Nat → Nat) (th : Int32) (Hb : MH) (a k : Fn) (s : Nat) (x : Int32) (v : Bool) (h1 : n_ns Hb ≤ 5) (h2 : n_np Hb ≤ 16) (h3 : n_nw Hb ≤ 4) (h4 : ∀ p, p < n_np Hb → n_so Hb p < 5) (hs : s < n_ns Hb) (hx1 : d_in x 0 (n_ma Hb s - 1) = false) : MI l E yX3_addSailor wsX3_addSailor rm_X3_addSailor [.ref (M 0), .int (nI s), .int x, .int (bI v)] (wN E M (th, Hb, a, k)) 0 (wN E M (1, Hb, a, k)) := by
  refine k_bI (cc := cX3_addSailor) (maxL := 4) (ret := (some .int)) (by decide) rfl (Nat.le_of_ble_eq_true rfl) ?_
  intro p9 e s9 m args below meth c A9 ls hC hl hw
  obtain ⟨hx, hb, hml, hr, hown, hts, hlocks, hK, hG, hA⟩ := hC
  have hf29 := hts (.fieldLink RX3 29 "SailorCandlesModel" "thrown" "I") (List.mem_of_getElem? (i := 1) rfl)
  have hinX3 : ∀ w ∈ wsX30, w ∈ wsX3_addSailor := fun w h => List.mem_cons_of_mem _ (List.mem_append_right _ h)
  have hf9 := hts (.fieldLink RX3 9 "SailorCandlesModel" "masts" "[I") (List.mem_of_getElem? (i := 2) rfl)
  have hl : lv_has ls 4 [(0, .ref (M 0)), (1, .int (nI s)), (2, .int x), (3, .int (bI v))] := hl
  refine lv_aload_n hx hb dX3_addSailor_0 rfl (lv_at hl 0 rfl) ?_
  refine lv_iconst (v := 0) hx hb dX3_addSailor_1 (by decide) ?_
  refine k_put (ci := 3) (C := RX3) (T := TX3) (N := 10) (ws' := wN E M (0, Hb, a, k)) hx hb hown hK hw hts hinX3 tyX3 tyX3_ok nmX3 0 rfl rfl 0 (by decide) hf29 rfl rfl (Nat.le_of_ble_eq_true rfl) dX3_addSailor_2 rfl (fun H locs hw => ?_)
  refine lv_aload_n hx hb dX3_addSailor_5 rfl (lv_at hl 0 rfl) ?_
  refine lv_iload_n hx hb dX3_addSailor_6 rfl (lv_at hl 1 rfl) ?_
  refine kr_i (ws' := wN E M (0, Hb, a, k)) (va_runV (As := [.int (nI s)]) (rest := []) ⟨hx, hb, hml, hown, hts⟩ (c_X3_isShip l E M 0 Hb a k (nI s)  _) (cwV 1 hts gX3_addSailor_X3_isShip rfl rfl rfl ⟨rfl, hd_X3_isShip⟩ ⟨Nat.le_of_ble_eq_true rfl, Nat.le_of_ble_eq_true rfl⟩) (pwV (ci := 3) (q0 := 0) (C := RX3) hw hK rfl rfl rfl (rpS (AV := [.ref (M 0), .int (nI s)]) hw hK hG rp_75)) rfl rfl hl.1 rfl (lv_room (Nat.le_of_ble_eq_true rfl)) dX3_addSailor_7 ⟨Nat.le_of_ble_eq_true rfl, Nat.le_of_ble_eq_true rfl⟩) hw hA rp_75 (fun H locs hw => ?_)
  refine lv_if_eq (tgt := 29) hx hb dX3_addSailor_10 (by decide) (fun q8 => absurd q8 (fun q7 => absurd ((d_in_n (n := s) (k := n_ns Hb) (by omega) (by omega)).symm.trans (bI_z q7)) (by decide))) (fun _ => ?_)
  refine lv_iload_n hx hb dX3_addSailor_13 rfl (lv_at hl 2 rfl) ?_
  refine lv_iconst (v := 0) hx hb dX3_addSailor_14 (by decide) ?_
  refine lv_aload_n hx hb dX3_addSailor_15 rfl (lv_at hl 0 rfl) ?_
  refine k_get (ci := 3) (v := .ref (M 1)) (C := RX3) (T := TX3) (N := 10) hx hb hown hK hw hts hinX3 0 rfl rfl 2 (by decide) hf9 rfl dX3_addSailor_16 ?_
  refine lv_iload_n hx hb dX3_addSailor_19 rfl (lv_at hl 1 rfl) ?_
  refine k_ildN (i := s) (f := n_ma Hb) hx hb hK hw 1 rfl (by omega) (by omega) dX3_addSailor_20 ?_
  refine lv_iconst (v := 1) hx hb dX3_addSailor_21 (by decide) ?_
  refine lv_isub hx hb dX3_addSailor_22 ?_
  refine kr_i (ws' := wN E M (0, Hb, a, k)) (va_runS (As := [.int x, .int 0, .int ((n_ma Hb s) - 1)]) (rest := []) ⟨hx, hb, hml, hown, hts⟩ (c_X3_isIn l E x 0 ((n_ma Hb s) - 1)  _) (va_cwS 3 hts gX3_addSailor_X3_isIn rfl rfl rfl hd_X3_isIn ⟨Nat.le_of_ble_eq_true rfl, Nat.le_of_ble_eq_true rfl⟩) (rpS (AV := [.int x, .int 0, .int ((n_ma Hb s) - 1)]) hw hK hG rp_74) rfl rfl hl.1 rfl (lv_room (Nat.le_of_ble_eq_true rfl)) dX3_addSailor_23 ⟨Nat.le_of_ble_eq_true rfl, Nat.le_of_ble_eq_true rfl⟩) hw hA rp_74 (fun H locs hw => ?_)
  refine lv_if_ne (tgt := 35) hx hb dX3_addSailor_26 (by decide) (fun q8 => absurd (by rw [hx1]; rfl) q8) (fun _ => ?_)
  refine lv_aload_n hx hb dX3_addSailor_29 rfl (lv_at hl 0 rfl) ?_
  refine lv_iconst (v := 1) hx hb dX3_addSailor_30 (by decide) ?_
  refine kr_i (ws' := wN E M (1, Hb, a, k)) (va_runV (As := [.int 1]) (rest := []) ⟨hx, hb, hml, hown, hts⟩ (c_X3_no l E M 0 Hb a k 1  _) (cwV 1 hts gX3_addSailor_X3_no rfl rfl rfl ⟨rfl, hd_X3_no⟩ ⟨Nat.le_of_ble_eq_true rfl, Nat.le_of_ble_eq_true rfl⟩) (pwV (ci := 3) (q0 := 0) (C := RX3) hw hK rfl rfl rfl (rpS (AV := [.ref (M 0), .int 1]) hw hK hG rp_75)) rfl rfl hl.1 rfl (lv_room (Nat.le_of_ble_eq_true rfl)) dX3_addSailor_31 ⟨Nat.le_of_ble_eq_true rfl, Nat.le_of_ble_eq_true rfl⟩) hw hA rp_76 (fun H locs hw => ?_)
  exact k_iret hx hb hr hlocks hK hw rfl dX3_addSailor_34 rfl rfl
set_option maxHeartbeats 4000000 in
set_option maxRecDepth 100000 in
theorem c_X3_addSailor_2 (l : Launch) (E : Ev) (M : Nat → Nat) (th : Int32) (Hb : MH) (a k : Fn) (s : Nat) (x : Int32) (v : Bool) (h1 : n_ns Hb ≤ 5) (h2 : n_np Hb ≤ 16) (h3 : n_nw Hb ≤ 4) (h4 : ∀ p, p < n_np Hb → n_so Hb p < 5) (hs : s < n_ns Hb) (hx1 : d_in x 0 (n_ma Hb s - 1) = true) (hh : ¬ a (3 + 3 * s + 0) = 0) : MI l E yX3_addSailor wsX3_addSailor rm_X3_addSailor [.ref (M 0), .int (nI s), .int x, .int (bI v)] (wN E M (th, Hb, a, k)) 0 (wN E M (2, Hb, a, k)) := by
  refine k_bI (cc := cX3_addSailor) (maxL := 4) (ret := (some .int)) (by decide) rfl (Nat.le_of_ble_eq_true rfl) ?_
  intro p9 e s9 m args below meth c A9 ls hC hl hw
  obtain ⟨hx, hb, hml, hr, hown, hts, hlocks, hK, hG, hA⟩ := hC
  have hf29 := hts (.fieldLink RX3 29 "SailorCandlesModel" "thrown" "I") (List.mem_of_getElem? (i := 1) rfl)
  have hinX3 : ∀ w ∈ wsX30, w ∈ wsX3_addSailor := fun w h => List.mem_cons_of_mem _ (List.mem_append_right _ h)
  have hf9 := hts (.fieldLink RX3 9 "SailorCandlesModel" "masts" "[I") (List.mem_of_getElem? (i := 2) rfl)
  have hf23 := hts (.fieldLink RX3 23 "SailorCandlesModel" "now" "[I") (List.mem_of_getElem? (i := 3) rfl)
  have hl : lv_has ls 4 [(0, .ref (M 0)), (1, .int (nI s)), (2, .int x), (3, .int (bI v))] := hl
  refine lv_aload_n hx hb dX3_addSailor_0 rfl (lv_at hl 0 rfl) ?_
  refine lv_iconst (v := 0) hx hb dX3_addSailor_1 (by decide) ?_
  refine k_put (ci := 3) (C := RX3) (T := TX3) (N := 10) (ws' := wN E M (0, Hb, a, k)) hx hb hown hK hw hts hinX3 tyX3 tyX3_ok nmX3 0 rfl rfl 0 (by decide) hf29 rfl rfl (Nat.le_of_ble_eq_true rfl) dX3_addSailor_2 rfl (fun H locs hw => ?_)
  refine lv_aload_n hx hb dX3_addSailor_5 rfl (lv_at hl 0 rfl) ?_
  refine lv_iload_n hx hb dX3_addSailor_6 rfl (lv_at hl 1 rfl) ?_
  refine kr_i (ws' := wN E M (0, Hb, a, k)) (va_runV (As := [.int (nI s)]) (rest := []) ⟨hx, hb, hml, hown, hts⟩ (c_X3_isShip l E M 0 Hb a k (nI s)  _) (cwV 1 hts gX3_addSailor_X3_isShip rfl rfl rfl ⟨rfl, hd_X3_isShip⟩ ⟨Nat.le_of_ble_eq_true rfl, Nat.le_of_ble_eq_true rfl⟩) (pwV (ci := 3) (q0 := 0) (C := RX3) hw hK rfl rfl rfl (rpS (AV := [.ref (M 0), .int (nI s)]) hw hK hG rp_75)) rfl rfl hl.1 rfl (lv_room (Nat.le_of_ble_eq_true rfl)) dX3_addSailor_7 ⟨Nat.le_of_ble_eq_true rfl, Nat.le_of_ble_eq_true rfl⟩) hw hA rp_75 (fun H locs hw => ?_)
  refine lv_if_eq (tgt := 29) hx hb dX3_addSailor_10 (by decide) (fun q8 => absurd q8 (fun q7 => absurd ((d_in_n (n := s) (k := n_ns Hb) (by omega) (by omega)).symm.trans (bI_z q7)) (by decide))) (fun _ => ?_)
  refine lv_iload_n hx hb dX3_addSailor_13 rfl (lv_at hl 2 rfl) ?_
  refine lv_iconst (v := 0) hx hb dX3_addSailor_14 (by decide) ?_
  refine lv_aload_n hx hb dX3_addSailor_15 rfl (lv_at hl 0 rfl) ?_
  refine k_get (ci := 3) (v := .ref (M 1)) (C := RX3) (T := TX3) (N := 10) hx hb hown hK hw hts hinX3 0 rfl rfl 2 (by decide) hf9 rfl dX3_addSailor_16 ?_
  refine lv_iload_n hx hb dX3_addSailor_19 rfl (lv_at hl 1 rfl) ?_
  refine k_ildN (i := s) (f := n_ma Hb) hx hb hK hw 1 rfl (by omega) (by omega) dX3_addSailor_20 ?_
  refine lv_iconst (v := 1) hx hb dX3_addSailor_21 (by decide) ?_
  refine lv_isub hx hb dX3_addSailor_22 ?_
  refine kr_i (ws' := wN E M (0, Hb, a, k)) (va_runS (As := [.int x, .int 0, .int ((n_ma Hb s) - 1)]) (rest := []) ⟨hx, hb, hml, hown, hts⟩ (c_X3_isIn l E x 0 ((n_ma Hb s) - 1)  _) (va_cwS 3 hts gX3_addSailor_X3_isIn rfl rfl rfl hd_X3_isIn ⟨Nat.le_of_ble_eq_true rfl, Nat.le_of_ble_eq_true rfl⟩) (rpS (AV := [.int x, .int 0, .int ((n_ma Hb s) - 1)]) hw hK hG rp_74) rfl rfl hl.1 rfl (lv_room (Nat.le_of_ble_eq_true rfl)) dX3_addSailor_23 ⟨Nat.le_of_ble_eq_true rfl, Nat.le_of_ble_eq_true rfl⟩) hw hA rp_74 (fun H locs hw => ?_)
  refine lv_if_ne (tgt := 35) hx hb dX3_addSailor_26 (by decide) (fun _ => ?_) (fun q8 => absurd q8 (fun q7 => absurd (hx1.symm.trans (bI_z q7)) (by decide)))
  refine lv_aload_n hx hb dX3_addSailor_35 rfl (lv_at hl 0 rfl) ?_
  refine k_get (ci := 3) (v := .ref (M 5)) (C := RX3) (T := TX3) (N := 10) hx hb hown hK hw hts hinX3 0 rfl rfl 8 (by decide) hf23 rfl dX3_addSailor_36 ?_
  refine lv_iload_n hx hb dX3_addSailor_39 rfl (lv_at hl 1 rfl) ?_
  refine lv_iconst (v := 0) hx hb dX3_addSailor_40 (by decide) ?_
  refine kr_i (ws' := wN E M (0, Hb, a, k)) (va_runS (As := [.int (nI s), .int 0]) (rest := [.ref (M 5)]) ⟨hx, hb, hml, hown, hts⟩ (c_X3_ship l E s 0  _) (va_cwS 2 hts gX3_addSailor_X3_ship rfl rfl rfl hd_X3_ship ⟨Nat.le_of_ble_eq_true rfl, Nat.le_of_ble_eq_true rfl⟩) (rpS (AV := [.int (nI s), .int 0]) hw hK hG rp_74) rfl rfl hl.1 rfl (lv_room (Nat.le_of_ble_eq_true rfl)) dX3_addSailor_41 ⟨Nat.le_of_ble_eq_true rfl, Nat.le_of_ble_eq_true rfl⟩) hw hA rp_74 (fun H locs hw => ?_)
  refine k_ildN (i := 3 + 3 * s + 0) (f := a) hx hb hK hw 5 rfl (by omega) (by omega) dX3_addSailor_44 ?_
  refine lv_if_ne (tgt := 57) hx hb dX3_addSailor_45 (by decide) (fun _ => ?_) (fun q8 => absurd q8 hh)
  refine lv_aload_n hx hb dX3_addSailor_57 rfl (lv_at hl 0 rfl) ?_
  refine lv_iconst (v := 2) hx hb dX3_addSailor_58 (by decide) ?_
  refine kr_i (ws' := wN E M (2, Hb, a, k)) (va_runV (As := [.int 2]) (rest := []) ⟨hx, hb, hml, hown, hts⟩ (c_X3_no l E M 0 Hb a k 2  _) (cwV 1 hts gX3_addSailor_X3_no rfl rfl rfl ⟨rfl, hd_X3_no⟩ ⟨Nat.le_of_ble_eq_true rfl, Nat.le_of_ble_eq_true rfl⟩) (pwV (ci := 3) (q0 := 0) (C := RX3) hw hK rfl rfl rfl (rpS (AV := [.ref (M 0), .int 2]) hw hK hG rp_75)) rfl rfl hl.1 rfl (lv_room (Nat.le_of_ble_eq_true rfl)) dX3_addSailor_59 ⟨Nat.le_of_ble_eq_true rfl, Nat.le_of_ble_eq_true rfl⟩) hw hA rp_76 (fun H locs hw => ?_)
  exact k_iret hx hb hr hlocks hK hw rfl dX3_addSailor_62 rfl rfl
set_option maxHeartbeats 4000000 in
set_option maxRecDepth 100000 in
theorem c_X3_addSailor_2b (l : Launch) (E : Ev) (M : Nat → Nat) (th : Int32) (Hb : MH) (a k : Fn) (s : Nat) (x : Int32) (v : Bool) (h1 : n_ns Hb ≤ 5) (h2 : n_np Hb ≤ 16) (h3 : n_nw Hb ≤ 4) (h4 : ∀ p, p < n_np Hb → n_so Hb p < 5) (hs : s < n_ns Hb) (hx1 : d_in x 0 (n_ma Hb s - 1) = true) (hh : a (3 + 3 * s + 0) = 0) (hf : n_np Hb = 16) : MI l E yX3_addSailor wsX3_addSailor rm_X3_addSailor [.ref (M 0), .int (nI s), .int x, .int (bI v)] (wN E M (th, Hb, a, k)) 0 (wN E M (2, Hb, a, k)) := by
  refine k_bI (cc := cX3_addSailor) (maxL := 4) (ret := (some .int)) (by decide) rfl (Nat.le_of_ble_eq_true rfl) ?_
  intro p9 e s9 m args below meth c A9 ls hC hl hw
  obtain ⟨hx, hb, hml, hr, hown, hts, hlocks, hK, hG, hA⟩ := hC
  have hf29 := hts (.fieldLink RX3 29 "SailorCandlesModel" "thrown" "I") (List.mem_of_getElem? (i := 1) rfl)
  have hinX3 : ∀ w ∈ wsX30, w ∈ wsX3_addSailor := fun w h => List.mem_cons_of_mem _ (List.mem_append_right _ h)
  have hf9 := hts (.fieldLink RX3 9 "SailorCandlesModel" "masts" "[I") (List.mem_of_getElem? (i := 2) rfl)
  have hf23 := hts (.fieldLink RX3 23 "SailorCandlesModel" "now" "[I") (List.mem_of_getElem? (i := 3) rfl)
  have hf40 := hts (.fieldLink RX3 40 "SailorCandlesModel" "sailors" "I") (List.mem_of_getElem? (i := 4) rfl)
  have hl : lv_has ls 4 [(0, .ref (M 0)), (1, .int (nI s)), (2, .int x), (3, .int (bI v))] := hl
  refine lv_aload_n hx hb dX3_addSailor_0 rfl (lv_at hl 0 rfl) ?_
  refine lv_iconst (v := 0) hx hb dX3_addSailor_1 (by decide) ?_
  refine k_put (ci := 3) (C := RX3) (T := TX3) (N := 10) (ws' := wN E M (0, Hb, a, k)) hx hb hown hK hw hts hinX3 tyX3 tyX3_ok nmX3 0 rfl rfl 0 (by decide) hf29 rfl rfl (Nat.le_of_ble_eq_true rfl) dX3_addSailor_2 rfl (fun H locs hw => ?_)
  refine lv_aload_n hx hb dX3_addSailor_5 rfl (lv_at hl 0 rfl) ?_
  refine lv_iload_n hx hb dX3_addSailor_6 rfl (lv_at hl 1 rfl) ?_
  refine kr_i (ws' := wN E M (0, Hb, a, k)) (va_runV (As := [.int (nI s)]) (rest := []) ⟨hx, hb, hml, hown, hts⟩ (c_X3_isShip l E M 0 Hb a k (nI s)  _) (cwV 1 hts gX3_addSailor_X3_isShip rfl rfl rfl ⟨rfl, hd_X3_isShip⟩ ⟨Nat.le_of_ble_eq_true rfl, Nat.le_of_ble_eq_true rfl⟩) (pwV (ci := 3) (q0 := 0) (C := RX3) hw hK rfl rfl rfl (rpS (AV := [.ref (M 0), .int (nI s)]) hw hK hG rp_75)) rfl rfl hl.1 rfl (lv_room (Nat.le_of_ble_eq_true rfl)) dX3_addSailor_7 ⟨Nat.le_of_ble_eq_true rfl, Nat.le_of_ble_eq_true rfl⟩) hw hA rp_75 (fun H locs hw => ?_)
  refine lv_if_eq (tgt := 29) hx hb dX3_addSailor_10 (by decide) (fun q8 => absurd q8 (fun q7 => absurd ((d_in_n (n := s) (k := n_ns Hb) (by omega) (by omega)).symm.trans (bI_z q7)) (by decide))) (fun _ => ?_)
  refine lv_iload_n hx hb dX3_addSailor_13 rfl (lv_at hl 2 rfl) ?_
  refine lv_iconst (v := 0) hx hb dX3_addSailor_14 (by decide) ?_
  refine lv_aload_n hx hb dX3_addSailor_15 rfl (lv_at hl 0 rfl) ?_
  refine k_get (ci := 3) (v := .ref (M 1)) (C := RX3) (T := TX3) (N := 10) hx hb hown hK hw hts hinX3 0 rfl rfl 2 (by decide) hf9 rfl dX3_addSailor_16 ?_
  refine lv_iload_n hx hb dX3_addSailor_19 rfl (lv_at hl 1 rfl) ?_
  refine k_ildN (i := s) (f := n_ma Hb) hx hb hK hw 1 rfl (by omega) (by omega) dX3_addSailor_20 ?_
  refine lv_iconst (v := 1) hx hb dX3_addSailor_21 (by decide) ?_
  refine lv_isub hx hb dX3_addSailor_22 ?_
  refine kr_i (ws' := wN E M (0, Hb, a, k)) (va_runS (As := [.int x, .int 0, .int ((n_ma Hb s) - 1)]) (rest := []) ⟨hx, hb, hml, hown, hts⟩ (c_X3_isIn l E x 0 ((n_ma Hb s) - 1)  _) (va_cwS 3 hts gX3_addSailor_X3_isIn rfl rfl rfl hd_X3_isIn ⟨Nat.le_of_ble_eq_true rfl, Nat.le_of_ble_eq_true rfl⟩) (rpS (AV := [.int x, .int 0, .int ((n_ma Hb s) - 1)]) hw hK hG rp_74) rfl rfl hl.1 rfl (lv_room (Nat.le_of_ble_eq_true rfl)) dX3_addSailor_23 ⟨Nat.le_of_ble_eq_true rfl, Nat.le_of_ble_eq_true rfl⟩) hw hA rp_74 (fun H locs hw => ?_)
  refine lv_if_ne (tgt := 35) hx hb dX3_addSailor_26 (by decide) (fun _ => ?_) (fun q8 => absurd q8 (fun q7 => absurd (hx1.symm.trans (bI_z q7)) (by decide)))
  refine lv_aload_n hx hb dX3_addSailor_35 rfl (lv_at hl 0 rfl) ?_
  refine k_get (ci := 3) (v := .ref (M 5)) (C := RX3) (T := TX3) (N := 10) hx hb hown hK hw hts hinX3 0 rfl rfl 8 (by decide) hf23 rfl dX3_addSailor_36 ?_
  refine lv_iload_n hx hb dX3_addSailor_39 rfl (lv_at hl 1 rfl) ?_
  refine lv_iconst (v := 0) hx hb dX3_addSailor_40 (by decide) ?_
  refine kr_i (ws' := wN E M (0, Hb, a, k)) (va_runS (As := [.int (nI s), .int 0]) (rest := [.ref (M 5)]) ⟨hx, hb, hml, hown, hts⟩ (c_X3_ship l E s 0  _) (va_cwS 2 hts gX3_addSailor_X3_ship rfl rfl rfl hd_X3_ship ⟨Nat.le_of_ble_eq_true rfl, Nat.le_of_ble_eq_true rfl⟩) (rpS (AV := [.int (nI s), .int 0]) hw hK hG rp_74) rfl rfl hl.1 rfl (lv_room (Nat.le_of_ble_eq_true rfl)) dX3_addSailor_41 ⟨Nat.le_of_ble_eq_true rfl, Nat.le_of_ble_eq_true rfl⟩) hw hA rp_74 (fun H locs hw => ?_)
  refine k_ildN (i := 3 + 3 * s + 0) (f := a) hx hb hK hw 5 rfl (by omega) (by omega) dX3_addSailor_44 ?_
  refine lv_if_ne (tgt := 57) hx hb dX3_addSailor_45 (by decide) (fun q8 => absurd hh q8) (fun _ => ?_)
  refine lv_aload_n hx hb dX3_addSailor_48 rfl (lv_at hl 0 rfl) ?_
  refine k_get (ci := 3) (v := .int (nI (n_np Hb))) (C := RX3) (T := TX3) (N := 10) hx hb hown hK hw hts hinX3 0 rfl rfl 3 (by decide) hf40 rfl dX3_addSailor_49 ?_
  refine lv_bipush (v := 16) hx hb dX3_addSailor_52 (by decide) ?_
  refine lv_icmp_ne (tgt := 63) hx hb dX3_addSailor_54 (by decide) (fun q8 => absurd (by rw [hf]; rfl) q8) (fun _ => ?_)
  refine lv_aload_n hx hb dX3_addSailor_57 rfl (lv_at hl 0 rfl) ?_
  refine lv_iconst (v := 2) hx hb dX3_addSailor_58 (by decide) ?_
  refine kr_i (ws' := wN E M (2, Hb, a, k)) (va_runV (As := [.int 2]) (rest := []) ⟨hx, hb, hml, hown, hts⟩ (c_X3_no l E M 0 Hb a k 2  _) (cwV 1 hts gX3_addSailor_X3_no rfl rfl rfl ⟨rfl, hd_X3_no⟩ ⟨Nat.le_of_ble_eq_true rfl, Nat.le_of_ble_eq_true rfl⟩) (pwV (ci := 3) (q0 := 0) (C := RX3) hw hK rfl rfl rfl (rpS (AV := [.ref (M 0), .int 2]) hw hK hG rp_75)) rfl rfl hl.1 rfl (lv_room (Nat.le_of_ble_eq_true rfl)) dX3_addSailor_59 ⟨Nat.le_of_ble_eq_true rfl, Nat.le_of_ble_eq_true rfl⟩) hw hA rp_76 (fun H locs hw => ?_)
  exact k_iret hx hb hr hlocks hK hw rfl dX3_addSailor_62 rfl rfl
set_option maxHeartbeats 4000000 in
set_option maxRecDepth 100000 in
theorem c_X3_addSailor (l : Launch) (E : Ev) (M : Nat → Nat) (th : Int32) (Hb : MH) (a k : Fn) (s : Nat) (x : Int32) (v : Bool) (h1 : n_ns Hb ≤ 5) (h2 : n_np Hb ≤ 16) (h3 : n_nw Hb ≤ 4) (h4 : ∀ p, p < n_np Hb → n_so Hb p < 5) (hs : s < n_ns Hb) (hx1 : d_in x 0 (n_ma Hb s - 1) = true) (hh : a (3 + 3 * s + 0) = 0) (hf : n_np Hb < 16) : MI l E yX3_addSailor wsX3_addSailor rm_X3_addSailor [.ref (M 0), .int (nI s), .int x, .int (bI v)] (wN E M (th, Hb, a, k)) (nI (n_np Hb)) (wN E M (0, o_np (o_vo (o_mo (o_so Hb (updN (n_so Hb) (n_np Hb) s)) (upd (n_mo Hb) (n_np Hb) x)) (updB (n_vo Hb) (n_np Hb) v)) (n_np Hb + 1), a, k)) := by
  refine k_bI (cc := cX3_addSailor) (maxL := 4) (ret := (some .int)) (by decide) rfl (Nat.le_of_ble_eq_true rfl) ?_
  intro p9 e s9 m args below meth c A9 ls hC hl hw
  obtain ⟨hx, hb, hml, hr, hown, hts, hlocks, hK, hG, hA⟩ := hC
  have hf29 := hts (.fieldLink RX3 29 "SailorCandlesModel" "thrown" "I") (List.mem_of_getElem? (i := 1) rfl)
  have hinX3 : ∀ w ∈ wsX30, w ∈ wsX3_addSailor := fun w h => List.mem_cons_of_mem _ (List.mem_append_right _ h)
  have hf9 := hts (.fieldLink RX3 9 "SailorCandlesModel" "masts" "[I") (List.mem_of_getElem? (i := 2) rfl)
  have hf23 := hts (.fieldLink RX3 23 "SailorCandlesModel" "now" "[I") (List.mem_of_getElem? (i := 3) rfl)
  have hf40 := hts (.fieldLink RX3 40 "SailorCandlesModel" "sailors" "I") (List.mem_of_getElem? (i := 4) rfl)
  have hf13 := hts (.fieldLink RX3 13 "SailorCandlesModel" "shipOf" "[I") (List.mem_of_getElem? (i := 5) rfl)
  have hf16 := hts (.fieldLink RX3 16 "SailorCandlesModel" "mastOf" "[I") (List.mem_of_getElem? (i := 6) rfl)
  have hf19 := hts (.fieldLink RX3 19 "SailorCandlesModel" "voter" "[Z") (List.mem_of_getElem? (i := 7) rfl)
  have hl : lv_has ls 4 [(0, .ref (M 0)), (1, .int (nI s)), (2, .int x), (3, .int (bI v))] := hl
  refine lv_aload_n hx hb dX3_addSailor_0 rfl (lv_at hl 0 rfl) ?_
  refine lv_iconst (v := 0) hx hb dX3_addSailor_1 (by decide) ?_
  refine k_put (ci := 3) (C := RX3) (T := TX3) (N := 10) (ws' := wN E M (0, Hb, a, k)) hx hb hown hK hw hts hinX3 tyX3 tyX3_ok nmX3 0 rfl rfl 0 (by decide) hf29 rfl rfl (Nat.le_of_ble_eq_true rfl) dX3_addSailor_2 rfl (fun H locs hw => ?_)
  refine lv_aload_n hx hb dX3_addSailor_5 rfl (lv_at hl 0 rfl) ?_
  refine lv_iload_n hx hb dX3_addSailor_6 rfl (lv_at hl 1 rfl) ?_
  refine kr_i (ws' := wN E M (0, Hb, a, k)) (va_runV (As := [.int (nI s)]) (rest := []) ⟨hx, hb, hml, hown, hts⟩ (c_X3_isShip l E M 0 Hb a k (nI s)  _) (cwV 1 hts gX3_addSailor_X3_isShip rfl rfl rfl ⟨rfl, hd_X3_isShip⟩ ⟨Nat.le_of_ble_eq_true rfl, Nat.le_of_ble_eq_true rfl⟩) (pwV (ci := 3) (q0 := 0) (C := RX3) hw hK rfl rfl rfl (rpS (AV := [.ref (M 0), .int (nI s)]) hw hK hG rp_75)) rfl rfl hl.1 rfl (lv_room (Nat.le_of_ble_eq_true rfl)) dX3_addSailor_7 ⟨Nat.le_of_ble_eq_true rfl, Nat.le_of_ble_eq_true rfl⟩) hw hA rp_75 (fun H locs hw => ?_)
  refine lv_if_eq (tgt := 29) hx hb dX3_addSailor_10 (by decide) (fun q8 => absurd q8 (fun q7 => absurd ((d_in_n (n := s) (k := n_ns Hb) (by omega) (by omega)).symm.trans (bI_z q7)) (by decide))) (fun _ => ?_)
  refine lv_iload_n hx hb dX3_addSailor_13 rfl (lv_at hl 2 rfl) ?_
  refine lv_iconst (v := 0) hx hb dX3_addSailor_14 (by decide) ?_
  refine lv_aload_n hx hb dX3_addSailor_15 rfl (lv_at hl 0 rfl) ?_
  refine k_get (ci := 3) (v := .ref (M 1)) (C := RX3) (T := TX3) (N := 10) hx hb hown hK hw hts hinX3 0 rfl rfl 2 (by decide) hf9 rfl dX3_addSailor_16 ?_
  refine lv_iload_n hx hb dX3_addSailor_19 rfl (lv_at hl 1 rfl) ?_
  refine k_ildN (i := s) (f := n_ma Hb) hx hb hK hw 1 rfl (by omega) (by omega) dX3_addSailor_20 ?_
  refine lv_iconst (v := 1) hx hb dX3_addSailor_21 (by decide) ?_
  refine lv_isub hx hb dX3_addSailor_22 ?_
  refine kr_i (ws' := wN E M (0, Hb, a, k)) (va_runS (As := [.int x, .int 0, .int ((n_ma Hb s) - 1)]) (rest := []) ⟨hx, hb, hml, hown, hts⟩ (c_X3_isIn l E x 0 ((n_ma Hb s) - 1)  _) (va_cwS 3 hts gX3_addSailor_X3_isIn rfl rfl rfl hd_X3_isIn ⟨Nat.le_of_ble_eq_true rfl, Nat.le_of_ble_eq_true rfl⟩) (rpS (AV := [.int x, .int 0, .int ((n_ma Hb s) - 1)]) hw hK hG rp_74) rfl rfl hl.1 rfl (lv_room (Nat.le_of_ble_eq_true rfl)) dX3_addSailor_23 ⟨Nat.le_of_ble_eq_true rfl, Nat.le_of_ble_eq_true rfl⟩) hw hA rp_74 (fun H locs hw => ?_)
  refine lv_if_ne (tgt := 35) hx hb dX3_addSailor_26 (by decide) (fun _ => ?_) (fun q8 => absurd q8 (fun q7 => absurd (hx1.symm.trans (bI_z q7)) (by decide)))
  refine lv_aload_n hx hb dX3_addSailor_35 rfl (lv_at hl 0 rfl) ?_
  refine k_get (ci := 3) (v := .ref (M 5)) (C := RX3) (T := TX3) (N := 10) hx hb hown hK hw hts hinX3 0 rfl rfl 8 (by decide) hf23 rfl dX3_addSailor_36 ?_
  refine lv_iload_n hx hb dX3_addSailor_39 rfl (lv_at hl 1 rfl) ?_
  refine lv_iconst (v := 0) hx hb dX3_addSailor_40 (by decide) ?_
  refine kr_i (ws' := wN E M (0, Hb, a, k)) (va_runS (As := [.int (nI s), .int 0]) (rest := [.ref (M 5)]) ⟨hx, hb, hml, hown, hts⟩ (c_X3_ship l E s 0  _) (va_cwS 2 hts gX3_addSailor_X3_ship rfl rfl rfl hd_X3_ship ⟨Nat.le_of_ble_eq_true rfl, Nat.le_of_ble_eq_true rfl⟩) (rpS (AV := [.int (nI s), .int 0]) hw hK hG rp_74) rfl rfl hl.1 rfl (lv_room (Nat.le_of_ble_eq_true rfl)) dX3_addSailor_41 ⟨Nat.le_of_ble_eq_true rfl, Nat.le_of_ble_eq_true rfl⟩) hw hA rp_74 (fun H locs hw => ?_)
  refine k_ildN (i := 3 + 3 * s + 0) (f := a) hx hb hK hw 5 rfl (by omega) (by omega) dX3_addSailor_44 ?_
  refine lv_if_ne (tgt := 57) hx hb dX3_addSailor_45 (by decide) (fun q8 => absurd hh q8) (fun _ => ?_)
  refine lv_aload_n hx hb dX3_addSailor_48 rfl (lv_at hl 0 rfl) ?_
  refine k_get (ci := 3) (v := .int (nI (n_np Hb))) (C := RX3) (T := TX3) (N := 10) hx hb hown hK hw hts hinX3 0 rfl rfl 3 (by decide) hf40 rfl dX3_addSailor_49 ?_
  refine lv_bipush (v := 16) hx hb dX3_addSailor_52 (by decide) ?_
  refine lv_icmp_ne (tgt := 63) hx hb dX3_addSailor_54 (by decide) (fun _ => ?_) (fun q8 => absurd q8 (fun q7 => absurd ((nI_eq (b := 16) (by omega) (by omega)).mp q7) (by omega)))
  refine lv_aload_n hx hb dX3_addSailor_63 rfl (lv_at hl 0 rfl) ?_
  refine k_get (ci := 3) (v := .ref (M 2)) (C := RX3) (T := TX3) (N := 10) hx hb hown hK hw hts hinX3 0 rfl rfl 4 (by decide) hf13 rfl dX3_addSailor_64 ?_
  refine lv_aload_n hx hb dX3_addSailor_67 rfl (lv_at hl 0 rfl) ?_
  refine k_get (ci := 3) (v := .int (nI (n_np Hb))) (C := RX3) (T := TX3) (N := 10) hx hb hown hK hw hts hinX3 0 rfl rfl 3 (by decide) hf40 rfl dX3_addSailor_68 ?_
  refine lv_iload_n hx hb dX3_addSailor_71 rfl (lv_at hl 1 rfl) ?_
  refine k_nstN (i := n_np Hb) (v := s) (ws' := wN E M (0, o_so Hb (updN (n_so Hb) (n_np Hb) s), a, k)) hx hb hK hw 2 rfl (by omega) (by omega) dX3_addSailor_72 rfl (fun H locs hw => ?_)
  refine lv_aload_n hx hb dX3_addSailor_73 rfl (lv_at hl 0 rfl) ?_
  refine k_get (ci := 3) (v := .ref (M 3)) (C := RX3) (T := TX3) (N := 10) hx hb hown hK hw hts hinX3 0 rfl rfl 5 (by decide) hf16 rfl dX3_addSailor_74 ?_
  refine lv_aload_n hx hb dX3_addSailor_77 rfl (lv_at hl 0 rfl) ?_
  refine k_get (ci := 3) (v := .int (nI (n_np Hb))) (C := RX3) (T := TX3) (N := 10) hx hb hown hK hw hts hinX3 0 rfl rfl 3 (by decide) hf40 rfl dX3_addSailor_78 ?_
  refine lv_iload_n hx hb dX3_addSailor_81 rfl (lv_at hl 2 rfl) ?_
  refine k_istN (i := n_np Hb) (ws' := wN E M (0, o_mo (o_so Hb (updN (n_so Hb) (n_np Hb) s)) (upd (n_mo Hb) (n_np Hb) x), a, k)) hx hb hK hw 3 rfl (by omega) (by omega) dX3_addSailor_82 rfl (fun H locs hw => ?_)
  refine lv_aload_n hx hb dX3_addSailor_83 rfl (lv_at hl 0 rfl) ?_
  refine k_get (ci := 3) (v := .ref (M 4)) (C := RX3) (T := TX3) (N := 10) hx hb hown hK hw hts hinX3 0 rfl rfl 6 (by decide) hf19 rfl dX3_addSailor_84 ?_
  refine lv_aload_n hx hb dX3_addSailor_87 rfl (lv_at hl 0 rfl) ?_
  refine k_get (ci := 3) (v := .int (nI (n_np Hb))) (C := RX3) (T := TX3) (N := 10) hx hb hown hK hw hts hinX3 0 rfl rfl 3 (by decide) hf40 rfl dX3_addSailor_88 ?_
  refine lv_iload_n hx hb dX3_addSailor_91 rfl (lv_at hl 3 rfl) ?_
  refine k_zstN (i := n_np Hb) (v := v) (ws' := wN E M (0, o_vo (o_mo (o_so Hb (updN (n_so Hb) (n_np Hb) s)) (upd (n_mo Hb) (n_np Hb) x)) (updB (n_vo Hb) (n_np Hb) v), a, k)) hx hb hK hw 4 rfl (by omega) (by omega) dX3_addSailor_92 rfl (fun H locs hw => ?_)
  refine lv_aload_n hx hb dX3_addSailor_93 rfl (lv_at hl 0 rfl) ?_
  refine lv_dup hx hb dX3_addSailor_94 rfl ?_
  refine k_get (ci := 3) (v := .int (nI (n_np Hb))) (C := RX3) (T := TX3) (N := 10) hx hb hown hK hw hts hinX3 0 rfl rfl 3 (by decide) hf40 rfl dX3_addSailor_95 ?_
  refine lv_iconst (v := 1) hx hb dX3_addSailor_98 (by decide) ?_
  refine k_iaddN (a := n_np Hb) (b := 1) hx hb dX3_addSailor_99 ?_
  refine k_put (ci := 3) (C := RX3) (T := TX3) (N := 10) (ws' := wN E M (0, o_np (o_vo (o_mo (o_so Hb (updN (n_so Hb) (n_np Hb) s)) (upd (n_mo Hb) (n_np Hb) x)) (updB (n_vo Hb) (n_np Hb) v)) ((n_np Hb) + 1), a, k)) hx hb hown hK hw hts hinX3 tyX3 tyX3_ok nmX3 0 rfl rfl 3 (by decide) hf40 rfl rfl (Nat.le_of_ble_eq_true rfl) dX3_addSailor_100 rfl (fun H locs hw => ?_)
  refine lv_aload_n hx hb dX3_addSailor_103 rfl (lv_at hl 0 rfl) ?_
  refine k_get (ci := 3) (v := .int (nI ((n_np Hb) + 1))) (C := RX3) (T := TX3) (N := 10) hx hb hown hK hw hts hinX3 0 rfl rfl 3 (by decide) hf40 rfl dX3_addSailor_104 ?_
  refine lv_iconst (v := 1) hx hb dX3_addSailor_107 (by decide) ?_
  refine lv_isub hx hb dX3_addSailor_108 ?_
  exact k_iret hx hb hr hlocks hK hw rfl dX3_addSailor_109 (nI_pred _) (rfl)
abbrev rm_X3_addWatcher : Room := { frames := 1, cells := 0, slots := 0, locals := 21 }
set_option maxHeartbeats 4000000 in
set_option maxRecDepth 100000 in
theorem c_X3_addWatcher_1 (l : Launch) (E : Ev) (M : Nat → Nat) (th : Int32) (Hb : MH) (a k : Fn) (h1 : n_ns Hb ≤ 5) (h2 : n_np Hb ≤ 16) (h3 : n_nw Hb ≤ 4) (h4 : ∀ p, p < n_np Hb → n_so Hb p < 5) (hf : n_nw Hb = 4) : MI l E yX3_addWatcher wsX3_addWatcher rm_X3_addWatcher [.ref (M 0)] (wN E M (th, Hb, a, k)) 0 (wN E M (1, Hb, a, k)) := by
  refine k_bI (cc := cX3_addWatcher) (maxL := 1) (ret := (some .int)) (by decide) rfl (Nat.le_of_ble_eq_true rfl) ?_
  intro p9 e s9 m args below meth c A9 ls hC hl hw
  obtain ⟨hx, hb, hml, hr, hown, hts, hlocks, hK, hG, hA⟩ := hC
  have hf29 := hts (.fieldLink RX3 29 "SailorCandlesModel" "thrown" "I") (List.mem_of_getElem? (i := 1) rfl)
  have hinX3 : ∀ w ∈ wsX30, w ∈ wsX3_addWatcher := fun w h => List.mem_cons_of_mem _ (List.mem_append_right _ h)
  have hf43 := hts (.fieldLink RX3 43 "SailorCandlesModel" "watchers" "I") (List.mem_of_getElem? (i := 2) rfl)
  have hl : lv_has ls 1 [(0, .ref (M 0))] := hl
  refine lv_aload_n hx hb dX3_addWatcher_0 rfl (lv_at hl 0 rfl) ?_
  refine lv_iconst (v := 0) hx hb dX3_addWatcher_1 (by decide) ?_
  refine k_put (ci := 3) (C := RX3) (T := TX3) (N := 10) (ws' := wN E M (0, Hb, a, k)) hx hb hown hK hw hts hinX3 tyX3 tyX3_ok nmX3 0 rfl rfl 0 (by decide) hf29 rfl rfl (Nat.le_of_ble_eq_true rfl) dX3_addWatcher_2 rfl (fun H locs hw => ?_)
  refine lv_aload_n hx hb dX3_addWatcher_5 rfl (lv_at hl 0 rfl) ?_
  refine k_get (ci := 3) (v := .int (nI (n_nw Hb))) (C := RX3) (T := TX3) (N := 10) hx hb hown hK hw hts hinX3 0 rfl rfl 7 (by decide) hf43 rfl dX3_addWatcher_6 ?_
  refine lv_iconst (v := 4) hx hb dX3_addWatcher_9 (by decide) ?_
  refine lv_icmp_ne (tgt := 19) hx hb dX3_addWatcher_10 (by decide) (fun q8 => absurd (by rw [hf]; rfl) q8) (fun _ => ?_)
  refine lv_aload_n hx hb dX3_addWatcher_13 rfl (lv_at hl 0 rfl) ?_
  refine lv_iconst (v := 1) hx hb dX3_addWatcher_14 (by decide) ?_
  refine kr_i (ws' := wN E M (1, Hb, a, k)) (va_runV (As := [.int 1]) (rest := []) ⟨hx, hb, hml, hown, hts⟩ (c_X3_no l E M 0 Hb a k 1  _) (cwV 1 hts gX3_addWatcher_X3_no rfl rfl rfl ⟨rfl, hd_X3_no⟩ ⟨Nat.le_of_ble_eq_true rfl, Nat.le_of_ble_eq_true rfl⟩) (pwV (ci := 3) (q0 := 0) (C := RX3) hw hK rfl rfl rfl (rpS (AV := [.ref (M 0), .int 1]) hw hK hG rp_75)) rfl rfl hl.1 rfl (lv_room (Nat.le_of_ble_eq_true rfl)) dX3_addWatcher_15 ⟨Nat.le_of_ble_eq_true rfl, Nat.le_of_ble_eq_true rfl⟩) hw hA rp_76 (fun H locs hw => ?_)
  exact k_iret hx hb hr hlocks hK hw rfl dX3_addWatcher_18 rfl rfl
set_option maxHeartbeats 4000000 in
set_option maxRecDepth 100000 in
theorem c_X3_addWatcher (l : Launch) (E : Ev) (M : Nat → Nat) (th : Int32) (Hb : MH) (a k : Fn) (h1 : n_ns Hb ≤ 5) (h2 : n_np Hb ≤ 16) (h3 : n_nw Hb ≤ 4) (h4 : ∀ p, p < n_np Hb → n_so Hb p < 5) (hf : n_nw Hb < 4) : MI l E yX3_addWatcher wsX3_addWatcher rm_X3_addWatcher [.ref (M 0)] (wN E M (th, Hb, a, k)) (nI (n_nw Hb)) (wN E M (0, o_nw Hb (n_nw Hb + 1), upd a (50 + n_nw Hb) 5, k)) := by
  refine k_bI (cc := cX3_addWatcher) (maxL := 1) (ret := (some .int)) (by decide) rfl (Nat.le_of_ble_eq_true rfl) ?_
  intro p9 e s9 m args below meth c A9 ls hC hl hw
  obtain ⟨hx, hb, hml, hr, hown, hts, hlocks, hK, hG, hA⟩ := hC
  have hf29 := hts (.fieldLink RX3 29 "SailorCandlesModel" "thrown" "I") (List.mem_of_getElem? (i := 1) rfl)
  have hinX3 : ∀ w ∈ wsX30, w ∈ wsX3_addWatcher := fun w h => List.mem_cons_of_mem _ (List.mem_append_right _ h)
  have hf43 := hts (.fieldLink RX3 43 "SailorCandlesModel" "watchers" "I") (List.mem_of_getElem? (i := 2) rfl)
  have hf23 := hts (.fieldLink RX3 23 "SailorCandlesModel" "now" "[I") (List.mem_of_getElem? (i := 3) rfl)
  have hl : lv_has ls 1 [(0, .ref (M 0))] := hl
  refine lv_aload_n hx hb dX3_addWatcher_0 rfl (lv_at hl 0 rfl) ?_
  refine lv_iconst (v := 0) hx hb dX3_addWatcher_1 (by decide) ?_
  refine k_put (ci := 3) (C := RX3) (T := TX3) (N := 10) (ws' := wN E M (0, Hb, a, k)) hx hb hown hK hw hts hinX3 tyX3 tyX3_ok nmX3 0 rfl rfl 0 (by decide) hf29 rfl rfl (Nat.le_of_ble_eq_true rfl) dX3_addWatcher_2 rfl (fun H locs hw => ?_)
  refine lv_aload_n hx hb dX3_addWatcher_5 rfl (lv_at hl 0 rfl) ?_
  refine k_get (ci := 3) (v := .int (nI (n_nw Hb))) (C := RX3) (T := TX3) (N := 10) hx hb hown hK hw hts hinX3 0 rfl rfl 7 (by decide) hf43 rfl dX3_addWatcher_6 ?_
  refine lv_iconst (v := 4) hx hb dX3_addWatcher_9 (by decide) ?_
  refine lv_icmp_ne (tgt := 19) hx hb dX3_addWatcher_10 (by decide) (fun _ => ?_) (fun q8 => absurd q8 (fun q7 => absurd ((nI_eq (b := 4) (by omega) (by omega)).mp q7) (by omega)))
  refine lv_aload_n hx hb dX3_addWatcher_19 rfl (lv_at hl 0 rfl) ?_
  refine k_get (ci := 3) (v := .ref (M 5)) (C := RX3) (T := TX3) (N := 10) hx hb hown hK hw hts hinX3 0 rfl rfl 8 (by decide) hf23 rfl dX3_addWatcher_20 ?_
  refine lv_bipush (v := 50) hx hb dX3_addWatcher_23 (by decide) ?_
  refine lv_aload_n hx hb dX3_addWatcher_25 rfl (lv_at hl 0 rfl) ?_
  refine k_get (ci := 3) (v := .int (nI (n_nw Hb))) (C := RX3) (T := TX3) (N := 10) hx hb hown hK hw hts hinX3 0 rfl rfl 7 (by decide) hf43 rfl dX3_addWatcher_26 ?_
  refine k_iaddN (a := 50) (b := n_nw Hb) hx hb dX3_addWatcher_29 ?_
  refine lv_iconst (v := 5) hx hb dX3_addWatcher_30 (by decide) ?_
  refine k_istN (i := 50 + (n_nw Hb)) (ws' := wN E M (0, Hb, upd a (50 + (n_nw Hb)) 5, k)) hx hb hK hw 5 rfl (by omega) (by omega) dX3_addWatcher_31 rfl (fun H locs hw => ?_)
  refine lv_aload_n hx hb dX3_addWatcher_32 rfl (lv_at hl 0 rfl) ?_
  refine lv_dup hx hb dX3_addWatcher_33 rfl ?_
  refine k_get (ci := 3) (v := .int (nI (n_nw Hb))) (C := RX3) (T := TX3) (N := 10) hx hb hown hK hw hts hinX3 0 rfl rfl 7 (by decide) hf43 rfl dX3_addWatcher_34 ?_
  refine lv_iconst (v := 1) hx hb dX3_addWatcher_37 (by decide) ?_
  refine k_iaddN (a := n_nw Hb) (b := 1) hx hb dX3_addWatcher_38 ?_
  refine k_put (ci := 3) (C := RX3) (T := TX3) (N := 10) (ws' := wN E M (0, o_nw Hb ((n_nw Hb) + 1), upd a (50 + (n_nw Hb)) 5, k)) hx hb hown hK hw hts hinX3 tyX3 tyX3_ok nmX3 0 rfl rfl 7 (by decide) hf43 rfl rfl (Nat.le_of_ble_eq_true rfl) dX3_addWatcher_39 rfl (fun H locs hw => ?_)
  refine lv_aload_n hx hb dX3_addWatcher_42 rfl (lv_at hl 0 rfl) ?_
  refine k_get (ci := 3) (v := .int (nI ((n_nw Hb) + 1))) (C := RX3) (T := TX3) (N := 10) hx hb hown hK hw hts hinX3 0 rfl rfl 7 (by decide) hf43 rfl dX3_addWatcher_43 ?_
  refine lv_iconst (v := 1) hx hb dX3_addWatcher_46 (by decide) ?_
  refine lv_isub hx hb dX3_addWatcher_47 ?_
  exact k_iret hx hb hr hlocks hK hw rfl dX3_addWatcher_48 (nI_pred _) (rfl)
abbrev rm_X3_buyWax : Room := { frames := 1, cells := 0, slots := 0, locals := 22 }
set_option maxHeartbeats 4000000 in
set_option maxRecDepth 100000 in
theorem c_X3_buyWax_1 (l : Launch) (E : Ev) (M : Nat → Nat) (th : Int32) (Hb : MH) (a k : Fn) (x : Int32) (h1 : n_ns Hb ≤ 5) (h2 : n_np Hb ≤ 16) (h3 : n_nw Hb ≤ 4) (h4 : ∀ p, p < n_np Hb → n_so Hb p < 5) (hd : d_in x 1 500 = false) : MI l E yX3_buyWax wsX3_buyWax rm_X3_buyWax [.ref (M 0), .int x] (wN E M (th, Hb, a, k)) 0 (wN E M (1, Hb, a, k)) := by
  refine k_bI (cc := cX3_buyWax) (maxL := 2) (ret := (some .int)) (by decide) rfl (Nat.le_of_ble_eq_true rfl) ?_
  intro p9 e s9 m args below meth c A9 ls hC hl hw
  obtain ⟨hx, hb, hml, hr, hown, hts, hlocks, hK, hG, hA⟩ := hC
  have hf29 := hts (.fieldLink RX3 29 "SailorCandlesModel" "thrown" "I") (List.mem_of_getElem? (i := 1) rfl)
  have hinX3 : ∀ w ∈ wsX30, w ∈ wsX3_buyWax := fun w h => List.mem_cons_of_mem _ (List.mem_append_right _ h)
  have hl : lv_has ls 2 [(0, .ref (M 0)), (1, .int x)] := hl
  refine lv_aload_n hx hb dX3_buyWax_0 rfl (lv_at hl 0 rfl) ?_
  refine lv_iconst (v := 0) hx hb dX3_buyWax_1 (by decide) ?_
  refine k_put (ci := 3) (C := RX3) (T := TX3) (N := 10) (ws' := wN E M (0, Hb, a, k)) hx hb hown hK hw hts hinX3 tyX3 tyX3_ok nmX3 0 rfl rfl 0 (by decide) hf29 rfl rfl (Nat.le_of_ble_eq_true rfl) dX3_buyWax_2 rfl (fun H locs hw => ?_)
  refine lv_iload_n hx hb dX3_buyWax_5 rfl (lv_at hl 1 rfl) ?_
  refine lv_iconst (v := 1) hx hb dX3_buyWax_6 (by decide) ?_
  refine lv_sipush (v := 500) hx hb dX3_buyWax_7 (by decide) ?_
  refine kr_i (ws' := wN E M (0, Hb, a, k)) (va_runS (As := [.int x, .int 1, .int 500]) (rest := []) ⟨hx, hb, hml, hown, hts⟩ (c_X3_isIn l E x 1 500  _) (va_cwS 3 hts gX3_buyWax_X3_isIn rfl rfl rfl hd_X3_isIn ⟨Nat.le_of_ble_eq_true rfl, Nat.le_of_ble_eq_true rfl⟩) (rpS (AV := [.int x, .int 1, .int 500]) hw hK hG rp_74) rfl rfl hl.1 rfl (lv_room (Nat.le_of_ble_eq_true rfl)) dX3_buyWax_10 ⟨Nat.le_of_ble_eq_true rfl, Nat.le_of_ble_eq_true rfl⟩) hw hA rp_74 (fun H locs hw => ?_)
  refine lv_if_ne (tgt := 22) hx hb dX3_buyWax_13 (by decide) (fun q8 => absurd (by rw [hd]; rfl) q8) (fun _ => ?_)
  refine lv_aload_n hx hb dX3_buyWax_16 rfl (lv_at hl 0 rfl) ?_
  refine lv_iconst (v := 1) hx hb dX3_buyWax_17 (by decide) ?_
  refine kr_i (ws' := wN E M (1, Hb, a, k)) (va_runV (As := [.int 1]) (rest := []) ⟨hx, hb, hml, hown, hts⟩ (c_X3_no l E M 0 Hb a k 1  _) (cwV 1 hts gX3_buyWax_X3_no rfl rfl rfl ⟨rfl, hd_X3_no⟩ ⟨Nat.le_of_ble_eq_true rfl, Nat.le_of_ble_eq_true rfl⟩) (pwV (ci := 3) (q0 := 0) (C := RX3) hw hK rfl rfl rfl (rpS (AV := [.ref (M 0), .int 1]) hw hK hG rp_75)) rfl rfl hl.1 rfl (lv_room (Nat.le_of_ble_eq_true rfl)) dX3_buyWax_18 ⟨Nat.le_of_ble_eq_true rfl, Nat.le_of_ble_eq_true rfl⟩) hw hA rp_76 (fun H locs hw => ?_)
  exact k_iret hx hb hr hlocks hK hw rfl dX3_buyWax_21 rfl rfl
set_option maxHeartbeats 4000000 in
set_option maxRecDepth 100000 in
theorem c_X3_buyWax (l : Launch) (E : Ev) (M : Nat → Nat) (th : Int32) (Hb : MH) (a k : Fn) (x : Int32) (h1 : n_ns Hb ≤ 5) (h2 : n_np Hb ≤ 16) (h3 : n_nw Hb ≤ 4) (h4 : ∀ p, p < n_np Hb → n_so Hb p < 5) (hd : d_in x 1 500 = true) : MI l E yX3_buyWax wsX3_buyWax rm_X3_buyWax [.ref (M 0), .int x] (wN E M (th, Hb, a, k)) (a 1 + x) (wN E M (0, Hb, upd a 1 (a 1 + x), k)) := by
  refine k_bI (cc := cX3_buyWax) (maxL := 2) (ret := (some .int)) (by decide) rfl (Nat.le_of_ble_eq_true rfl) ?_
  intro p9 e s9 m args below meth c A9 ls hC hl hw
  obtain ⟨hx, hb, hml, hr, hown, hts, hlocks, hK, hG, hA⟩ := hC
  have hf29 := hts (.fieldLink RX3 29 "SailorCandlesModel" "thrown" "I") (List.mem_of_getElem? (i := 1) rfl)
  have hinX3 : ∀ w ∈ wsX30, w ∈ wsX3_buyWax := fun w h => List.mem_cons_of_mem _ (List.mem_append_right _ h)
  have hf23 := hts (.fieldLink RX3 23 "SailorCandlesModel" "now" "[I") (List.mem_of_getElem? (i := 2) rfl)
  have hl : lv_has ls 2 [(0, .ref (M 0)), (1, .int x)] := hl
  refine lv_aload_n hx hb dX3_buyWax_0 rfl (lv_at hl 0 rfl) ?_
  refine lv_iconst (v := 0) hx hb dX3_buyWax_1 (by decide) ?_
  refine k_put (ci := 3) (C := RX3) (T := TX3) (N := 10) (ws' := wN E M (0, Hb, a, k)) hx hb hown hK hw hts hinX3 tyX3 tyX3_ok nmX3 0 rfl rfl 0 (by decide) hf29 rfl rfl (Nat.le_of_ble_eq_true rfl) dX3_buyWax_2 rfl (fun H locs hw => ?_)
  refine lv_iload_n hx hb dX3_buyWax_5 rfl (lv_at hl 1 rfl) ?_
  refine lv_iconst (v := 1) hx hb dX3_buyWax_6 (by decide) ?_
  refine lv_sipush (v := 500) hx hb dX3_buyWax_7 (by decide) ?_
  refine kr_i (ws' := wN E M (0, Hb, a, k)) (va_runS (As := [.int x, .int 1, .int 500]) (rest := []) ⟨hx, hb, hml, hown, hts⟩ (c_X3_isIn l E x 1 500  _) (va_cwS 3 hts gX3_buyWax_X3_isIn rfl rfl rfl hd_X3_isIn ⟨Nat.le_of_ble_eq_true rfl, Nat.le_of_ble_eq_true rfl⟩) (rpS (AV := [.int x, .int 1, .int 500]) hw hK hG rp_74) rfl rfl hl.1 rfl (lv_room (Nat.le_of_ble_eq_true rfl)) dX3_buyWax_10 ⟨Nat.le_of_ble_eq_true rfl, Nat.le_of_ble_eq_true rfl⟩) hw hA rp_74 (fun H locs hw => ?_)
  refine lv_if_ne (tgt := 22) hx hb dX3_buyWax_13 (by decide) (fun _ => ?_) (fun q8 => absurd q8 (fun q7 => absurd (hd.symm.trans (bI_z q7)) (by decide)))
  refine lv_aload_n hx hb dX3_buyWax_22 rfl (lv_at hl 0 rfl) ?_
  refine k_get (ci := 3) (v := .ref (M 5)) (C := RX3) (T := TX3) (N := 10) hx hb hown hK hw hts hinX3 0 rfl rfl 8 (by decide) hf23 rfl dX3_buyWax_23 ?_
  refine lv_iconst (v := 1) hx hb dX3_buyWax_26 (by decide) ?_
  refine lv_dup2_11 hx hb dX3_buyWax_27 rfl rfl ?_
  refine k_ildN (i := 1) (f := a) hx hb hK hw 5 rfl (by omega) (by omega) dX3_buyWax_28 ?_
  refine lv_iload_n hx hb dX3_buyWax_29 rfl (lv_at hl 1 rfl) ?_
  refine lv_iadd hx hb dX3_buyWax_30 ?_
  refine k_istN (i := 1) (ws' := wN E M (0, Hb, upd a 1 ((a 1) + x), k)) hx hb hK hw 5 rfl (by omega) (by omega) dX3_buyWax_31 rfl (fun H locs hw => ?_)
  refine lv_aload_n hx hb dX3_buyWax_32 rfl (lv_at hl 0 rfl) ?_
  refine k_get (ci := 3) (v := .ref (M 5)) (C := RX3) (T := TX3) (N := 10) hx hb hown hK hw hts hinX3 0 rfl rfl 8 (by decide) hf23 rfl dX3_buyWax_33 ?_
  refine lv_iconst (v := 1) hx hb dX3_buyWax_36 (by decide) ?_
  refine k_ildN (i := 1) (f := upd a 1 ((a 1) + x)) hx hb hK hw 5 rfl (by omega) (by omega) dX3_buyWax_37 ?_
  exact k_iret hx hb hr hlocks hK hw rfl dX3_buyWax_38 (rfl) (rfl)
