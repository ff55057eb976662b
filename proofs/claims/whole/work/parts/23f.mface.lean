abbrev rm_X3_trustIn : Room := { frames := 2, cells := 0, slots := 0, locals := 44 }
set_option maxHeartbeats 4000000 in
set_option maxRecDepth 100000 in
theorem c_X3_trustIn_1 (l : Launch) (E : Ev) (M : Nat → Nat) (th : Int32) (Hb : MH) (a k : Fn) (s : Int32) (h1 : n_ns Hb ≤ 5) (h2 : n_np Hb ≤ 16) (h3 : n_nw Hb ≤ 4) (h4 : ∀ p, p < n_np Hb → n_so Hb p < 5) (hd_ns : d_in s 0 (nI (n_ns Hb) - 1) = false) : MI l E yX3_trustIn wsX3_trustIn rm_X3_trustIn [.ref (M 0), .int s] (wN E M (th, Hb, a, k)) 0 (wN E M (1, Hb, a, k)) := by
  refine k_bI (cc := cX3_trustIn) (maxL := 2) (ret := (some .int)) (by decide) rfl (Nat.le_of_ble_eq_true rfl) ?_
  intro p9 e s9 m args below meth c A9 ls hC hl hw
  obtain ⟨hx, hb, hml, hr, hown, hts, hlocks, hK, hG, hA⟩ := hC
  have hf29 := hts (.fieldLink RX3 29 "SailorCandlesModel" "thrown" "I") (List.mem_of_getElem? (i := 1) rfl)
  have hinX3 : ∀ w ∈ wsX30, w ∈ wsX3_trustIn := fun w h => List.mem_cons_of_mem _ (List.mem_append_right _ h)
  have hl : lv_has ls 2 [(0, .ref (M 0)), (1, .int s)] := hl
  refine lv_aload_n hx hb dX3_trustIn_0 rfl (lv_at hl 0 rfl) ?_
  refine lv_iconst (v := 0) hx hb dX3_trustIn_1 (by decide) ?_
  refine k_put (ci := 3) (C := RX3) (T := TX3) (N := 10) (ws' := wN E M (0, Hb, a, k)) hx hb hown hK hw hts hinX3 tyX3 tyX3_ok nmX3 0 rfl rfl 0 (by decide) hf29 rfl rfl (Nat.le_of_ble_eq_true rfl) dX3_trustIn_2 rfl (fun H locs hw => ?_)
  refine lv_aload_n hx hb dX3_trustIn_5 rfl (lv_at hl 0 rfl) ?_
  refine lv_iload_n hx hb dX3_trustIn_6 rfl (lv_at hl 1 rfl) ?_
  refine kr_i (ws' := wN E M (0, Hb, a, k)) (va_runV (As := [.int s]) (rest := []) ⟨hx, hb, hml, hown, hts⟩ (c_X3_isShip l E M 0 Hb a k s  _) (cwV 1 hts gX3_trustIn_X3_isShip rfl rfl rfl ⟨rfl, hd_X3_isShip⟩ ⟨Nat.le_of_ble_eq_true rfl, Nat.le_of_ble_eq_true rfl⟩) (pwV (ci := 3) (q0 := 0) (C := RX3) hw hK rfl rfl rfl (rpS (AV := [.ref (M 0), .int s]) hw hK hG rp_75)) rfl rfl hl.1 rfl (lv_room (Nat.le_of_ble_eq_true rfl)) dX3_trustIn_7 ⟨Nat.le_of_ble_eq_true rfl, Nat.le_of_ble_eq_true rfl⟩) hw hA rp_75 (fun H locs hw => ?_)
  refine lv_if_eq (tgt := 21) hx hb dX3_trustIn_10 (by decide) (fun _ => ?_) (fun q8 => absurd (by rw [hd_ns]; rfl) q8)
  refine lv_aload_n hx hb dX3_trustIn_21 rfl (lv_at hl 0 rfl) ?_
  refine lv_iconst (v := 1) hx hb dX3_trustIn_22 (by decide) ?_
  refine kr_i (ws' := wN E M (1, Hb, a, k)) (va_runV (As := [.int 1]) (rest := []) ⟨hx, hb, hml, hown, hts⟩ (c_X3_no l E M 0 Hb a k 1  _) (cwV 1 hts gX3_trustIn_X3_no rfl rfl rfl ⟨rfl, hd_X3_no⟩ ⟨Nat.le_of_ble_eq_true rfl, Nat.le_of_ble_eq_true rfl⟩) (pwV (ci := 3) (q0 := 0) (C := RX3) hw hK rfl rfl rfl (rpS (AV := [.ref (M 0), .int 1]) hw hK hG rp_75)) rfl rfl hl.1 rfl (lv_room (Nat.le_of_ble_eq_true rfl)) dX3_trustIn_23 ⟨Nat.le_of_ble_eq_true rfl, Nat.le_of_ble_eq_true rfl⟩) hw hA rp_76 (fun H locs hw => ?_)
  exact k_iret hx hb hr hlocks hK hw rfl dX3_trustIn_26 rfl rfl
set_option maxHeartbeats 4000000 in
set_option maxRecDepth 100000 in
theorem c_X3_trustIn (l : Launch) (E : Ev) (M : Nat → Nat) (th : Int32) (Hb : MH) (a k : Fn) (s : Nat) (h1 : n_ns Hb ≤ 5) (h2 : n_np Hb ≤ 16) (h3 : n_nw Hb ≤ 4) (h4 : ∀ p, p < n_np Hb → n_so Hb p < 5) (hs : s < n_ns Hb) : MI l E yX3_trustIn wsX3_trustIn rm_X3_trustIn [.ref (M 0), .int (nI s)] (wN E M (th, Hb, a, k)) (l_mtr a s (n_nw Hb)) (wN E M (0, Hb, a, k)) := by
  refine k_bI (cc := cX3_trustIn) (maxL := 2) (ret := (some .int)) (by decide) rfl (Nat.le_of_ble_eq_true rfl) ?_
  intro p9 e s9 m args below meth c A9 ls hC hl hw
  obtain ⟨hx, hb, hml, hr, hown, hts, hlocks, hK, hG, hA⟩ := hC
  have hf29 := hts (.fieldLink RX3 29 "SailorCandlesModel" "thrown" "I") (List.mem_of_getElem? (i := 1) rfl)
  have hinX3 : ∀ w ∈ wsX30, w ∈ wsX3_trustIn := fun w h => List.mem_cons_of_mem _ (List.mem_append_right _ h)
  have hl : lv_has ls 2 [(0, .ref (M 0)), (1, .int (nI s))] := hl
  refine lv_aload_n hx hb dX3_trustIn_0 rfl (lv_at hl 0 rfl) ?_
  refine lv_iconst (v := 0) hx hb dX3_trustIn_1 (by decide) ?_
  refine k_put (ci := 3) (C := RX3) (T := TX3) (N := 10) (ws' := wN E M (0, Hb, a, k)) hx hb hown hK hw hts hinX3 tyX3 tyX3_ok nmX3 0 rfl rfl 0 (by decide) hf29 rfl rfl (Nat.le_of_ble_eq_true rfl) dX3_trustIn_2 rfl (fun H locs hw => ?_)
  refine lv_aload_n hx hb dX3_trustIn_5 rfl (lv_at hl 0 rfl) ?_
  refine lv_iload_n hx hb dX3_trustIn_6 rfl (lv_at hl 1 rfl) ?_
  refine kr_i (ws' := wN E M (0, Hb, a, k)) (va_runV (As := [.int (nI s)]) (rest := []) ⟨hx, hb, hml, hown, hts⟩ (c_X3_isShip l E M 0 Hb a k (nI s)  _) (cwV 1 hts gX3_trustIn_X3_isShip rfl rfl rfl ⟨rfl, hd_X3_isShip⟩ ⟨Nat.le_of_ble_eq_true rfl, Nat.le_of_ble_eq_true rfl⟩) (pwV (ci := 3) (q0 := 0) (C := RX3) hw hK rfl rfl rfl (rpS (AV := [.ref (M 0), .int (nI s)]) hw hK hG rp_75)) rfl rfl hl.1 rfl (lv_room (Nat.le_of_ble_eq_true rfl)) dX3_trustIn_7 ⟨Nat.le_of_ble_eq_true rfl, Nat.le_of_ble_eq_true rfl⟩) hw hA rp_75 (fun H locs hw => ?_)
  refine lv_if_eq (tgt := 21) hx hb dX3_trustIn_10 (by decide) (fun q8 => absurd q8 (fun q7 => absurd ((d_in_n (n := s) (k := n_ns Hb) (by omega) (by omega)).symm.trans (bI_z q7)) (by decide))) (fun _ => ?_)
  refine lv_aload_n hx hb dX3_trustIn_13 rfl (lv_at hl 0 rfl) ?_
  refine lv_iload_n hx hb dX3_trustIn_14 rfl (lv_at hl 1 rfl) ?_
  refine kr_i (ws' := wN E M (0, Hb, a, k)) (va_runV (As := [.int (nI s)]) (rest := []) ⟨hx, hb, hml, hown, hts⟩ (c_X3_trust l E M 0 Hb a k s (by omega) (by omega) (by omega) (h4) (by omega) _) (cwV 1 hts gX3_trustIn_X3_trust rfl rfl rfl ⟨rfl, hd_X3_trust⟩ ⟨Nat.le_of_ble_eq_true rfl, Nat.le_of_ble_eq_true rfl⟩) (pwV (ci := 3) (q0 := 0) (C := RX3) hw hK rfl rfl rfl (rpS (AV := [.ref (M 0), .int (nI s)]) hw hK hG rp_75)) rfl rfl hl.1 rfl (lv_room (Nat.le_of_ble_eq_true rfl)) dX3_trustIn_15 ⟨Nat.le_of_ble_eq_true rfl, Nat.le_of_ble_eq_true rfl⟩) hw hA rp_75 (fun H locs hw => ?_)
  refine lv_goto (tgt := 26) hx hb dX3_trustIn_18 (by decide) ?_
  exact k_iret hx hb hr hlocks hK hw rfl dX3_trustIn_26 rfl rfl
abbrev rm_X3_voters_ : Room := { frames := 2, cells := 0, slots := 0, locals := 45 }
set_option maxHeartbeats 4000000 in
set_option maxRecDepth 100000 in
theorem c_X3_voters__1 (l : Launch) (E : Ev) (M : Nat → Nat) (th : Int32) (Hb : MH) (a k : Fn) (s : Int32) (h1 : n_ns Hb ≤ 5) (h2 : n_np Hb ≤ 16) (h3 : n_nw Hb ≤ 4) (h4 : ∀ p, p < n_np Hb → n_so Hb p < 5) (hd_ns : d_in s 0 (nI (n_ns Hb) - 1) = false) : MI l E yX3_voters_ wsX3_voters_ rm_X3_voters_ [.ref (M 0), .int s] (wN E M (th, Hb, a, k)) 0 (wN E M (1, Hb, a, k)) := by
  refine k_bI (cc := cX3_voters_) (maxL := 2) (ret := (some .int)) (by decide) rfl (Nat.le_of_ble_eq_true rfl) ?_
  intro p9 e s9 m args below meth c A9 ls hC hl hw
  obtain ⟨hx, hb, hml, hr, hown, hts, hlocks, hK, hG, hA⟩ := hC
  have hf29 := hts (.fieldLink RX3 29 "SailorCandlesModel" "thrown" "I") (List.mem_of_getElem? (i := 1) rfl)
  have hinX3 : ∀ w ∈ wsX30, w ∈ wsX3_voters_ := fun w h => List.mem_cons_of_mem _ (List.mem_append_right _ h)
  have hl : lv_has ls 2 [(0, .ref (M 0)), (1, .int s)] := hl
  refine lv_aload_n hx hb dX3_voters__0 rfl (lv_at hl 0 rfl) ?_
  refine lv_iconst (v := 0) hx hb dX3_voters__1 (by decide) ?_
  refine k_put (ci := 3) (C := RX3) (T := TX3) (N := 10) (ws' := wN E M (0, Hb, a, k)) hx hb hown hK hw hts hinX3 tyX3 tyX3_ok nmX3 0 rfl rfl 0 (by decide) hf29 rfl rfl (Nat.le_of_ble_eq_true rfl) dX3_voters__2 rfl (fun H locs hw => ?_)
  refine lv_aload_n hx hb dX3_voters__5 rfl (lv_at hl 0 rfl) ?_
  refine lv_iload_n hx hb dX3_voters__6 rfl (lv_at hl 1 rfl) ?_
  refine kr_i (ws' := wN E M (0, Hb, a, k)) (va_runV (As := [.int s]) (rest := []) ⟨hx, hb, hml, hown, hts⟩ (c_X3_isShip l E M 0 Hb a k s  _) (cwV 1 hts gX3_voters__X3_isShip rfl rfl rfl ⟨rfl, hd_X3_isShip⟩ ⟨Nat.le_of_ble_eq_true rfl, Nat.le_of_ble_eq_true rfl⟩) (pwV (ci := 3) (q0 := 0) (C := RX3) hw hK rfl rfl rfl (rpS (AV := [.ref (M 0), .int s]) hw hK hG rp_75)) rfl rfl hl.1 rfl (lv_room (Nat.le_of_ble_eq_true rfl)) dX3_voters__7 ⟨Nat.le_of_ble_eq_true rfl, Nat.le_of_ble_eq_true rfl⟩) hw hA rp_75 (fun H locs hw => ?_)
  refine lv_if_eq (tgt := 22) hx hb dX3_voters__10 (by decide) (fun _ => ?_) (fun q8 => absurd (by rw [hd_ns]; rfl) q8)
  refine lv_aload_n hx hb dX3_voters__22 rfl (lv_at hl 0 rfl) ?_
  refine lv_iconst (v := 1) hx hb dX3_voters__23 (by decide) ?_
  refine kr_i (ws' := wN E M (1, Hb, a, k)) (va_runV (As := [.int 1]) (rest := []) ⟨hx, hb, hml, hown, hts⟩ (c_X3_no l E M 0 Hb a k 1  _) (cwV 1 hts gX3_voters__X3_no rfl rfl rfl ⟨rfl, hd_X3_no⟩ ⟨Nat.le_of_ble_eq_true rfl, Nat.le_of_ble_eq_true rfl⟩) (pwV (ci := 3) (q0 := 0) (C := RX3) hw hK rfl rfl rfl (rpS (AV := [.ref (M 0), .int 1]) hw hK hG rp_75)) rfl rfl hl.1 rfl (lv_room (Nat.le_of_ble_eq_true rfl)) dX3_voters__24 ⟨Nat.le_of_ble_eq_true rfl, Nat.le_of_ble_eq_true rfl⟩) hw hA rp_76 (fun H locs hw => ?_)
  exact k_iret hx hb hr hlocks hK hw rfl dX3_voters__27 rfl rfl
set_option maxHeartbeats 4000000 in
set_option maxRecDepth 100000 in
theorem c_X3_voters_ (l : Launch) (E : Ev) (M : Nat → Nat) (th : Int32) (Hb : MH) (a k : Fn) (s : Nat) (h1 : n_ns Hb ≤ 5) (h2 : n_np Hb ≤ 16) (h3 : n_nw Hb ≤ 4) (h4 : ∀ p, p < n_np Hb → n_so Hb p < 5) (hs : s < n_ns Hb) : MI l E yX3_voters_ wsX3_voters_ rm_X3_voters_ [.ref (M 0), .int (nI s)] (wN E M (th, Hb, a, k)) (l_mvo Hb a s false (n_np Hb)) (wN E M (0, Hb, a, k)) := by
  refine k_bI (cc := cX3_voters_) (maxL := 2) (ret := (some .int)) (by decide) rfl (Nat.le_of_ble_eq_true rfl) ?_
  intro p9 e s9 m args below meth c A9 ls hC hl hw
  obtain ⟨hx, hb, hml, hr, hown, hts, hlocks, hK, hG, hA⟩ := hC
  have hf29 := hts (.fieldLink RX3 29 "SailorCandlesModel" "thrown" "I") (List.mem_of_getElem? (i := 1) rfl)
  have hinX3 : ∀ w ∈ wsX30, w ∈ wsX3_voters_ := fun w h => List.mem_cons_of_mem _ (List.mem_append_right _ h)
  have hl : lv_has ls 2 [(0, .ref (M 0)), (1, .int (nI s))] := hl
  refine lv_aload_n hx hb dX3_voters__0 rfl (lv_at hl 0 rfl) ?_
  refine lv_iconst (v := 0) hx hb dX3_voters__1 (by decide) ?_
  refine k_put (ci := 3) (C := RX3) (T := TX3) (N := 10) (ws' := wN E M (0, Hb, a, k)) hx hb hown hK hw hts hinX3 tyX3 tyX3_ok nmX3 0 rfl rfl 0 (by decide) hf29 rfl rfl (Nat.le_of_ble_eq_true rfl) dX3_voters__2 rfl (fun H locs hw => ?_)
  refine lv_aload_n hx hb dX3_voters__5 rfl (lv_at hl 0 rfl) ?_
  refine lv_iload_n hx hb dX3_voters__6 rfl (lv_at hl 1 rfl) ?_
  refine kr_i (ws' := wN E M (0, Hb, a, k)) (va_runV (As := [.int (nI s)]) (rest := []) ⟨hx, hb, hml, hown, hts⟩ (c_X3_isShip l E M 0 Hb a k (nI s)  _) (cwV 1 hts gX3_voters__X3_isShip rfl rfl rfl ⟨rfl, hd_X3_isShip⟩ ⟨Nat.le_of_ble_eq_true rfl, Nat.le_of_ble_eq_true rfl⟩) (pwV (ci := 3) (q0 := 0) (C := RX3) hw hK rfl rfl rfl (rpS (AV := [.ref (M 0), .int (nI s)]) hw hK hG rp_75)) rfl rfl hl.1 rfl (lv_room (Nat.le_of_ble_eq_true rfl)) dX3_voters__7 ⟨Nat.le_of_ble_eq_true rfl, Nat.le_of_ble_eq_true rfl⟩) hw hA rp_75 (fun H locs hw => ?_)
  refine lv_if_eq (tgt := 22) hx hb dX3_voters__10 (by decide) (fun q8 => absurd q8 (fun q7 => absurd ((d_in_n (n := s) (k := n_ns Hb) (by omega) (by omega)).symm.trans (bI_z q7)) (by decide))) (fun _ => ?_)
  refine lv_aload_n hx hb dX3_voters__13 rfl (lv_at hl 0 rfl) ?_
  refine lv_iload_n hx hb dX3_voters__14 rfl (lv_at hl 1 rfl) ?_
  refine lv_iconst (v := 0) hx hb dX3_voters__15 (by decide) ?_
  refine kr_i (ws' := wN E M (0, Hb, a, k)) (va_runV (As := [.int (nI s), .int 0]) (rest := []) ⟨hx, hb, hml, hown, hts⟩ (c_X3_voters l E M 0 Hb a k s false (by omega) (by omega) (by omega) (h4) (by omega) _) (cwV 2 hts gX3_voters__X3_voters rfl rfl rfl ⟨rfl, hd_X3_voters⟩ ⟨Nat.le_of_ble_eq_true rfl, Nat.le_of_ble_eq_true rfl⟩) (pwV (ci := 3) (q0 := 0) (C := RX3) hw hK rfl rfl rfl (rpS (AV := [.ref (M 0), .int (nI s), .int 0]) hw hK hG rp_75)) rfl rfl hl.1 rfl (lv_room (Nat.le_of_ble_eq_true rfl)) dX3_voters__16 ⟨Nat.le_of_ble_eq_true rfl, Nat.le_of_ble_eq_true rfl⟩) hw hA rp_75 (fun H locs hw => ?_)
  refine lv_goto (tgt := 27) hx hb dX3_voters__19 (by decide) ?_
  exact k_iret hx hb hr hlocks hK hw rfl dX3_voters__27 rfl rfl
abbrev rm_X3_votesForLost : Room := { frames := 2, cells := 0, slots := 0, locals := 45 }
set_option maxHeartbeats 4000000 in
set_option maxRecDepth 100000 in
theorem c_X3_votesForLost_1 (l : Launch) (E : Ev) (M : Nat → Nat) (th : Int32) (Hb : MH) (a k : Fn) (s : Int32) (h1 : n_ns Hb ≤ 5) (h2 : n_np Hb ≤ 16) (h3 : n_nw Hb ≤ 4) (h4 : ∀ p, p < n_np Hb → n_so Hb p < 5) (hd_ns : d_in s 0 (nI (n_ns Hb) - 1) = false) : MI l E yX3_votesForLost wsX3_votesForLost rm_X3_votesForLost [.ref (M 0), .int s] (wN E M (th, Hb, a, k)) 0 (wN E M (1, Hb, a, k)) := by
  refine k_bI (cc := cX3_votesForLost) (maxL := 2) (ret := (some .int)) (by decide) rfl (Nat.le_of_ble_eq_true rfl) ?_
  intro p9 e s9 m args below meth c A9 ls hC hl hw
  obtain ⟨hx, hb, hml, hr, hown, hts, hlocks, hK, hG, hA⟩ := hC
  have hf29 := hts (.fieldLink RX3 29 "SailorCandlesModel" "thrown" "I") (List.mem_of_getElem? (i := 1) rfl)
  have hinX3 : ∀ w ∈ wsX30, w ∈ wsX3_votesForLost := fun w h => List.mem_cons_of_mem _ (List.mem_append_right _ h)
  have hl : lv_has ls 2 [(0, .ref (M 0)), (1, .int s)] := hl
  refine lv_aload_n hx hb dX3_votesForLost_0 rfl (lv_at hl 0 rfl) ?_
  refine lv_iconst (v := 0) hx hb dX3_votesForLost_1 (by decide) ?_
  refine k_put (ci := 3) (C := RX3) (T := TX3) (N := 10) (ws' := wN E M (0, Hb, a, k)) hx hb hown hK hw hts hinX3 tyX3 tyX3_ok nmX3 0 rfl rfl 0 (by decide) hf29 rfl rfl (Nat.le_of_ble_eq_true rfl) dX3_votesForLost_2 rfl (fun H locs hw => ?_)
  refine lv_aload_n hx hb dX3_votesForLost_5 rfl (lv_at hl 0 rfl) ?_
  refine lv_iload_n hx hb dX3_votesForLost_6 rfl (lv_at hl 1 rfl) ?_
  refine kr_i (ws' := wN E M (0, Hb, a, k)) (va_runV (As := [.int s]) (rest := []) ⟨hx, hb, hml, hown, hts⟩ (c_X3_isShip l E M 0 Hb a k s  _) (cwV 1 hts gX3_votesForLost_X3_isShip rfl rfl rfl ⟨rfl, hd_X3_isShip⟩ ⟨Nat.le_of_ble_eq_true rfl, Nat.le_of_ble_eq_true rfl⟩) (pwV (ci := 3) (q0 := 0) (C := RX3) hw hK rfl rfl rfl (rpS (AV := [.ref (M 0), .int s]) hw hK hG rp_75)) rfl rfl hl.1 rfl (lv_room (Nat.le_of_ble_eq_true rfl)) dX3_votesForLost_7 ⟨Nat.le_of_ble_eq_true rfl, Nat.le_of_ble_eq_true rfl⟩) hw hA rp_75 (fun H locs hw => ?_)
  refine lv_if_eq (tgt := 22) hx hb dX3_votesForLost_10 (by decide) (fun _ => ?_) (fun q8 => absurd (by rw [hd_ns]; rfl) q8)
  refine lv_aload_n hx hb dX3_votesForLost_22 rfl (lv_at hl 0 rfl) ?_
  refine lv_iconst (v := 1) hx hb dX3_votesForLost_23 (by decide) ?_
  refine kr_i (ws' := wN E M (1, Hb, a, k)) (va_runV (As := [.int 1]) (rest := []) ⟨hx, hb, hml, hown, hts⟩ (c_X3_no l E M 0 Hb a k 1  _) (cwV 1 hts gX3_votesForLost_X3_no rfl rfl rfl ⟨rfl, hd_X3_no⟩ ⟨Nat.le_of_ble_eq_true rfl, Nat.le_of_ble_eq_true rfl⟩) (pwV (ci := 3) (q0 := 0) (C := RX3) hw hK rfl rfl rfl (rpS (AV := [.ref (M 0), .int 1]) hw hK hG rp_75)) rfl rfl hl.1 rfl (lv_room (Nat.le_of_ble_eq_true rfl)) dX3_votesForLost_24 ⟨Nat.le_of_ble_eq_true rfl, Nat.le_of_ble_eq_true rfl⟩) hw hA rp_76 (fun H locs hw => ?_)
  exact k_iret hx hb hr hlocks hK hw rfl dX3_votesForLost_27 rfl rfl
set_option maxHeartbeats 4000000 in
set_option maxRecDepth 100000 in
theorem c_X3_votesForLost (l : Launch) (E : Ev) (M : Nat → Nat) (th : Int32) (Hb : MH) (a k : Fn) (s : Nat) (h1 : n_ns Hb ≤ 5) (h2 : n_np Hb ≤ 16) (h3 : n_nw Hb ≤ 4) (h4 : ∀ p, p < n_np Hb → n_so Hb p < 5) (hs : s < n_ns Hb) : MI l E yX3_votesForLost wsX3_votesForLost rm_X3_votesForLost [.ref (M 0), .int (nI s)] (wN E M (th, Hb, a, k)) (l_mvo Hb a s true (n_np Hb)) (wN E M (0, Hb, a, k)) := by
  refine k_bI (cc := cX3_votesForLost) (maxL := 2) (ret := (some .int)) (by decide) rfl (Nat.le_of_ble_eq_true rfl) ?_
  intro p9 e s9 m args below meth c A9 ls hC hl hw
  obtain ⟨hx, hb, hml, hr, hown, hts, hlocks, hK, hG, hA⟩ := hC
  have hf29 := hts (.fieldLink RX3 29 "SailorCandlesModel" "thrown" "I") (List.mem_of_getElem? (i := 1) rfl)
  have hinX3 : ∀ w ∈ wsX30, w ∈ wsX3_votesForLost := fun w h => List.mem_cons_of_mem _ (List.mem_append_right _ h)
  have hl : lv_has ls 2 [(0, .ref (M 0)), (1, .int (nI s))] := hl
  refine lv_aload_n hx hb dX3_votesForLost_0 rfl (lv_at hl 0 rfl) ?_
  refine lv_iconst (v := 0) hx hb dX3_votesForLost_1 (by decide) ?_
  refine k_put (ci := 3) (C := RX3) (T := TX3) (N := 10) (ws' := wN E M (0, Hb, a, k)) hx hb hown hK hw hts hinX3 tyX3 tyX3_ok nmX3 0 rfl rfl 0 (by decide) hf29 rfl rfl (Nat.le_of_ble_eq_true rfl) dX3_votesForLost_2 rfl (fun H locs hw => ?_)
  refine lv_aload_n hx hb dX3_votesForLost_5 rfl (lv_at hl 0 rfl) ?_
  refine lv_iload_n hx hb dX3_votesForLost_6 rfl (lv_at hl 1 rfl) ?_
  refine kr_i (ws' := wN E M (0, Hb, a, k)) (va_runV (As := [.int (nI s)]) (rest := []) ⟨hx, hb, hml, hown, hts⟩ (c_X3_isShip l E M 0 Hb a k (nI s)  _) (cwV 1 hts gX3_votesForLost_X3_isShip rfl rfl rfl ⟨rfl, hd_X3_isShip⟩ ⟨Nat.le_of_ble_eq_true rfl, Nat.le_of_ble_eq_true rfl⟩) (pwV (ci := 3) (q0 := 0) (C := RX3) hw hK rfl rfl rfl (rpS (AV := [.ref (M 0), .int (nI s)]) hw hK hG rp_75)) rfl rfl hl.1 rfl (lv_room (Nat.le_of_ble_eq_true rfl)) dX3_votesForLost_7 ⟨Nat.le_of_ble_eq_true rfl, Nat.le_of_ble_eq_true rfl⟩) hw hA rp_75 (fun H locs hw => ?_)
  refine lv_if_eq (tgt := 22) hx hb dX3_votesForLost_10 (by decide) (fun q8 => absurd q8 (fun q7 => absurd ((d_in_n (n := s) (k := n_ns Hb) (by omega) (by omega)).symm.trans (bI_z q7)) (by decide))) (fun _ => ?_)
  refine lv_aload_n hx hb dX3_votesForLost_13 rfl (lv_at hl 0 rfl) ?_
  refine lv_iload_n hx hb dX3_votesForLost_14 rfl (lv_at hl 1 rfl) ?_
  refine lv_iconst (v := 1) hx hb dX3_votesForLost_15 (by decide) ?_
  refine kr_i (ws' := wN E M (0, Hb, a, k)) (va_runV (As := [.int (nI s), .int 1]) (rest := []) ⟨hx, hb, hml, hown, hts⟩ (c_X3_voters l E M 0 Hb a k s true (by omega) (by omega) (by omega) (h4) (by omega) _) (cwV 2 hts gX3_votesForLost_X3_voters rfl rfl rfl ⟨rfl, hd_X3_voters⟩ ⟨Nat.le_of_ble_eq_true rfl, Nat.le_of_ble_eq_true rfl⟩) (pwV (ci := 3) (q0 := 0) (C := RX3) hw hK rfl rfl rfl (rpS (AV := [.ref (M 0), .int (nI s), .int 1]) hw hK hG rp_75)) rfl rfl hl.1 rfl (lv_room (Nat.le_of_ble_eq_true rfl)) dX3_votesForLost_16 ⟨Nat.le_of_ble_eq_true rfl, Nat.le_of_ble_eq_true rfl⟩) hw hA rp_75 (fun H locs hw => ?_)
  refine lv_goto (tgt := 27) hx hb dX3_votesForLost_19 (by decide) ?_
  exact k_iret hx hb hr hlocks hK hw rfl dX3_votesForLost_27 rfl rfl
abbrev rm_X3_votesMissing : Room := { frames := 2, cells := 0, slots := 0, locals := 45 }
set_option maxHeartbeats 4000000 in
set_option maxRecDepth 100000 in
theorem c_X3_votesMissing_1 (l : Launch) (E : Ev) (M : Nat → Nat) (th : Int32) (Hb : MH) (a k : Fn) (s : Int32) (h1 : n_ns Hb ≤ 5) (h2 : n_np Hb ≤ 16) (h3 : n_nw Hb ≤ 4) (h4 : ∀ p, p < n_np Hb → n_so Hb p < 5) (hd_ns : d_in s 0 (nI (n_ns Hb) - 1) = false) : MI l E yX3_votesMissing wsX3_votesMissing rm_X3_votesMissing [.ref (M 0), .int s] (wN E M (th, Hb, a, k)) 0 (wN E M (1, Hb, a, k)) := by
  refine k_bI (cc := cX3_votesMissing) (maxL := 2) (ret := (some .int)) (by decide) rfl (Nat.le_of_ble_eq_true rfl) ?_
  intro p9 e s9 m args below meth c A9 ls hC hl hw
  obtain ⟨hx, hb, hml, hr, hown, hts, hlocks, hK, hG, hA⟩ := hC
  have hf29 := hts (.fieldLink RX3 29 "SailorCandlesModel" "thrown" "I") (List.mem_of_getElem? (i := 1) rfl)
  have hinX3 : ∀ w ∈ wsX30, w ∈ wsX3_votesMissing := fun w h => List.mem_cons_of_mem _ (List.mem_append_right _ h)
  have hl : lv_has ls 2 [(0, .ref (M 0)), (1, .int s)] := hl
  refine lv_aload_n hx hb dX3_votesMissing_0 rfl (lv_at hl 0 rfl) ?_
  refine lv_iconst (v := 0) hx hb dX3_votesMissing_1 (by decide) ?_
  refine k_put (ci := 3) (C := RX3) (T := TX3) (N := 10) (ws' := wN E M (0, Hb, a, k)) hx hb hown hK hw hts hinX3 tyX3 tyX3_ok nmX3 0 rfl rfl 0 (by decide) hf29 rfl rfl (Nat.le_of_ble_eq_true rfl) dX3_votesMissing_2 rfl (fun H locs hw => ?_)
  refine lv_aload_n hx hb dX3_votesMissing_5 rfl (lv_at hl 0 rfl) ?_
  refine lv_iload_n hx hb dX3_votesMissing_6 rfl (lv_at hl 1 rfl) ?_
  refine kr_i (ws' := wN E M (0, Hb, a, k)) (va_runV (As := [.int s]) (rest := []) ⟨hx, hb, hml, hown, hts⟩ (c_X3_isShip l E M 0 Hb a k s  _) (cwV 1 hts gX3_votesMissing_X3_isShip rfl rfl rfl ⟨rfl, hd_X3_isShip⟩ ⟨Nat.le_of_ble_eq_true rfl, Nat.le_of_ble_eq_true rfl⟩) (pwV (ci := 3) (q0 := 0) (C := RX3) hw hK rfl rfl rfl (rpS (AV := [.ref (M 0), .int s]) hw hK hG rp_75)) rfl rfl hl.1 rfl (lv_room (Nat.le_of_ble_eq_true rfl)) dX3_votesMissing_7 ⟨Nat.le_of_ble_eq_true rfl, Nat.le_of_ble_eq_true rfl⟩) hw hA rp_75 (fun H locs hw => ?_)
  refine lv_if_eq (tgt := 37) hx hb dX3_votesMissing_10 (by decide) (fun _ => ?_) (fun q8 => absurd (by rw [hd_ns]; rfl) q8)
  refine lv_aload_n hx hb dX3_votesMissing_37 rfl (lv_at hl 0 rfl) ?_
  refine lv_iconst (v := 1) hx hb dX3_votesMissing_38 (by decide) ?_
  refine kr_i (ws' := wN E M (1, Hb, a, k)) (va_runV (As := [.int 1]) (rest := []) ⟨hx, hb, hml, hown, hts⟩ (c_X3_no l E M 0 Hb a k 1  _) (cwV 1 hts gX3_votesMissing_X3_no rfl rfl rfl ⟨rfl, hd_X3_no⟩ ⟨Nat.le_of_ble_eq_true rfl, Nat.le_of_ble_eq_true rfl⟩) (pwV (ci := 3) (q0 := 0) (C := RX3) hw hK rfl rfl rfl (rpS (AV := [.ref (M 0), .int 1]) hw hK hG rp_75)) rfl rfl hl.1 rfl (lv_room (Nat.le_of_ble_eq_true rfl)) dX3_votesMissing_39 ⟨Nat.le_of_ble_eq_true rfl, Nat.le_of_ble_eq_true rfl⟩) hw hA rp_76 (fun H locs hw => ?_)
  exact k_iret hx hb hr hlocks hK hw rfl dX3_votesMissing_42 rfl rfl
set_option maxHeartbeats 4000000 in
set_option maxRecDepth 100000 in
theorem c_X3_votesMissing (l : Launch) (E : Ev) (M : Nat → Nat) (th : Int32) (Hb : MH) (a k : Fn) (s : Nat) (h1 : n_ns Hb ≤ 5) (h2 : n_np Hb ≤ 16) (h3 : n_nw Hb ≤ 4) (h4 : ∀ p, p < n_np Hb → n_so Hb p < 5) (hs : s < n_ns Hb) : MI l E yX3_votesMissing wsX3_votesMissing rm_X3_votesMissing [.ref (M 0), .int (nI s)] (wN E M (th, Hb, a, k)) (if 0 < l_mvo Hb a s false (n_np Hb) / 2 + 1 - l_mvo Hb a s true (n_np Hb) then l_mvo Hb a s false (n_np Hb) / 2 + 1 - l_mvo Hb a s true (n_np Hb) else 0) (wN E M (0, Hb, a, k)) := by
  refine k_bI (cc := cX3_votesMissing) (maxL := 2) (ret := (some .int)) (by decide) rfl (Nat.le_of_ble_eq_true rfl) ?_
  intro p9 e s9 m args below meth c A9 ls hC hl hw
  obtain ⟨hx, hb, hml, hr, hown, hts, hlocks, hK, hG, hA⟩ := hC
  have hf29 := hts (.fieldLink RX3 29 "SailorCandlesModel" "thrown" "I") (List.mem_of_getElem? (i := 1) rfl)
  have hinX3 : ∀ w ∈ wsX30, w ∈ wsX3_votesMissing := fun w h => List.mem_cons_of_mem _ (List.mem_append_right _ h)
  have hq2 := hts (.methodLink RX3 69 Lib.Math.max.name) (List.mem_of_getElem? (i := 2) rfl)
  have hq3 := hts (.static Lib.Math.max.name) (List.mem_of_getElem? (i := 3) rfl)
  have hq4 := hts (.initialized "java/lang/Math") (List.mem_of_getElem? (i := 4) rfl)
  have hq5 := hts (.code Lib.Math.max.name Lib.Math.max.code 2 (some .int)) (List.mem_of_getElem? (i := 5) rfl)
  have hl : lv_has ls 2 [(0, .ref (M 0)), (1, .int (nI s))] := hl
  refine lv_aload_n hx hb dX3_votesMissing_0 rfl (lv_at hl 0 rfl) ?_
  refine lv_iconst (v := 0) hx hb dX3_votesMissing_1 (by decide) ?_
  refine k_put (ci := 3) (C := RX3) (T := TX3) (N := 10) (ws' := wN E M (0, Hb, a, k)) hx hb hown hK hw hts hinX3 tyX3 tyX3_ok nmX3 0 rfl rfl 0 (by decide) hf29 rfl rfl (Nat.le_of_ble_eq_true rfl) dX3_votesMissing_2 rfl (fun H locs hw => ?_)
  refine lv_aload_n hx hb dX3_votesMissing_5 rfl (lv_at hl 0 rfl) ?_
  refine lv_iload_n hx hb dX3_votesMissing_6 rfl (lv_at hl 1 rfl) ?_
  refine kr_i (ws' := wN E M (0, Hb, a, k)) (va_runV (As := [.int (nI s)]) (rest := []) ⟨hx, hb, hml, hown, hts⟩ (c_X3_isShip l E M 0 Hb a k (nI s)  _) (cwV 1 hts gX3_votesMissing_X3_isShip rfl rfl rfl ⟨rfl, hd_X3_isShip⟩ ⟨Nat.le_of_ble_eq_true rfl, Nat.le_of_ble_eq_true rfl⟩) (pwV (ci := 3) (q0 := 0) (C := RX3) hw hK rfl rfl rfl (rpS (AV := [.ref (M 0), .int (nI s)]) hw hK hG rp_75)) rfl rfl hl.1 rfl (lv_room (Nat.le_of_ble_eq_true rfl)) dX3_votesMissing_7 ⟨Nat.le_of_ble_eq_true rfl, Nat.le_of_ble_eq_true rfl⟩) hw hA rp_75 (fun H locs hw => ?_)
  refine lv_if_eq (tgt := 37) hx hb dX3_votesMissing_10 (by decide) (fun q8 => absurd q8 (fun q7 => absurd ((d_in_n (n := s) (k := n_ns Hb) (by omega) (by omega)).symm.trans (bI_z q7)) (by decide))) (fun _ => ?_)
  refine lv_iconst (v := 0) hx hb dX3_votesMissing_13 (by decide) ?_
  refine lv_aload_n hx hb dX3_votesMissing_14 rfl (lv_at hl 0 rfl) ?_
  refine lv_iload_n hx hb dX3_votesMissing_15 rfl (lv_at hl 1 rfl) ?_
  refine lv_iconst (v := 0) hx hb dX3_votesMissing_16 (by decide) ?_
  refine kr_i (ws' := wN E M (0, Hb, a, k)) (va_runV (As := [.int (nI s), .int 0]) (rest := [.int 0]) ⟨hx, hb, hml, hown, hts⟩ (c_X3_voters l E M 0 Hb a k s false (by omega) (by omega) (by omega) (h4) (by omega) _) (cwV 2 hts gX3_votesMissing_X3_voters rfl rfl rfl ⟨rfl, hd_X3_voters⟩ ⟨Nat.le_of_ble_eq_true rfl, Nat.le_of_ble_eq_true rfl⟩) (pwV (ci := 3) (q0 := 0) (C := RX3) hw hK rfl rfl rfl (rpS (AV := [.ref (M 0), .int (nI s), .int 0]) hw hK hG rp_75)) rfl rfl hl.1 rfl (lv_room (Nat.le_of_ble_eq_true rfl)) dX3_votesMissing_17 ⟨Nat.le_of_ble_eq_true rfl, Nat.le_of_ble_eq_true rfl⟩) hw hA rp_75 (fun H locs hw => ?_)
  refine lv_iconst (v := 2) hx hb dX3_votesMissing_20 (by decide) ?_
  refine lv_idiv hx hb dX3_votesMissing_21 (by decide) ?_
  refine lv_iconst (v := 1) hx hb dX3_votesMissing_22 (by decide) ?_
  refine lv_iadd hx hb dX3_votesMissing_23 ?_
  refine lv_aload_n hx hb dX3_votesMissing_24 rfl (lv_at hl 0 rfl) ?_
  refine lv_iload_n hx hb dX3_votesMissing_25 rfl (lv_at hl 1 rfl) ?_
  refine lv_iconst (v := 1) hx hb dX3_votesMissing_26 (by decide) ?_
  refine kr_i (ws' := wN E M (0, Hb, a, k)) (va_runV (As := [.int (nI s), .int 1]) (rest := [.int (((l_mvo Hb a s false (n_np Hb)) / 2) + 1), .int 0]) ⟨hx, hb, hml, hown, hts⟩ (c_X3_voters l E M 0 Hb a k s true (by omega) (by omega) (by omega) (h4) (by omega) _) (cwV 2 hts gX3_votesMissing_X3_voters rfl rfl rfl ⟨rfl, hd_X3_voters⟩ ⟨Nat.le_of_ble_eq_true rfl, Nat.le_of_ble_eq_true rfl⟩) (pwV (ci := 3) (q0 := 0) (C := RX3) hw hK rfl rfl rfl (rpS (AV := [.ref (M 0), .int (nI s), .int 1]) hw hK hG rp_75)) rfl rfl hl.1 rfl (lv_room (Nat.le_of_ble_eq_true rfl)) dX3_votesMissing_27 ⟨Nat.le_of_ble_eq_true rfl, Nat.le_of_ble_eq_true rfl⟩) hw hA rp_75 (fun H locs hw => ?_)
  refine lv_isub hx hb dX3_votesMissing_30 ?_
  refine va_mmax hx hb (by rw [hml]; exact hl.1.symm) hown hq2 hq3 hq4 hq5 (Nat.le_of_ble_eq_true rfl) (Nat.le_of_ble_eq_true rfl) (Nat.le_of_ble_eq_true rfl) (Nat.le_of_ble_eq_true rfl) dX3_votesMissing_31 ?_
  refine lv_goto (tgt := 42) hx hb dX3_votesMissing_34 (by decide) ?_
  exact k_iret hx hb hr hlocks hK hw rfl dX3_votesMissing_42 (by first | rfl | assumption | (simp only [bI_t, bI_f, if_true, if_false, Bool.false_eq_true, Bool.true_eq_false, reduceIte, reduceCtorEq]; done) | (simp only [bI_t, bI_f, if_true, if_false, Bool.false_eq_true, Bool.true_eq_false, reduceIte, reduceCtorEq]; rfl) | (simp [bI_t, bI_f, if_true, if_false, Bool.false_eq_true, Bool.true_eq_false, reduceIte, reduceCtorEq]; done) | (simp [bI, bI_t, bI_f]; done)) rfl
abbrev rm_X3_shipOf : Room := { frames := 2, cells := 0, slots := 0, locals := 43 }
set_option maxHeartbeats 4000000 in
set_option maxRecDepth 100000 in
theorem c_X3_shipOf_1 (l : Launch) (E : Ev) (M : Nat → Nat) (th : Int32) (Hb : MH) (a k : Fn) (p : Int32) (h1 : n_ns Hb ≤ 5) (h2 : n_np Hb ≤ 16) (h3 : n_nw Hb ≤ 4) (h4 : ∀ p, p < n_np Hb → n_so Hb p < 5) (hd_np : d_in p 0 (nI (n_np Hb) - 1) = false) : MI l E yX3_shipOf wsX3_shipOf rm_X3_shipOf [.ref (M 0), .int p] (wN E M (th, Hb, a, k)) 0 (wN E M (1, Hb, a, k)) := by
  refine k_bI (cc := cX3_shipOf) (maxL := 2) (ret := (some .int)) (by decide) rfl (Nat.le_of_ble_eq_true rfl) ?_
  intro p9 e s9 m args below meth c A9 ls hC hl hw
  obtain ⟨hx, hb, hml, hr, hown, hts, hlocks, hK, hG, hA⟩ := hC
  have hf29 := hts (.fieldLink RX3 29 "SailorCandlesModel" "thrown" "I") (List.mem_of_getElem? (i := 1) rfl)
  have hinX3 : ∀ w ∈ wsX30, w ∈ wsX3_shipOf := fun w h => List.mem_cons_of_mem _ (List.mem_append_right _ h)
  have hl : lv_has ls 2 [(0, .ref (M 0)), (1, .int p)] := hl
  refine lv_aload_n hx hb dX3_shipOf_0 rfl (lv_at hl 0 rfl) ?_
  refine lv_iconst (v := 0) hx hb dX3_shipOf_1 (by decide) ?_
  refine k_put (ci := 3) (C := RX3) (T := TX3) (N := 10) (ws' := wN E M (0, Hb, a, k)) hx hb hown hK hw hts hinX3 tyX3 tyX3_ok nmX3 0 rfl rfl 0 (by decide) hf29 rfl rfl (Nat.le_of_ble_eq_true rfl) dX3_shipOf_2 rfl (fun H locs hw => ?_)
  refine lv_aload_n hx hb dX3_shipOf_5 rfl (lv_at hl 0 rfl) ?_
  refine lv_iload_n hx hb dX3_shipOf_6 rfl (lv_at hl 1 rfl) ?_
  refine kr_i (ws' := wN E M (0, Hb, a, k)) (va_runV (As := [.int p]) (rest := []) ⟨hx, hb, hml, hown, hts⟩ (c_X3_isSailor l E M 0 Hb a k p  _) (cwV 1 hts gX3_shipOf_X3_isSailor rfl rfl rfl ⟨rfl, hd_X3_isSailor⟩ ⟨Nat.le_of_ble_eq_true rfl, Nat.le_of_ble_eq_true rfl⟩) (pwV (ci := 3) (q0 := 0) (C := RX3) hw hK rfl rfl rfl (rpS (AV := [.ref (M 0), .int p]) hw hK hG rp_75)) rfl rfl hl.1 rfl (lv_room (Nat.le_of_ble_eq_true rfl)) dX3_shipOf_7 ⟨Nat.le_of_ble_eq_true rfl, Nat.le_of_ble_eq_true rfl⟩) hw hA rp_75 (fun H locs hw => ?_)
  refine lv_if_eq (tgt := 22) hx hb dX3_shipOf_10 (by decide) (fun _ => ?_) (fun q8 => absurd (by rw [hd_np]; rfl) q8)
  refine lv_aload_n hx hb dX3_shipOf_22 rfl (lv_at hl 0 rfl) ?_
  refine lv_iconst (v := 1) hx hb dX3_shipOf_23 (by decide) ?_
  refine kr_i (ws' := wN E M (1, Hb, a, k)) (va_runV (As := [.int 1]) (rest := []) ⟨hx, hb, hml, hown, hts⟩ (c_X3_no l E M 0 Hb a k 1  _) (cwV 1 hts gX3_shipOf_X3_no rfl rfl rfl ⟨rfl, hd_X3_no⟩ ⟨Nat.le_of_ble_eq_true rfl, Nat.le_of_ble_eq_true rfl⟩) (pwV (ci := 3) (q0 := 0) (C := RX3) hw hK rfl rfl rfl (rpS (AV := [.ref (M 0), .int 1]) hw hK hG rp_75)) rfl rfl hl.1 rfl (lv_room (Nat.le_of_ble_eq_true rfl)) dX3_shipOf_24 ⟨Nat.le_of_ble_eq_true rfl, Nat.le_of_ble_eq_true rfl⟩) hw hA rp_76 (fun H locs hw => ?_)
  exact k_iret hx hb hr hlocks hK hw rfl dX3_shipOf_27 rfl rfl
set_option maxHeartbeats 4000000 in
set_option maxRecDepth 100000 in
theorem c_X3_shipOf (l : Launch) (E : Ev) (M : Nat → Nat) (th : Int32) (Hb : MH) (a k : Fn) (p : Nat) (h1 : n_ns Hb ≤ 5) (h2 : n_np Hb ≤ 16) (h3 : n_nw Hb ≤ 4) (h4 : ∀ p, p < n_np Hb → n_so Hb p < 5) (hp : p < n_np Hb) : MI l E yX3_shipOf wsX3_shipOf rm_X3_shipOf [.ref (M 0), .int (nI p)] (wN E M (th, Hb, a, k)) (nI (n_so Hb p)) (wN E M (0, Hb, a, k)) := by
  refine k_bI (cc := cX3_shipOf) (maxL := 2) (ret := (some .int)) (by decide) rfl (Nat.le_of_ble_eq_true rfl) ?_
  intro p9 e s9 m args below meth c A9 ls hC hl hw
  obtain ⟨hx, hb, hml, hr, hown, hts, hlocks, hK, hG, hA⟩ := hC
  have hf29 := hts (.fieldLink RX3 29 "SailorCandlesModel" "thrown" "I") (List.mem_of_getElem? (i := 1) rfl)
  have hinX3 : ∀ w ∈ wsX30, w ∈ wsX3_shipOf := fun w h => List.mem_cons_of_mem _ (List.mem_append_right _ h)
  have hf13 := hts (.fieldLink RX3 13 "SailorCandlesModel" "shipOf" "[I") (List.mem_of_getElem? (i := 2) rfl)
  have hl : lv_has ls 2 [(0, .ref (M 0)), (1, .int (nI p))] := hl
  refine lv_aload_n hx hb dX3_shipOf_0 rfl (lv_at hl 0 rfl) ?_
  refine lv_iconst (v := 0) hx hb dX3_shipOf_1 (by decide) ?_
  refine k_put (ci := 3) (C := RX3) (T := TX3) (N := 10) (ws' := wN E M (0, Hb, a, k)) hx hb hown hK hw hts hinX3 tyX3 tyX3_ok nmX3 0 rfl rfl 0 (by decide) hf29 rfl rfl (Nat.le_of_ble_eq_true rfl) dX3_shipOf_2 rfl (fun H locs hw => ?_)
  refine lv_aload_n hx hb dX3_shipOf_5 rfl (lv_at hl 0 rfl) ?_
  refine lv_iload_n hx hb dX3_shipOf_6 rfl (lv_at hl 1 rfl) ?_
  refine kr_i (ws' := wN E M (0, Hb, a, k)) (va_runV (As := [.int (nI p)]) (rest := []) ⟨hx, hb, hml, hown, hts⟩ (c_X3_isSailor l E M 0 Hb a k (nI p)  _) (cwV 1 hts gX3_shipOf_X3_isSailor rfl rfl rfl ⟨rfl, hd_X3_isSailor⟩ ⟨Nat.le_of_ble_eq_true rfl, Nat.le_of_ble_eq_true rfl⟩) (pwV (ci := 3) (q0 := 0) (C := RX3) hw hK rfl rfl rfl (rpS (AV := [.ref (M 0), .int (nI p)]) hw hK hG rp_75)) rfl rfl hl.1 rfl (lv_room (Nat.le_of_ble_eq_true rfl)) dX3_shipOf_7 ⟨Nat.le_of_ble_eq_true rfl, Nat.le_of_ble_eq_true rfl⟩) hw hA rp_75 (fun H locs hw => ?_)
  refine lv_if_eq (tgt := 22) hx hb dX3_shipOf_10 (by decide) (fun q8 => absurd q8 (fun q7 => absurd ((d_in_n (n := p) (k := n_np Hb) (by omega) (by omega)).symm.trans (bI_z q7)) (by decide))) (fun _ => ?_)
  refine lv_aload_n hx hb dX3_shipOf_13 rfl (lv_at hl 0 rfl) ?_
  refine k_get (ci := 3) (v := .ref (M 2)) (C := RX3) (T := TX3) (N := 10) hx hb hown hK hw hts hinX3 0 rfl rfl 4 (by decide) hf13 rfl dX3_shipOf_14 ?_
  refine lv_iload_n hx hb dX3_shipOf_17 rfl (lv_at hl 1 rfl) ?_
  refine k_nldN (i := p) (f := n_so Hb) hx hb hK hw 2 rfl (by omega) (by omega) dX3_shipOf_18 ?_
  refine lv_goto (tgt := 27) hx hb dX3_shipOf_19 (by decide) ?_
  exact k_iret hx hb hr hlocks hK hw rfl dX3_shipOf_27 rfl rfl
abbrev rm_X3_mastOf : Room := { frames := 2, cells := 0, slots := 0, locals := 43 }
set_option maxHeartbeats 4000000 in
set_option maxRecDepth 100000 in
theorem c_X3_mastOf_1 (l : Launch) (E : Ev) (M : Nat → Nat) (th : Int32) (Hb : MH) (a k : Fn) (p : Int32) (h1 : n_ns Hb ≤ 5) (h2 : n_np Hb ≤ 16) (h3 : n_nw Hb ≤ 4) (h4 : ∀ p, p < n_np Hb → n_so Hb p < 5) (hd_np : d_in p 0 (nI (n_np Hb) - 1) = false) : MI l E yX3_mastOf wsX3_mastOf rm_X3_mastOf [.ref (M 0), .int p] (wN E M (th, Hb, a, k)) 0 (wN E M (1, Hb, a, k)) := by
  refine k_bI (cc := cX3_mastOf) (maxL := 2) (ret := (some .int)) (by decide) rfl (Nat.le_of_ble_eq_true rfl) ?_
  intro p9 e s9 m args below meth c A9 ls hC hl hw
  obtain ⟨hx, hb, hml, hr, hown, hts, hlocks, hK, hG, hA⟩ := hC
  have hf29 := hts (.fieldLink RX3 29 "SailorCandlesModel" "thrown" "I") (List.mem_of_getElem? (i := 1) rfl)
  have hinX3 : ∀ w ∈ wsX30, w ∈ wsX3_mastOf := fun w h => List.mem_cons_of_mem _ (List.mem_append_right _ h)
  have hl : lv_has ls 2 [(0, .ref (M 0)), (1, .int p)] := hl
  refine lv_aload_n hx hb dX3_mastOf_0 rfl (lv_at hl 0 rfl) ?_
  refine lv_iconst (v := 0) hx hb dX3_mastOf_1 (by decide) ?_
  refine k_put (ci := 3) (C := RX3) (T := TX3) (N := 10) (ws' := wN E M (0, Hb, a, k)) hx hb hown hK hw hts hinX3 tyX3 tyX3_ok nmX3 0 rfl rfl 0 (by decide) hf29 rfl rfl (Nat.le_of_ble_eq_true rfl) dX3_mastOf_2 rfl (fun H locs hw => ?_)
  refine lv_aload_n hx hb dX3_mastOf_5 rfl (lv_at hl 0 rfl) ?_
  refine lv_iload_n hx hb dX3_mastOf_6 rfl (lv_at hl 1 rfl) ?_
  refine kr_i (ws' := wN E M (0, Hb, a, k)) (va_runV (As := [.int p]) (rest := []) ⟨hx, hb, hml, hown, hts⟩ (c_X3_isSailor l E M 0 Hb a k p  _) (cwV 1 hts gX3_mastOf_X3_isSailor rfl rfl rfl ⟨rfl, hd_X3_isSailor⟩ ⟨Nat.le_of_ble_eq_true rfl, Nat.le_of_ble_eq_true rfl⟩) (pwV (ci := 3) (q0 := 0) (C := RX3) hw hK rfl rfl rfl (rpS (AV := [.ref (M 0), .int p]) hw hK hG rp_75)) rfl rfl hl.1 rfl (lv_room (Nat.le_of_ble_eq_true rfl)) dX3_mastOf_7 ⟨Nat.le_of_ble_eq_true rfl, Nat.le_of_ble_eq_true rfl⟩) hw hA rp_75 (fun H locs hw => ?_)
  refine lv_if_eq (tgt := 22) hx hb dX3_mastOf_10 (by decide) (fun _ => ?_) (fun q8 => absurd (by rw [hd_np]; rfl) q8)
  refine lv_aload_n hx hb dX3_mastOf_22 rfl (lv_at hl 0 rfl) ?_
  refine lv_iconst (v := 1) hx hb dX3_mastOf_23 (by decide) ?_
  refine kr_i (ws' := wN E M (1, Hb, a, k)) (va_runV (As := [.int 1]) (rest := []) ⟨hx, hb, hml, hown, hts⟩ (c_X3_no l E M 0 Hb a k 1  _) (cwV 1 hts gX3_mastOf_X3_no rfl rfl rfl ⟨rfl, hd_X3_no⟩ ⟨Nat.le_of_ble_eq_true rfl, Nat.le_of_ble_eq_true rfl⟩) (pwV (ci := 3) (q0 := 0) (C := RX3) hw hK rfl rfl rfl (rpS (AV := [.ref (M 0), .int 1]) hw hK hG rp_75)) rfl rfl hl.1 rfl (lv_room (Nat.le_of_ble_eq_true rfl)) dX3_mastOf_24 ⟨Nat.le_of_ble_eq_true rfl, Nat.le_of_ble_eq_true rfl⟩) hw hA rp_76 (fun H locs hw => ?_)
  exact k_iret hx hb hr hlocks hK hw rfl dX3_mastOf_27 rfl rfl
set_option maxHeartbeats 4000000 in
set_option maxRecDepth 100000 in
theorem c_X3_mastOf (l : Launch) (E : Ev) (M : Nat → Nat) (th : Int32) (Hb : MH) (a k : Fn) (p : Nat) (h1 : n_ns Hb ≤ 5) (h2 : n_np Hb ≤ 16) (h3 : n_nw Hb ≤ 4) (h4 : ∀ p, p < n_np Hb → n_so Hb p < 5) (hp : p < n_np Hb) : MI l E yX3_mastOf wsX3_mastOf rm_X3_mastOf [.ref (M 0), .int (nI p)] (wN E M (th, Hb, a, k)) (n_mo Hb p) (wN E M (0, Hb, a, k)) := by
  refine k_bI (cc := cX3_mastOf) (maxL := 2) (ret := (some .int)) (by decide) rfl (Nat.le_of_ble_eq_true rfl) ?_
  intro p9 e s9 m args below meth c A9 ls hC hl hw
  obtain ⟨hx, hb, hml, hr, hown, hts, hlocks, hK, hG, hA⟩ := hC
  have hf29 := hts (.fieldLink RX3 29 "SailorCandlesModel" "thrown" "I") (List.mem_of_getElem? (i := 1) rfl)
  have hinX3 : ∀ w ∈ wsX30, w ∈ wsX3_mastOf := fun w h => List.mem_cons_of_mem _ (List.mem_append_right _ h)
  have hf16 := hts (.fieldLink RX3 16 "SailorCandlesModel" "mastOf" "[I") (List.mem_of_getElem? (i := 2) rfl)
  have hl : lv_has ls 2 [(0, .ref (M 0)), (1, .int (nI p))] := hl
  refine lv_aload_n hx hb dX3_mastOf_0 rfl (lv_at hl 0 rfl) ?_
  refine lv_iconst (v := 0) hx hb dX3_mastOf_1 (by decide) ?_
  refine k_put (ci := 3) (C := RX3) (T := TX3) (N := 10) (ws' := wN E M (0, Hb, a, k)) hx hb hown hK hw hts hinX3 tyX3 tyX3_ok nmX3 0 rfl rfl 0 (by decide) hf29 rfl rfl (Nat.le_of_ble_eq_true rfl) dX3_mastOf_2 rfl (fun H locs hw => ?_)
  refine lv_aload_n hx hb dX3_mastOf_5 rfl (lv_at hl 0 rfl) ?_
  refine lv_iload_n hx hb dX3_mastOf_6 rfl (lv_at hl 1 rfl) ?_
  refine kr_i (ws' := wN E M (0, Hb, a, k)) (va_runV (As := [.int (nI p)]) (rest := []) ⟨hx, hb, hml, hown, hts⟩ (c_X3_isSailor l E M 0 Hb a k (nI p)  _) (cwV 1 hts gX3_mastOf_X3_isSailor rfl rfl rfl ⟨rfl, hd_X3_isSailor⟩ ⟨Nat.le_of_ble_eq_true rfl, Nat.le_of_ble_eq_true rfl⟩) (pwV (ci := 3) (q0 := 0) (C := RX3) hw hK rfl rfl rfl (rpS (AV := [.ref (M 0), .int (nI p)]) hw hK hG rp_75)) rfl rfl hl.1 rfl (lv_room (Nat.le_of_ble_eq_true rfl)) dX3_mastOf_7 ⟨Nat.le_of_ble_eq_true rfl, Nat.le_of_ble_eq_true rfl⟩) hw hA rp_75 (fun H locs hw => ?_)
  refine lv_if_eq (tgt := 22) hx hb dX3_mastOf_10 (by decide) (fun q8 => absurd q8 (fun q7 => absurd ((d_in_n (n := p) (k := n_np Hb) (by omega) (by omega)).symm.trans (bI_z q7)) (by decide))) (fun _ => ?_)
  refine lv_aload_n hx hb dX3_mastOf_13 rfl (lv_at hl 0 rfl) ?_
  refine k_get (ci := 3) (v := .ref (M 3)) (C := RX3) (T := TX3) (N := 10) hx hb hown hK hw hts hinX3 0 rfl rfl 5 (by decide) hf16 rfl dX3_mastOf_14 ?_
  refine lv_iload_n hx hb dX3_mastOf_17 rfl (lv_at hl 1 rfl) ?_
  refine k_ildN (i := p) (f := n_mo Hb) hx hb hK hw 3 rfl (by omega) (by omega) dX3_mastOf_18 ?_
  refine lv_goto (tgt := 27) hx hb dX3_mastOf_19 (by decide) ?_
  exact k_iret hx hb hr hlocks hK hw rfl dX3_mastOf_27 rfl rfl
abbrev rm_X3_hasVoter : Room := { frames := 2, cells := 0, slots := 0, locals := 43 }
set_option maxHeartbeats 4000000 in
set_option maxRecDepth 100000 in
theorem c_X3_hasVoter_1 (l : Launch) (E : Ev) (M : Nat → Nat) (th : Int32) (Hb : MH) (a k : Fn) (p : Int32) (h1 : n_ns Hb ≤ 5) (h2 : n_np Hb ≤ 16) (h3 : n_nw Hb ≤ 4) (h4 : ∀ p, p < n_np Hb → n_so Hb p < 5) (hd_np : d_in p 0 (nI (n_np Hb) - 1) = false) : MI l E yX3_hasVoter wsX3_hasVoter rm_X3_hasVoter [.ref (M 0), .int p] (wN E M (th, Hb, a, k)) (bI false) (wN E M (1, Hb, a, k)) := by
  refine k_bI (cc := cX3_hasVoter) (maxL := 2) (ret := (some .boolean)) (by decide) rfl (Nat.le_of_ble_eq_true rfl) ?_
  intro p9 e s9 m args below meth c A9 ls hC hl hw
  obtain ⟨hx, hb, hml, hr, hown, hts, hlocks, hK, hG, hA⟩ := hC
  have hf29 := hts (.fieldLink RX3 29 "SailorCandlesModel" "thrown" "I") (List.mem_of_getElem? (i := 1) rfl)
  have hinX3 : ∀ w ∈ wsX30, w ∈ wsX3_hasVoter := fun w h => List.mem_cons_of_mem _ (List.mem_append_right _ h)
  have hl : lv_has ls 2 [(0, .ref (M 0)), (1, .int p)] := hl
  refine lv_aload_n hx hb dX3_hasVoter_0 rfl (lv_at hl 0 rfl) ?_
  refine lv_iconst (v := 0) hx hb dX3_hasVoter_1 (by decide) ?_
  refine k_put (ci := 3) (C := RX3) (T := TX3) (N := 10) (ws' := wN E M (0, Hb, a, k)) hx hb hown hK hw hts hinX3 tyX3 tyX3_ok nmX3 0 rfl rfl 0 (by decide) hf29 rfl rfl (Nat.le_of_ble_eq_true rfl) dX3_hasVoter_2 rfl (fun H locs hw => ?_)
  refine lv_aload_n hx hb dX3_hasVoter_5 rfl (lv_at hl 0 rfl) ?_
  refine lv_iload_n hx hb dX3_hasVoter_6 rfl (lv_at hl 1 rfl) ?_
  refine kr_i (ws' := wN E M (0, Hb, a, k)) (va_runV (As := [.int p]) (rest := []) ⟨hx, hb, hml, hown, hts⟩ (c_X3_isSailor l E M 0 Hb a k p  _) (cwV 1 hts gX3_hasVoter_X3_isSailor rfl rfl rfl ⟨rfl, hd_X3_isSailor⟩ ⟨Nat.le_of_ble_eq_true rfl, Nat.le_of_ble_eq_true rfl⟩) (pwV (ci := 3) (q0 := 0) (C := RX3) hw hK rfl rfl rfl (rpS (AV := [.ref (M 0), .int p]) hw hK hG rp_75)) rfl rfl hl.1 rfl (lv_room (Nat.le_of_ble_eq_true rfl)) dX3_hasVoter_7 ⟨Nat.le_of_ble_eq_true rfl, Nat.le_of_ble_eq_true rfl⟩) hw hA rp_75 (fun H locs hw => ?_)
  refine lv_if_eq (tgt := 22) hx hb dX3_hasVoter_10 (by decide) (fun _ => ?_) (fun q8 => absurd (by rw [hd_np]; rfl) q8)
  refine lv_aload_n hx hb dX3_hasVoter_22 rfl (lv_at hl 0 rfl) ?_
  refine lv_iconst (v := 1) hx hb dX3_hasVoter_23 (by decide) ?_
  refine kr_i (ws' := wN E M (1, Hb, a, k)) (va_runV (As := [.int 1]) (rest := []) ⟨hx, hb, hml, hown, hts⟩ (c_X3_isNot l E M 0 Hb a k 1  _) (cwV 1 hts gX3_hasVoter_X3_isNot rfl rfl rfl ⟨rfl, hd_X3_isNot⟩ ⟨Nat.le_of_ble_eq_true rfl, Nat.le_of_ble_eq_true rfl⟩) (pwV (ci := 3) (q0 := 0) (C := RX3) hw hK rfl rfl rfl (rpS (AV := [.ref (M 0), .int 1]) hw hK hG rp_75)) rfl rfl hl.1 rfl (lv_room (Nat.le_of_ble_eq_true rfl)) dX3_hasVoter_24 ⟨Nat.le_of_ble_eq_true rfl, Nat.le_of_ble_eq_true rfl⟩) hw hA rp_76 (fun H locs hw => ?_)
  exact k_iret hx hb hr hlocks hK hw (bI_n _) dX3_hasVoter_27 rfl rfl
set_option maxHeartbeats 4000000 in
set_option maxRecDepth 100000 in
theorem c_X3_hasVoter (l : Launch) (E : Ev) (M : Nat → Nat) (th : Int32) (Hb : MH) (a k : Fn) (p : Nat) (h1 : n_ns Hb ≤ 5) (h2 : n_np Hb ≤ 16) (h3 : n_nw Hb ≤ 4) (h4 : ∀ p, p < n_np Hb → n_so Hb p < 5) (hp : p < n_np Hb) : MI l E yX3_hasVoter wsX3_hasVoter rm_X3_hasVoter [.ref (M 0), .int (nI p)] (wN E M (th, Hb, a, k)) (bI (n_vo Hb p)) (wN E M (0, Hb, a, k)) := by
  refine k_bI (cc := cX3_hasVoter) (maxL := 2) (ret := (some .boolean)) (by decide) rfl (Nat.le_of_ble_eq_true rfl) ?_
  intro p9 e s9 m args below meth c A9 ls hC hl hw
  obtain ⟨hx, hb, hml, hr, hown, hts, hlocks, hK, hG, hA⟩ := hC
  have hf29 := hts (.fieldLink RX3 29 "SailorCandlesModel" "thrown" "I") (List.mem_of_getElem? (i := 1) rfl)
  have hinX3 : ∀ w ∈ wsX30, w ∈ wsX3_hasVoter := fun w h => List.mem_cons_of_mem _ (List.mem_append_right _ h)
  have hf19 := hts (.fieldLink RX3 19 "SailorCandlesModel" "voter" "[Z") (List.mem_of_getElem? (i := 2) rfl)
  have hl : lv_has ls 2 [(0, .ref (M 0)), (1, .int (nI p))] := hl
  refine lv_aload_n hx hb dX3_hasVoter_0 rfl (lv_at hl 0 rfl) ?_
  refine lv_iconst (v := 0) hx hb dX3_hasVoter_1 (by decide) ?_
  refine k_put (ci := 3) (C := RX3) (T := TX3) (N := 10) (ws' := wN E M (0, Hb, a, k)) hx hb hown hK hw hts hinX3 tyX3 tyX3_ok nmX3 0 rfl rfl 0 (by decide) hf29 rfl rfl (Nat.le_of_ble_eq_true rfl) dX3_hasVoter_2 rfl (fun H locs hw => ?_)
  refine lv_aload_n hx hb dX3_hasVoter_5 rfl (lv_at hl 0 rfl) ?_
  refine lv_iload_n hx hb dX3_hasVoter_6 rfl (lv_at hl 1 rfl) ?_
  refine kr_i (ws' := wN E M (0, Hb, a, k)) (va_runV (As := [.int (nI p)]) (rest := []) ⟨hx, hb, hml, hown, hts⟩ (c_X3_isSailor l E M 0 Hb a k (nI p)  _) (cwV 1 hts gX3_hasVoter_X3_isSailor rfl rfl rfl ⟨rfl, hd_X3_isSailor⟩ ⟨Nat.le_of_ble_eq_true rfl, Nat.le_of_ble_eq_true rfl⟩) (pwV (ci := 3) (q0 := 0) (C := RX3) hw hK rfl rfl rfl (rpS (AV := [.ref (M 0), .int (nI p)]) hw hK hG rp_75)) rfl rfl hl.1 rfl (lv_room (Nat.le_of_ble_eq_true rfl)) dX3_hasVoter_7 ⟨Nat.le_of_ble_eq_true rfl, Nat.le_of_ble_eq_true rfl⟩) hw hA rp_75 (fun H locs hw => ?_)
  refine lv_if_eq (tgt := 22) hx hb dX3_hasVoter_10 (by decide) (fun q8 => absurd q8 (fun q7 => absurd ((d_in_n (n := p) (k := n_np Hb) (by omega) (by omega)).symm.trans (bI_z q7)) (by decide))) (fun _ => ?_)
  refine lv_aload_n hx hb dX3_hasVoter_13 rfl (lv_at hl 0 rfl) ?_
  refine k_get (ci := 3) (v := .ref (M 4)) (C := RX3) (T := TX3) (N := 10) hx hb hown hK hw hts hinX3 0 rfl rfl 6 (by decide) hf19 rfl dX3_hasVoter_14 ?_
  refine lv_iload_n hx hb dX3_hasVoter_17 rfl (lv_at hl 1 rfl) ?_
  refine k_zldN (i := p) (f := n_vo Hb) hx hb hK hw 4 rfl (by omega) (by omega) dX3_hasVoter_18 ?_
  refine lv_goto (tgt := 27) hx hb dX3_hasVoter_19 (by decide) ?_
  exact k_iret hx hb hr hlocks hK hw (bI_n _) dX3_hasVoter_27 rfl rfl
abbrev rm_X3_isGivenUp : Room := { frames := 2, cells := 0, slots := 0, locals := 43 }
set_option maxHeartbeats 4000000 in
set_option maxRecDepth 100000 in
theorem c_X3_isGivenUp_1 (l : Launch) (E : Ev) (M : Nat → Nat) (th : Int32) (Hb : MH) (a k : Fn) (p : Int32) (h1 : n_ns Hb ≤ 5) (h2 : n_np Hb ≤ 16) (h3 : n_nw Hb ≤ 4) (h4 : ∀ p, p < n_np Hb → n_so Hb p < 5) (hd_np : d_in p 0 (nI (n_np Hb) - 1) = false) : MI l E yX3_isGivenUp wsX3_isGivenUp rm_X3_isGivenUp [.ref (M 0), .int p] (wN E M (th, Hb, a, k)) (bI false) (wN E M (1, Hb, a, k)) := by
  refine k_bI (cc := cX3_isGivenUp) (maxL := 2) (ret := (some .boolean)) (by decide) rfl (Nat.le_of_ble_eq_true rfl) ?_
  intro p9 e s9 m args below meth c A9 ls hC hl hw
  obtain ⟨hx, hb, hml, hr, hown, hts, hlocks, hK, hG, hA⟩ := hC
  have hf29 := hts (.fieldLink RX3 29 "SailorCandlesModel" "thrown" "I") (List.mem_of_getElem? (i := 1) rfl)
  have hinX3 : ∀ w ∈ wsX30, w ∈ wsX3_isGivenUp := fun w h => List.mem_cons_of_mem _ (List.mem_append_right _ h)
  have hl : lv_has ls 2 [(0, .ref (M 0)), (1, .int p)] := hl
  refine lv_aload_n hx hb dX3_isGivenUp_0 rfl (lv_at hl 0 rfl) ?_
  refine lv_iconst (v := 0) hx hb dX3_isGivenUp_1 (by decide) ?_
  refine k_put (ci := 3) (C := RX3) (T := TX3) (N := 10) (ws' := wN E M (0, Hb, a, k)) hx hb hown hK hw hts hinX3 tyX3 tyX3_ok nmX3 0 rfl rfl 0 (by decide) hf29 rfl rfl (Nat.le_of_ble_eq_true rfl) dX3_isGivenUp_2 rfl (fun H locs hw => ?_)
  refine lv_aload_n hx hb dX3_isGivenUp_5 rfl (lv_at hl 0 rfl) ?_
  refine lv_iload_n hx hb dX3_isGivenUp_6 rfl (lv_at hl 1 rfl) ?_
  refine kr_i (ws' := wN E M (0, Hb, a, k)) (va_runV (As := [.int p]) (rest := []) ⟨hx, hb, hml, hown, hts⟩ (c_X3_isSailor l E M 0 Hb a k p  _) (cwV 1 hts gX3_isGivenUp_X3_isSailor rfl rfl rfl ⟨rfl, hd_X3_isSailor⟩ ⟨Nat.le_of_ble_eq_true rfl, Nat.le_of_ble_eq_true rfl⟩) (pwV (ci := 3) (q0 := 0) (C := RX3) hw hK rfl rfl rfl (rpS (AV := [.ref (M 0), .int p]) hw hK hG rp_75)) rfl rfl hl.1 rfl (lv_room (Nat.le_of_ble_eq_true rfl)) dX3_isGivenUp_7 ⟨Nat.le_of_ble_eq_true rfl, Nat.le_of_ble_eq_true rfl⟩) hw hA rp_75 (fun H locs hw => ?_)
  refine lv_if_eq (tgt := 35) hx hb dX3_isGivenUp_10 (by decide) (fun _ => ?_) (fun q8 => absurd (by rw [hd_np]; rfl) q8)
  refine lv_aload_n hx hb dX3_isGivenUp_35 rfl (lv_at hl 0 rfl) ?_
  refine lv_iconst (v := 1) hx hb dX3_isGivenUp_36 (by decide) ?_
  refine kr_i (ws' := wN E M (1, Hb, a, k)) (va_runV (As := [.int 1]) (rest := []) ⟨hx, hb, hml, hown, hts⟩ (c_X3_isNot l E M 0 Hb a k 1  _) (cwV 1 hts gX3_isGivenUp_X3_isNot rfl rfl rfl ⟨rfl, hd_X3_isNot⟩ ⟨Nat.le_of_ble_eq_true rfl, Nat.le_of_ble_eq_true rfl⟩) (pwV (ci := 3) (q0 := 0) (C := RX3) hw hK rfl rfl rfl (rpS (AV := [.ref (M 0), .int 1]) hw hK hG rp_75)) rfl rfl hl.1 rfl (lv_room (Nat.le_of_ble_eq_true rfl)) dX3_isGivenUp_37 ⟨Nat.le_of_ble_eq_true rfl, Nat.le_of_ble_eq_true rfl⟩) hw hA rp_76 (fun H locs hw => ?_)
  exact k_iret hx hb hr hlocks hK hw (bI_n _) dX3_isGivenUp_40 rfl rfl
set_option maxHeartbeats 4000000 in
set_option maxRecDepth 100000 in
theorem c_X3_isGivenUp (l : Launch) (E : Ev) (M : Nat → Nat) (th : Int32) (Hb : MH) (a k : Fn) (p : Nat) (h1 : n_ns Hb ≤ 5) (h2 : n_np Hb ≤ 16) (h3 : n_nw Hb ≤ 4) (h4 : ∀ p, p < n_np Hb → n_so Hb p < 5) (hp : p < n_np Hb) : MI l E yX3_isGivenUp wsX3_isGivenUp rm_X3_isGivenUp [.ref (M 0), .int (nI p)] (wN E M (th, Hb, a, k)) (bI (if a (18 + 2 * p + 1) = 1 then true else false)) (wN E M (0, Hb, a, k)) := by
  refine k_bI (cc := cX3_isGivenUp) (maxL := 2) (ret := (some .boolean)) (by decide) rfl (Nat.le_of_ble_eq_true rfl) ?_
  intro p9 e s9 m args below meth c A9 ls hC hl hw
  obtain ⟨hx, hb, hml, hr, hown, hts, hlocks, hK, hG, hA⟩ := hC
  have hf29 := hts (.fieldLink RX3 29 "SailorCandlesModel" "thrown" "I") (List.mem_of_getElem? (i := 1) rfl)
  have hinX3 : ∀ w ∈ wsX30, w ∈ wsX3_isGivenUp := fun w h => List.mem_cons_of_mem _ (List.mem_append_right _ h)
  have hf23 := hts (.fieldLink RX3 23 "SailorCandlesModel" "now" "[I") (List.mem_of_getElem? (i := 2) rfl)
  have hl : lv_has ls 2 [(0, .ref (M 0)), (1, .int (nI p))] := hl
  refine lv_aload_n hx hb dX3_isGivenUp_0 rfl (lv_at hl 0 rfl) ?_
  refine lv_iconst (v := 0) hx hb dX3_isGivenUp_1 (by decide) ?_
  refine k_put (ci := 3) (C := RX3) (T := TX3) (N := 10) (ws' := wN E M (0, Hb, a, k)) hx hb hown hK hw hts hinX3 tyX3 tyX3_ok nmX3 0 rfl rfl 0 (by decide) hf29 rfl rfl (Nat.le_of_ble_eq_true rfl) dX3_isGivenUp_2 rfl (fun H locs hw => ?_)
  refine lv_aload_n hx hb dX3_isGivenUp_5 rfl (lv_at hl 0 rfl) ?_
  refine lv_iload_n hx hb dX3_isGivenUp_6 rfl (lv_at hl 1 rfl) ?_
  refine kr_i (ws' := wN E M (0, Hb, a, k)) (va_runV (As := [.int (nI p)]) (rest := []) ⟨hx, hb, hml, hown, hts⟩ (c_X3_isSailor l E M 0 Hb a k (nI p)  _) (cwV 1 hts gX3_isGivenUp_X3_isSailor rfl rfl rfl ⟨rfl, hd_X3_isSailor⟩ ⟨Nat.le_of_ble_eq_true rfl, Nat.le_of_ble_eq_true rfl⟩) (pwV (ci := 3) (q0 := 0) (C := RX3) hw hK rfl rfl rfl (rpS (AV := [.ref (M 0), .int (nI p)]) hw hK hG rp_75)) rfl rfl hl.1 rfl (lv_room (Nat.le_of_ble_eq_true rfl)) dX3_isGivenUp_7 ⟨Nat.le_of_ble_eq_true rfl, Nat.le_of_ble_eq_true rfl⟩) hw hA rp_75 (fun H locs hw => ?_)
  refine lv_if_eq (tgt := 35) hx hb dX3_isGivenUp_10 (by decide) (fun q8 => absurd q8 (fun q7 => absurd ((d_in_n (n := p) (k := n_np Hb) (by omega) (by omega)).symm.trans (bI_z q7)) (by decide))) (fun _ => ?_)
  refine lv_aload_n hx hb dX3_isGivenUp_13 rfl (lv_at hl 0 rfl) ?_
  refine k_get (ci := 3) (v := .ref (M 5)) (C := RX3) (T := TX3) (N := 10) hx hb hown hK hw hts hinX3 0 rfl rfl 8 (by decide) hf23 rfl dX3_isGivenUp_14 ?_
  refine lv_iload_n hx hb dX3_isGivenUp_17 rfl (lv_at hl 1 rfl) ?_
  refine lv_iconst (v := 1) hx hb dX3_isGivenUp_18 (by decide) ?_
  refine kr_i (ws' := wN E M (0, Hb, a, k)) (va_runS (As := [.int (nI p), .int 1]) (rest := [.ref (M 5)]) ⟨hx, hb, hml, hown, hts⟩ (c_X3_sailor l E p 1  _) (va_cwS 2 hts gX3_isGivenUp_X3_sailor rfl rfl rfl hd_X3_sailor ⟨Nat.le_of_ble_eq_true rfl, Nat.le_of_ble_eq_true rfl⟩) (rpS (AV := [.int (nI p), .int 1]) hw hK hG rp_74) rfl rfl hl.1 rfl (lv_room (Nat.le_of_ble_eq_true rfl)) dX3_isGivenUp_19 ⟨Nat.le_of_ble_eq_true rfl, Nat.le_of_ble_eq_true rfl⟩) hw hA rp_74 (fun H locs hw => ?_)
  refine k_ildN (i := 18 + 2 * p + 1) (f := a) hx hb hK hw 5 rfl (by omega) (by omega) dX3_isGivenUp_22 ?_
  refine lv_iconst (v := 1) hx hb dX3_isGivenUp_23 (by decide) ?_
  refine lv_icmp_ne (tgt := 31) hx hb dX3_isGivenUp_24 (by decide) (fun c_1 => ?_) (fun c_1 => ?_)
  · refine lv_iconst (v := 0) hx hb dX3_isGivenUp_31 (by decide) ?_
    refine lv_goto (tgt := 40) hx hb dX3_isGivenUp_32 (by decide) ?_
    exact k_iret hx hb hr hlocks hK hw rfl dX3_isGivenUp_40 (by first | assumption | (simp only [bI_t, bI_f, if_neg c_1, if_true, if_false, Bool.false_eq_true, Bool.true_eq_false, reduceIte, reduceCtorEq]; done) | (simp only [bI_t, bI_f, if_neg c_1, if_true, if_false, Bool.false_eq_true, Bool.true_eq_false, reduceIte, reduceCtorEq]; rfl) | rfl | (simp [bI_t, bI_f, if_neg c_1, if_true, if_false, Bool.false_eq_true, Bool.true_eq_false, reduceIte, reduceCtorEq]; done) | (simp [bI, bI_t, bI_f, c_1]; done)) rfl
  · refine lv_iconst (v := 1) hx hb dX3_isGivenUp_27 (by decide) ?_
    refine lv_goto (tgt := 40) hx hb dX3_isGivenUp_28 (by decide) ?_
    exact k_iret hx hb hr hlocks hK hw rfl dX3_isGivenUp_40 (by first | assumption | (simp only [bI_t, bI_f, if_pos c_1, if_true, if_false, Bool.false_eq_true, Bool.true_eq_false, reduceIte, reduceCtorEq]; done) | (simp only [bI_t, bI_f, if_pos c_1, if_true, if_false, Bool.false_eq_true, Bool.true_eq_false, reduceIte, reduceCtorEq]; rfl) | rfl | (simp [bI_t, bI_f, if_pos c_1, if_true, if_false, Bool.false_eq_true, Bool.true_eq_false, reduceIte, reduceCtorEq]; done) | (simp [bI, bI_t, bI_f, c_1]; done)) rfl
abbrev rm_X3_candleOf : Room := { frames := 2, cells := 0, slots := 0, locals := 43 }
set_option maxHeartbeats 4000000 in
set_option maxRecDepth 100000 in
theorem c_X3_candleOf_1 (l : Launch) (E : Ev) (M : Nat → Nat) (th : Int32) (Hb : MH) (a k : Fn) (p : Int32) (h1 : n_ns Hb ≤ 5) (h2 : n_np Hb ≤ 16) (h3 : n_nw Hb ≤ 4) (h4 : ∀ p, p < n_np Hb → n_so Hb p < 5) (hd_np : d_in p 0 (nI (n_np Hb) - 1) = false) : MI l E yX3_candleOf wsX3_candleOf rm_X3_candleOf [.ref (M 0), .int p] (wN E M (th, Hb, a, k)) 0 (wN E M (1, Hb, a, k)) := by
  refine k_bI (cc := cX3_candleOf) (maxL := 2) (ret := (some .int)) (by decide) rfl (Nat.le_of_ble_eq_true rfl) ?_
  intro p9 e s9 m args below meth c A9 ls hC hl hw
  obtain ⟨hx, hb, hml, hr, hown, hts, hlocks, hK, hG, hA⟩ := hC
  have hf29 := hts (.fieldLink RX3 29 "SailorCandlesModel" "thrown" "I") (List.mem_of_getElem? (i := 1) rfl)
  have hinX3 : ∀ w ∈ wsX30, w ∈ wsX3_candleOf := fun w h => List.mem_cons_of_mem _ (List.mem_append_right _ h)
  have hl : lv_has ls 2 [(0, .ref (M 0)), (1, .int p)] := hl
  refine lv_aload_n hx hb dX3_candleOf_0 rfl (lv_at hl 0 rfl) ?_
  refine lv_iconst (v := 0) hx hb dX3_candleOf_1 (by decide) ?_
  refine k_put (ci := 3) (C := RX3) (T := TX3) (N := 10) (ws' := wN E M (0, Hb, a, k)) hx hb hown hK hw hts hinX3 tyX3 tyX3_ok nmX3 0 rfl rfl 0 (by decide) hf29 rfl rfl (Nat.le_of_ble_eq_true rfl) dX3_candleOf_2 rfl (fun H locs hw => ?_)
  refine lv_aload_n hx hb dX3_candleOf_5 rfl (lv_at hl 0 rfl) ?_
  refine lv_iload_n hx hb dX3_candleOf_6 rfl (lv_at hl 1 rfl) ?_
  refine kr_i (ws' := wN E M (0, Hb, a, k)) (va_runV (As := [.int p]) (rest := []) ⟨hx, hb, hml, hown, hts⟩ (c_X3_isSailor l E M 0 Hb a k p  _) (cwV 1 hts gX3_candleOf_X3_isSailor rfl rfl rfl ⟨rfl, hd_X3_isSailor⟩ ⟨Nat.le_of_ble_eq_true rfl, Nat.le_of_ble_eq_true rfl⟩) (pwV (ci := 3) (q0 := 0) (C := RX3) hw hK rfl rfl rfl (rpS (AV := [.ref (M 0), .int p]) hw hK hG rp_75)) rfl rfl hl.1 rfl (lv_room (Nat.le_of_ble_eq_true rfl)) dX3_candleOf_7 ⟨Nat.le_of_ble_eq_true rfl, Nat.le_of_ble_eq_true rfl⟩) hw hA rp_75 (fun H locs hw => ?_)
  refine lv_if_eq (tgt := 26) hx hb dX3_candleOf_10 (by decide) (fun _ => ?_) (fun q8 => absurd (by rw [hd_np]; rfl) q8)
  refine lv_aload_n hx hb dX3_candleOf_26 rfl (lv_at hl 0 rfl) ?_
  refine lv_iconst (v := 1) hx hb dX3_candleOf_27 (by decide) ?_
  refine kr_i (ws' := wN E M (1, Hb, a, k)) (va_runV (As := [.int 1]) (rest := []) ⟨hx, hb, hml, hown, hts⟩ (c_X3_no l E M 0 Hb a k 1  _) (cwV 1 hts gX3_candleOf_X3_no rfl rfl rfl ⟨rfl, hd_X3_no⟩ ⟨Nat.le_of_ble_eq_true rfl, Nat.le_of_ble_eq_true rfl⟩) (pwV (ci := 3) (q0 := 0) (C := RX3) hw hK rfl rfl rfl (rpS (AV := [.ref (M 0), .int 1]) hw hK hG rp_75)) rfl rfl hl.1 rfl (lv_room (Nat.le_of_ble_eq_true rfl)) dX3_candleOf_28 ⟨Nat.le_of_ble_eq_true rfl, Nat.le_of_ble_eq_true rfl⟩) hw hA rp_76 (fun H locs hw => ?_)
  exact k_iret hx hb hr hlocks hK hw rfl dX3_candleOf_31 rfl rfl
set_option maxHeartbeats 4000000 in
set_option maxRecDepth 100000 in
theorem c_X3_candleOf (l : Launch) (E : Ev) (M : Nat → Nat) (th : Int32) (Hb : MH) (a k : Fn) (p : Nat) (h1 : n_ns Hb ≤ 5) (h2 : n_np Hb ≤ 16) (h3 : n_nw Hb ≤ 4) (h4 : ∀ p, p < n_np Hb → n_so Hb p < 5) (hp : p < n_np Hb) : MI l E yX3_candleOf wsX3_candleOf rm_X3_candleOf [.ref (M 0), .int (nI p)] (wN E M (th, Hb, a, k)) (a (18 + 2 * p + 0)) (wN E M (0, Hb, a, k)) := by
  refine k_bI (cc := cX3_candleOf) (maxL := 2) (ret := (some .int)) (by decide) rfl (Nat.le_of_ble_eq_true rfl) ?_
  intro p9 e s9 m args below meth c A9 ls hC hl hw
  obtain ⟨hx, hb, hml, hr, hown, hts, hlocks, hK, hG, hA⟩ := hC
  have hf29 := hts (.fieldLink RX3 29 "SailorCandlesModel" "thrown" "I") (List.mem_of_getElem? (i := 1) rfl)
  have hinX3 : ∀ w ∈ wsX30, w ∈ wsX3_candleOf := fun w h => List.mem_cons_of_mem _ (List.mem_append_right _ h)
  have hf23 := hts (.fieldLink RX3 23 "SailorCandlesModel" "now" "[I") (List.mem_of_getElem? (i := 2) rfl)
  have hl : lv_has ls 2 [(0, .ref (M 0)), (1, .int (nI p))] := hl
  refine lv_aload_n hx hb dX3_candleOf_0 rfl (lv_at hl 0 rfl) ?_
  refine lv_iconst (v := 0) hx hb dX3_candleOf_1 (by decide) ?_
  refine k_put (ci := 3) (C := RX3) (T := TX3) (N := 10) (ws' := wN E M (0, Hb, a, k)) hx hb hown hK hw hts hinX3 tyX3 tyX3_ok nmX3 0 rfl rfl 0 (by decide) hf29 rfl rfl (Nat.le_of_ble_eq_true rfl) dX3_candleOf_2 rfl (fun H locs hw => ?_)
  refine lv_aload_n hx hb dX3_candleOf_5 rfl (lv_at hl 0 rfl) ?_
  refine lv_iload_n hx hb dX3_candleOf_6 rfl (lv_at hl 1 rfl) ?_
  refine kr_i (ws' := wN E M (0, Hb, a, k)) (va_runV (As := [.int (nI p)]) (rest := []) ⟨hx, hb, hml, hown, hts⟩ (c_X3_isSailor l E M 0 Hb a k (nI p)  _) (cwV 1 hts gX3_candleOf_X3_isSailor rfl rfl rfl ⟨rfl, hd_X3_isSailor⟩ ⟨Nat.le_of_ble_eq_true rfl, Nat.le_of_ble_eq_true rfl⟩) (pwV (ci := 3) (q0 := 0) (C := RX3) hw hK rfl rfl rfl (rpS (AV := [.ref (M 0), .int (nI p)]) hw hK hG rp_75)) rfl rfl hl.1 rfl (lv_room (Nat.le_of_ble_eq_true rfl)) dX3_candleOf_7 ⟨Nat.le_of_ble_eq_true rfl, Nat.le_of_ble_eq_true rfl⟩) hw hA rp_75 (fun H locs hw => ?_)
  refine lv_if_eq (tgt := 26) hx hb dX3_candleOf_10 (by decide) (fun q8 => absurd q8 (fun q7 => absurd ((d_in_n (n := p) (k := n_np Hb) (by omega) (by omega)).symm.trans (bI_z q7)) (by decide))) (fun _ => ?_)
  refine lv_aload_n hx hb dX3_candleOf_13 rfl (lv_at hl 0 rfl) ?_
  refine k_get (ci := 3) (v := .ref (M 5)) (C := RX3) (T := TX3) (N := 10) hx hb hown hK hw hts hinX3 0 rfl rfl 8 (by decide) hf23 rfl dX3_candleOf_14 ?_
  refine lv_iload_n hx hb dX3_candleOf_17 rfl (lv_at hl 1 rfl) ?_
  refine lv_iconst (v := 0) hx hb dX3_candleOf_18 (by decide) ?_
  refine kr_i (ws' := wN E M (0, Hb, a, k)) (va_runS (As := [.int (nI p), .int 0]) (rest := [.ref (M 5)]) ⟨hx, hb, hml, hown, hts⟩ (c_X3_sailor l E p 0  _) (va_cwS 2 hts gX3_candleOf_X3_sailor rfl rfl rfl hd_X3_sailor ⟨Nat.le_of_ble_eq_true rfl, Nat.le_of_ble_eq_true rfl⟩) (rpS (AV := [.int (nI p), .int 0]) hw hK hG rp_74) rfl rfl hl.1 rfl (lv_room (Nat.le_of_ble_eq_true rfl)) dX3_candleOf_19 ⟨Nat.le_of_ble_eq_true rfl, Nat.le_of_ble_eq_true rfl⟩) hw hA rp_74 (fun H locs hw => ?_)
  refine k_ildN (i := 18 + 2 * p + 0) (f := a) hx hb hK hw 5 rfl (by omega) (by omega) dX3_candleOf_22 ?_
  refine lv_goto (tgt := 31) hx hb dX3_candleOf_23 (by decide) ?_
  exact k_iret hx hb hr hlocks hK hw rfl dX3_candleOf_31 rfl rfl
abbrev rm_X3_isDark : Room := { frames := 3, cells := 0, slots := 0, locals := 63 }
set_option maxHeartbeats 4000000 in
set_option maxRecDepth 100000 in
theorem c_X3_isDark_1 (l : Launch) (E : Ev) (M : Nat → Nat) (th : Int32) (Hb : MH) (a k : Fn) (p : Int32) (h1 : n_ns Hb ≤ 5) (h2 : n_np Hb ≤ 16) (h3 : n_nw Hb ≤ 4) (h4 : ∀ p, p < n_np Hb → n_so Hb p < 5) (hd_np : d_in p 0 (nI (n_np Hb) - 1) = false) : MI l E yX3_isDark wsX3_isDark rm_X3_isDark [.ref (M 0), .int p] (wN E M (th, Hb, a, k)) (bI false) (wN E M (1, Hb, a, k)) := by
  refine k_bI (cc := cX3_isDark) (maxL := 2) (ret := (some .boolean)) (by decide) rfl (Nat.le_of_ble_eq_true rfl) ?_
  intro p9 e s9 m args below meth c A9 ls hC hl hw
  obtain ⟨hx, hb, hml, hr, hown, hts, hlocks, hK, hG, hA⟩ := hC
  have hf29 := hts (.fieldLink RX3 29 "SailorCandlesModel" "thrown" "I") (List.mem_of_getElem? (i := 1) rfl)
  have hinX3 : ∀ w ∈ wsX30, w ∈ wsX3_isDark := fun w h => List.mem_cons_of_mem _ (List.mem_append_right _ h)
  have hl : lv_has ls 2 [(0, .ref (M 0)), (1, .int p)] := hl
  refine lv_aload_n hx hb dX3_isDark_0 rfl (lv_at hl 0 rfl) ?_
  refine lv_iconst (v := 0) hx hb dX3_isDark_1 (by decide) ?_
  refine k_put (ci := 3) (C := RX3) (T := TX3) (N := 10) (ws' := wN E M (0, Hb, a, k)) hx hb hown hK hw hts hinX3 tyX3 tyX3_ok nmX3 0 rfl rfl 0 (by decide) hf29 rfl rfl (Nat.le_of_ble_eq_true rfl) dX3_isDark_2 rfl (fun H locs hw => ?_)
  refine lv_aload_n hx hb dX3_isDark_5 rfl (lv_at hl 0 rfl) ?_
  refine lv_iload_n hx hb dX3_isDark_6 rfl (lv_at hl 1 rfl) ?_
  refine kr_i (ws' := wN E M (0, Hb, a, k)) (va_runV (As := [.int p]) (rest := []) ⟨hx, hb, hml, hown, hts⟩ (c_X3_isSailor l E M 0 Hb a k p  _) (cwV 1 hts gX3_isDark_X3_isSailor rfl rfl rfl ⟨rfl, hd_X3_isSailor⟩ ⟨Nat.le_of_ble_eq_true rfl, Nat.le_of_ble_eq_true rfl⟩) (pwV (ci := 3) (q0 := 0) (C := RX3) hw hK rfl rfl rfl (rpS (AV := [.ref (M 0), .int p]) hw hK hG rp_75)) rfl rfl hl.1 rfl (lv_room (Nat.le_of_ble_eq_true rfl)) dX3_isDark_7 ⟨Nat.le_of_ble_eq_true rfl, Nat.le_of_ble_eq_true rfl⟩) hw hA rp_75 (fun H locs hw => ?_)
  refine lv_if_eq (tgt := 21) hx hb dX3_isDark_10 (by decide) (fun _ => ?_) (fun q8 => absurd (by rw [hd_np]; rfl) q8)
  refine lv_aload_n hx hb dX3_isDark_21 rfl (lv_at hl 0 rfl) ?_
  refine lv_iconst (v := 1) hx hb dX3_isDark_22 (by decide) ?_
  refine kr_i (ws' := wN E M (1, Hb, a, k)) (va_runV (As := [.int 1]) (rest := []) ⟨hx, hb, hml, hown, hts⟩ (c_X3_isNot l E M 0 Hb a k 1  _) (cwV 1 hts gX3_isDark_X3_isNot rfl rfl rfl ⟨rfl, hd_X3_isNot⟩ ⟨Nat.le_of_ble_eq_true rfl, Nat.le_of_ble_eq_true rfl⟩) (pwV (ci := 3) (q0 := 0) (C := RX3) hw hK rfl rfl rfl (rpS (AV := [.ref (M 0), .int 1]) hw hK hG rp_75)) rfl rfl hl.1 rfl (lv_room (Nat.le_of_ble_eq_true rfl)) dX3_isDark_23 ⟨Nat.le_of_ble_eq_true rfl, Nat.le_of_ble_eq_true rfl⟩) hw hA rp_76 (fun H locs hw => ?_)
  exact k_iret hx hb hr hlocks hK hw (bI_n _) dX3_isDark_26 rfl rfl
set_option maxHeartbeats 4000000 in
set_option maxRecDepth 100000 in
theorem c_X3_isDark (l : Launch) (E : Ev) (M : Nat → Nat) (th : Int32) (Hb : MH) (a k : Fn) (p : Nat) (h1 : n_ns Hb ≤ 5) (h2 : n_np Hb ≤ 16) (h3 : n_nw Hb ≤ 4) (h4 : ∀ p, p < n_np Hb → n_so Hb p < 5) (hp : p < n_np Hb) : MI l E yX3_isDark wsX3_isDark rm_X3_isDark [.ref (M 0), .int (nI p)] (wN E M (th, Hb, a, k)) (bI (r_dark Hb a p)) (wN E M (0, Hb, a, k)) := by
  refine k_bI (cc := cX3_isDark) (maxL := 2) (ret := (some .boolean)) (by decide) rfl (Nat.le_of_ble_eq_true rfl) ?_
  intro p9 e s9 m args below meth c A9 ls hC hl hw
  obtain ⟨hx, hb, hml, hr, hown, hts, hlocks, hK, hG, hA⟩ := hC
  have hf29 := hts (.fieldLink RX3 29 "SailorCandlesModel" "thrown" "I") (List.mem_of_getElem? (i := 1) rfl)
  have hinX3 : ∀ w ∈ wsX30, w ∈ wsX3_isDark := fun w h => List.mem_cons_of_mem _ (List.mem_append_right _ h)
  have hl : lv_has ls 2 [(0, .ref (M 0)), (1, .int (nI p))] := hl
  refine lv_aload_n hx hb dX3_isDark_0 rfl (lv_at hl 0 rfl) ?_
  refine lv_iconst (v := 0) hx hb dX3_isDark_1 (by decide) ?_
  refine k_put (ci := 3) (C := RX3) (T := TX3) (N := 10) (ws' := wN E M (0, Hb, a, k)) hx hb hown hK hw hts hinX3 tyX3 tyX3_ok nmX3 0 rfl rfl 0 (by decide) hf29 rfl rfl (Nat.le_of_ble_eq_true rfl) dX3_isDark_2 rfl (fun H locs hw => ?_)
  refine lv_aload_n hx hb dX3_isDark_5 rfl (lv_at hl 0 rfl) ?_
  refine lv_iload_n hx hb dX3_isDark_6 rfl (lv_at hl 1 rfl) ?_
  refine kr_i (ws' := wN E M (0, Hb, a, k)) (va_runV (As := [.int (nI p)]) (rest := []) ⟨hx, hb, hml, hown, hts⟩ (c_X3_isSailor l E M 0 Hb a k (nI p)  _) (cwV 1 hts gX3_isDark_X3_isSailor rfl rfl rfl ⟨rfl, hd_X3_isSailor⟩ ⟨Nat.le_of_ble_eq_true rfl, Nat.le_of_ble_eq_true rfl⟩) (pwV (ci := 3) (q0 := 0) (C := RX3) hw hK rfl rfl rfl (rpS (AV := [.ref (M 0), .int (nI p)]) hw hK hG rp_75)) rfl rfl hl.1 rfl (lv_room (Nat.le_of_ble_eq_true rfl)) dX3_isDark_7 ⟨Nat.le_of_ble_eq_true rfl, Nat.le_of_ble_eq_true rfl⟩) hw hA rp_75 (fun H locs hw => ?_)
  refine lv_if_eq (tgt := 21) hx hb dX3_isDark_10 (by decide) (fun q8 => absurd q8 (fun q7 => absurd ((d_in_n (n := p) (k := n_np Hb) (by omega) (by omega)).symm.trans (bI_z q7)) (by decide))) (fun _ => ?_)
  refine lv_aload_n hx hb dX3_isDark_13 rfl (lv_at hl 0 rfl) ?_
  refine lv_iload_n hx hb dX3_isDark_14 rfl (lv_at hl 1 rfl) ?_
  refine kr_i (ws' := wN E M (0, Hb, a, k)) (va_runV (As := [.int (nI p)]) (rest := []) ⟨hx, hb, hml, hown, hts⟩ (c_X3_dark l E M 0 Hb a k p (by omega) (by omega) (by omega) (h4) (by omega) _) (cwV 1 hts gX3_isDark_X3_dark rfl rfl rfl ⟨rfl, hd_X3_dark⟩ ⟨Nat.le_of_ble_eq_true rfl, Nat.le_of_ble_eq_true rfl⟩) (pwV (ci := 3) (q0 := 0) (C := RX3) hw hK rfl rfl rfl (rpS (AV := [.ref (M 0), .int (nI p)]) hw hK hG rp_75)) rfl rfl hl.1 rfl (lv_room (Nat.le_of_ble_eq_true rfl)) dX3_isDark_15 ⟨Nat.le_of_ble_eq_true rfl, Nat.le_of_ble_eq_true rfl⟩) hw hA rp_75 (fun H locs hw => ?_)
  refine lv_goto (tgt := 26) hx hb dX3_isDark_18 (by decide) ?_
  exact k_iret hx hb hr hlocks hK hw (bI_n _) dX3_isDark_26 rfl rfl
abbrev rm_X3_trustOf : Room := { frames := 2, cells := 0, slots := 0, locals := 43 }
set_option maxHeartbeats 4000000 in
set_option maxRecDepth 100000 in
theorem c_X3_trustOf_1 (l : Launch) (E : Ev) (M : Nat → Nat) (th : Int32) (Hb : MH) (a k : Fn) (w : Int32) (h1 : n_ns Hb ≤ 5) (h2 : n_np Hb ≤ 16) (h3 : n_nw Hb ≤ 4) (h4 : ∀ p, p < n_np Hb → n_so Hb p < 5) (hd_nw : d_in w 0 (nI (n_nw Hb) - 1) = false) : MI l E yX3_trustOf wsX3_trustOf rm_X3_trustOf [.ref (M 0), .int w] (wN E M (th, Hb, a, k)) 0 (wN E M (1, Hb, a, k)) := by
  refine k_bI (cc := cX3_trustOf) (maxL := 2) (ret := (some .int)) (by decide) rfl (Nat.le_of_ble_eq_true rfl) ?_
  intro p9 e s9 m args below meth c A9 ls hC hl hw
  obtain ⟨hx, hb, hml, hr, hown, hts, hlocks, hK, hG, hA⟩ := hC
  have hf29 := hts (.fieldLink RX3 29 "SailorCandlesModel" "thrown" "I") (List.mem_of_getElem? (i := 1) rfl)
  have hinX3 : ∀ w ∈ wsX30, w ∈ wsX3_trustOf := fun w h => List.mem_cons_of_mem _ (List.mem_append_right _ h)
  have hl : lv_has ls 2 [(0, .ref (M 0)), (1, .int w)] := hl
  refine lv_aload_n hx hb dX3_trustOf_0 rfl (lv_at hl 0 rfl) ?_
  refine lv_iconst (v := 0) hx hb dX3_trustOf_1 (by decide) ?_
  refine k_put (ci := 3) (C := RX3) (T := TX3) (N := 10) (ws' := wN E M (0, Hb, a, k)) hx hb hown hK hw hts hinX3 tyX3 tyX3_ok nmX3 0 rfl rfl 0 (by decide) hf29 rfl rfl (Nat.le_of_ble_eq_true rfl) dX3_trustOf_2 rfl (fun H locs hw => ?_)
  refine lv_aload_n hx hb dX3_trustOf_5 rfl (lv_at hl 0 rfl) ?_
  refine lv_iload_n hx hb dX3_trustOf_6 rfl (lv_at hl 1 rfl) ?_
  refine kr_i (ws' := wN E M (0, Hb, a, k)) (va_runV (As := [.int w]) (rest := []) ⟨hx, hb, hml, hown, hts⟩ (c_X3_isWatcher l E M 0 Hb a k w  _) (cwV 1 hts gX3_trustOf_X3_isWatcher rfl rfl rfl ⟨rfl, hd_X3_isWatcher⟩ ⟨Nat.le_of_ble_eq_true rfl, Nat.le_of_ble_eq_true rfl⟩) (pwV (ci := 3) (q0 := 0) (C := RX3) hw hK rfl rfl rfl (rpS (AV := [.ref (M 0), .int w]) hw hK hG rp_75)) rfl rfl hl.1 rfl (lv_room (Nat.le_of_ble_eq_true rfl)) dX3_trustOf_7 ⟨Nat.le_of_ble_eq_true rfl, Nat.le_of_ble_eq_true rfl⟩) hw hA rp_75 (fun H locs hw => ?_)
  refine lv_if_eq (tgt := 25) hx hb dX3_trustOf_10 (by decide) (fun _ => ?_) (fun q8 => absurd (by rw [hd_nw]; rfl) q8)
  refine lv_aload_n hx hb dX3_trustOf_25 rfl (lv_at hl 0 rfl) ?_
  refine lv_iconst (v := 1) hx hb dX3_trustOf_26 (by decide) ?_
  refine kr_i (ws' := wN E M (1, Hb, a, k)) (va_runV (As := [.int 1]) (rest := []) ⟨hx, hb, hml, hown, hts⟩ (c_X3_no l E M 0 Hb a k 1  _) (cwV 1 hts gX3_trustOf_X3_no rfl rfl rfl ⟨rfl, hd_X3_no⟩ ⟨Nat.le_of_ble_eq_true rfl, Nat.le_of_ble_eq_true rfl⟩) (pwV (ci := 3) (q0 := 0) (C := RX3) hw hK rfl rfl rfl (rpS (AV := [.ref (M 0), .int 1]) hw hK hG rp_75)) rfl rfl hl.1 rfl (lv_room (Nat.le_of_ble_eq_true rfl)) dX3_trustOf_27 ⟨Nat.le_of_ble_eq_true rfl, Nat.le_of_ble_eq_true rfl⟩) hw hA rp_76 (fun H locs hw => ?_)
  exact k_iret hx hb hr hlocks hK hw rfl dX3_trustOf_30 rfl rfl
set_option maxHeartbeats 4000000 in
set_option maxRecDepth 100000 in
theorem c_X3_trustOf (l : Launch) (E : Ev) (M : Nat → Nat) (th : Int32) (Hb : MH) (a k : Fn) (w : Nat) (h1 : n_ns Hb ≤ 5) (h2 : n_np Hb ≤ 16) (h3 : n_nw Hb ≤ 4) (h4 : ∀ p, p < n_np Hb → n_so Hb p < 5) (hv : w < n_nw Hb) : MI l E yX3_trustOf wsX3_trustOf rm_X3_trustOf [.ref (M 0), .int (nI w)] (wN E M (th, Hb, a, k)) (a (50 + w)) (wN E M (0, Hb, a, k)) := by
  refine k_bI (cc := cX3_trustOf) (maxL := 2) (ret := (some .int)) (by decide) rfl (Nat.le_of_ble_eq_true rfl) ?_
  intro p9 e s9 m args below meth c A9 ls hC hl hw
  obtain ⟨hx, hb, hml, hr, hown, hts, hlocks, hK, hG, hA⟩ := hC
  have hf29 := hts (.fieldLink RX3 29 "SailorCandlesModel" "thrown" "I") (List.mem_of_getElem? (i := 1) rfl)
  have hinX3 : ∀ w ∈ wsX30, w ∈ wsX3_trustOf := fun w h => List.mem_cons_of_mem _ (List.mem_append_right _ h)
  have hf23 := hts (.fieldLink RX3 23 "SailorCandlesModel" "now" "[I") (List.mem_of_getElem? (i := 2) rfl)
  have hl : lv_has ls 2 [(0, .ref (M 0)), (1, .int (nI w))] := hl
  refine lv_aload_n hx hb dX3_trustOf_0 rfl (lv_at hl 0 rfl) ?_
  refine lv_iconst (v := 0) hx hb dX3_trustOf_1 (by decide) ?_
  refine k_put (ci := 3) (C := RX3) (T := TX3) (N := 10) (ws' := wN E M (0, Hb, a, k)) hx hb hown hK hw hts hinX3 tyX3 tyX3_ok nmX3 0 rfl rfl 0 (by decide) hf29 rfl rfl (Nat.le_of_ble_eq_true rfl) dX3_trustOf_2 rfl (fun H locs hw => ?_)
  refine lv_aload_n hx hb dX3_trustOf_5 rfl (lv_at hl 0 rfl) ?_
  refine lv_iload_n hx hb dX3_trustOf_6 rfl (lv_at hl 1 rfl) ?_
  refine kr_i (ws' := wN E M (0, Hb, a, k)) (va_runV (As := [.int (nI w)]) (rest := []) ⟨hx, hb, hml, hown, hts⟩ (c_X3_isWatcher l E M 0 Hb a k (nI w)  _) (cwV 1 hts gX3_trustOf_X3_isWatcher rfl rfl rfl ⟨rfl, hd_X3_isWatcher⟩ ⟨Nat.le_of_ble_eq_true rfl, Nat.le_of_ble_eq_true rfl⟩) (pwV (ci := 3) (q0 := 0) (C := RX3) hw hK rfl rfl rfl (rpS (AV := [.ref (M 0), .int (nI w)]) hw hK hG rp_75)) rfl rfl hl.1 rfl (lv_room (Nat.le_of_ble_eq_true rfl)) dX3_trustOf_7 ⟨Nat.le_of_ble_eq_true rfl, Nat.le_of_ble_eq_true rfl⟩) hw hA rp_75 (fun H locs hw => ?_)
  refine lv_if_eq (tgt := 25) hx hb dX3_trustOf_10 (by decide) (fun q8 => absurd q8 (fun q7 => absurd ((d_in_n (n := w) (k := n_nw Hb) (by omega) (by omega)).symm.trans (bI_z q7)) (by decide))) (fun _ => ?_)
  refine lv_aload_n hx hb dX3_trustOf_13 rfl (lv_at hl 0 rfl) ?_
  refine k_get (ci := 3) (v := .ref (M 5)) (C := RX3) (T := TX3) (N := 10) hx hb hown hK hw hts hinX3 0 rfl rfl 8 (by decide) hf23 rfl dX3_trustOf_14 ?_
  refine lv_bipush (v := 50) hx hb dX3_trustOf_17 (by decide) ?_
  refine lv_iload_n hx hb dX3_trustOf_19 rfl (lv_at hl 1 rfl) ?_
  refine k_iaddN (a := 50) (b := w) hx hb dX3_trustOf_20 ?_
  refine k_ildN (i := 50 + w) (f := a) hx hb hK hw 5 rfl (by omega) (by omega) dX3_trustOf_21 ?_
  refine lv_goto (tgt := 30) hx hb dX3_trustOf_22 (by decide) ?_
  exact k_iret hx hb hr hlocks hK hw rfl dX3_trustOf_30 rfl rfl
