abbrev rm_X3_canSight : Room := { frames := 2, cells := 0, slots := 0, locals := 43 }
set_option maxHeartbeats 4000000 in
set_option maxRecDepth 100000 in
theorem c_X3_canSight_1 (l : Launch) (E : Ev) (M : Nat → Nat) (th : Int32) (Hb : MH) (a k : Fn) (w : Int32) (s : Int32) (h1 : n_ns Hb ≤ 5) (h2 : n_np Hb ≤ 16) (h3 : n_nw Hb ≤ 4) (h4 : ∀ p, p < n_np Hb → n_so Hb p < 5) (hd_nw : d_in w 0 (nI (n_nw Hb) - 1) = false) : MI l E yX3_canSight wsX3_canSight rm_X3_canSight [.ref (M 0), .int w, .int s] (wN E M (th, Hb, a, k)) (bI false) (wN E M (1, Hb, a, k)) := by
  refine k_bI (cc := cX3_canSight) (maxL := 3) (ret := (some .boolean)) (by decide) rfl (Nat.le_of_ble_eq_true rfl) ?_
  intro p9 e s9 m args below meth c A9 ls hC hl hw
  obtain ⟨hx, hb, hml, hr, hown, hts, hlocks, hK, hG, hA⟩ := hC
  have hf29 := hts (.fieldLink RX3 29 "SailorCandlesModel" "thrown" "I") (List.mem_of_getElem? (i := 2) rfl)
  have hinX3 : ∀ w ∈ wsX30, w ∈ wsX3_canSight := fun w h => List.mem_cons_of_mem _ (List.mem_append_right _ h)
  have hl : lv_has ls 3 [(0, .ref (M 0)), (1, .int w), (2, .int s)] := hl
  refine lv_aload_n hx hb dX3_canSight_0 rfl (lv_at hl 0 rfl) ?_
  refine lv_aload_n hx hb dX3_canSight_1 rfl (lv_at hl 0 rfl) ?_
  refine lv_iload_n hx hb dX3_canSight_2 rfl (lv_at hl 1 rfl) ?_
  refine kr_i (ws' := wN E M (th, Hb, a, k)) (va_runV (As := [.int w]) (rest := [.ref (M 0)]) ⟨hx, hb, hml, hown, hts⟩ (c_X3_isWatcher l E M th Hb a k w  _) (cwV 1 hts gX3_canSight_X3_isWatcher rfl rfl rfl ⟨rfl, hd_X3_isWatcher⟩ ⟨Nat.le_of_ble_eq_true rfl, Nat.le_of_ble_eq_true rfl⟩) (pwV (ci := 3) (q0 := 0) (C := RX3) hw hK rfl rfl rfl (rpS (AV := [.ref (M 0), .int w]) hw hK hG rp_75)) rfl rfl hl.1 rfl (lv_room (Nat.le_of_ble_eq_true rfl)) dX3_canSight_3 ⟨Nat.le_of_ble_eq_true rfl, Nat.le_of_ble_eq_true rfl⟩) hw hA rp_75 (fun H locs hw => ?_)
  refine lv_if_eq (tgt := 17) hx hb dX3_canSight_6 (by decide) (fun _ => ?_) (fun q8 => absurd (by rw [hd_nw]; rfl) q8)
  refine lv_iconst (v := 1) hx hb dX3_canSight_17 (by decide) ?_
  refine lv_goto (tgt := 48) hx hb dX3_canSight_18 (by decide) ?_
  refine k_put (ci := 3) (C := RX3) (T := TX3) (N := 10) (ws' := wN E M (1, Hb, a, k)) hx hb hown hK hw hts hinX3 tyX3 tyX3_ok nmX3 0 rfl rfl 0 (by decide) hf29 rfl rfl (Nat.le_of_ble_eq_true rfl) dX3_canSight_48 rfl (fun H locs hw => ?_)
  refine lv_aload_n hx hb dX3_canSight_51 rfl (lv_at hl 0 rfl) ?_
  refine k_get (ci := 3) (v := .int 1) (C := RX3) (T := TX3) (N := 10) hx hb hown hK hw hts hinX3 0 rfl rfl 0 (by decide) hf29 rfl dX3_canSight_52 ?_
  refine lv_if_ne (tgt := 62) hx hb dX3_canSight_55 (by decide) (fun _ => ?_) (fun q8 => absurd q8 (by decide))
  refine lv_iconst (v := 0) hx hb dX3_canSight_62 (by decide) ?_
  exact k_iret hx hb hr hlocks hK hw rfl dX3_canSight_63 (by first | rfl | assumption | (simp only [if_true, if_false, Bool.false_eq_true, Bool.true_eq_false, reduceIte, reduceCtorEq]; done) | (simp only [if_true, if_false, Bool.false_eq_true, Bool.true_eq_false, reduceIte, reduceCtorEq]; rfl) | (simp [if_true, if_false, Bool.false_eq_true, Bool.true_eq_false, reduceIte, reduceCtorEq]; done) | (simp [bI, ]; done)) rfl
set_option maxHeartbeats 4000000 in
set_option maxRecDepth 100000 in
theorem c_X3_canSight_1b (l : Launch) (E : Ev) (M : Nat → Nat) (th : Int32) (Hb : MH) (a k : Fn) (w : Nat) (s : Int32) (h1 : n_ns Hb ≤ 5) (h2 : n_np Hb ≤ 16) (h3 : n_nw Hb ≤ 4) (h4 : ∀ p, p < n_np Hb → n_so Hb p < 5) (hv : w < n_nw Hb) (hd_ns : d_in s 0 (nI (n_ns Hb) - 1) = false) : MI l E yX3_canSight wsX3_canSight rm_X3_canSight [.ref (M 0), .int (nI w), .int s] (wN E M (th, Hb, a, k)) (bI false) (wN E M (1, Hb, a, k)) := by
  refine k_bI (cc := cX3_canSight) (maxL := 3) (ret := (some .boolean)) (by decide) rfl (Nat.le_of_ble_eq_true rfl) ?_
  intro p9 e s9 m args below meth c A9 ls hC hl hw
  obtain ⟨hx, hb, hml, hr, hown, hts, hlocks, hK, hG, hA⟩ := hC
  have hf29 := hts (.fieldLink RX3 29 "SailorCandlesModel" "thrown" "I") (List.mem_of_getElem? (i := 2) rfl)
  have hinX3 : ∀ w ∈ wsX30, w ∈ wsX3_canSight := fun w h => List.mem_cons_of_mem _ (List.mem_append_right _ h)
  have hl : lv_has ls 3 [(0, .ref (M 0)), (1, .int (nI w)), (2, .int s)] := hl
  refine lv_aload_n hx hb dX3_canSight_0 rfl (lv_at hl 0 rfl) ?_
  refine lv_aload_n hx hb dX3_canSight_1 rfl (lv_at hl 0 rfl) ?_
  refine lv_iload_n hx hb dX3_canSight_2 rfl (lv_at hl 1 rfl) ?_
  refine kr_i (ws' := wN E M (th, Hb, a, k)) (va_runV (As := [.int (nI w)]) (rest := [.ref (M 0)]) ⟨hx, hb, hml, hown, hts⟩ (c_X3_isWatcher l E M th Hb a k (nI w)  _) (cwV 1 hts gX3_canSight_X3_isWatcher rfl rfl rfl ⟨rfl, hd_X3_isWatcher⟩ ⟨Nat.le_of_ble_eq_true rfl, Nat.le_of_ble_eq_true rfl⟩) (pwV (ci := 3) (q0 := 0) (C := RX3) hw hK rfl rfl rfl (rpS (AV := [.ref (M 0), .int (nI w)]) hw hK hG rp_75)) rfl rfl hl.1 rfl (lv_room (Nat.le_of_ble_eq_true rfl)) dX3_canSight_3 ⟨Nat.le_of_ble_eq_true rfl, Nat.le_of_ble_eq_true rfl⟩) hw hA rp_75 (fun H locs hw => ?_)
  refine lv_if_eq (tgt := 17) hx hb dX3_canSight_6 (by decide) (fun q8 => absurd q8 (fun q7 => absurd ((d_in_n (n := w) (k := n_nw Hb) (by omega) (by omega)).symm.trans (bI_z q7)) (by decide))) (fun _ => ?_)
  refine lv_aload_n hx hb dX3_canSight_9 rfl (lv_at hl 0 rfl) ?_
  refine lv_iload_n hx hb dX3_canSight_10 rfl (lv_at hl 2 rfl) ?_
  refine kr_i (ws' := wN E M (th, Hb, a, k)) (va_runV (As := [.int s]) (rest := [.ref (M 0)]) ⟨hx, hb, hml, hown, hts⟩ (c_X3_isShip l E M th Hb a k s  _) (cwV 1 hts gX3_canSight_X3_isShip rfl rfl rfl ⟨rfl, hd_X3_isShip⟩ ⟨Nat.le_of_ble_eq_true rfl, Nat.le_of_ble_eq_true rfl⟩) (pwV (ci := 3) (q0 := 0) (C := RX3) hw hK rfl rfl rfl (rpS (AV := [.ref (M 0), .int s]) hw hK hG rp_75)) rfl rfl hl.1 rfl (lv_room (Nat.le_of_ble_eq_true rfl)) dX3_canSight_11 ⟨Nat.le_of_ble_eq_true rfl, Nat.le_of_ble_eq_true rfl⟩) hw hA rp_75 (fun H locs hw => ?_)
  refine lv_if_ne (tgt := 21) hx hb dX3_canSight_14 (by decide) (fun q8 => absurd (by rw [hd_ns]; rfl) q8) (fun _ => ?_)
  refine lv_iconst (v := 1) hx hb dX3_canSight_17 (by decide) ?_
  refine lv_goto (tgt := 48) hx hb dX3_canSight_18 (by decide) ?_
  refine k_put (ci := 3) (C := RX3) (T := TX3) (N := 10) (ws' := wN E M (1, Hb, a, k)) hx hb hown hK hw hts hinX3 tyX3 tyX3_ok nmX3 0 rfl rfl 0 (by decide) hf29 rfl rfl (Nat.le_of_ble_eq_true rfl) dX3_canSight_48 rfl (fun H locs hw => ?_)
  refine lv_aload_n hx hb dX3_canSight_51 rfl (lv_at hl 0 rfl) ?_
  refine k_get (ci := 3) (v := .int 1) (C := RX3) (T := TX3) (N := 10) hx hb hown hK hw hts hinX3 0 rfl rfl 0 (by decide) hf29 rfl dX3_canSight_52 ?_
  refine lv_if_ne (tgt := 62) hx hb dX3_canSight_55 (by decide) (fun _ => ?_) (fun q8 => absurd q8 (by decide))
  refine lv_iconst (v := 0) hx hb dX3_canSight_62 (by decide) ?_
  exact k_iret hx hb hr hlocks hK hw rfl dX3_canSight_63 (by first | rfl | assumption | (simp only [if_true, if_false, Bool.false_eq_true, Bool.true_eq_false, reduceIte, reduceCtorEq]; done) | (simp only [if_true, if_false, Bool.false_eq_true, Bool.true_eq_false, reduceIte, reduceCtorEq]; rfl) | (simp [if_true, if_false, Bool.false_eq_true, Bool.true_eq_false, reduceIte, reduceCtorEq]; done) | (simp [bI, ]; done)) rfl
set_option maxHeartbeats 4000000 in
set_option maxRecDepth 100000 in
theorem c_X3_canSight_2 (l : Launch) (E : Ev) (M : Nat → Nat) (th : Int32) (Hb : MH) (a k : Fn) (w : Nat) (s : Nat) (h1 : n_ns Hb ≤ 5) (h2 : n_np Hb ≤ 16) (h3 : n_nw Hb ≤ 4) (h4 : ∀ p, p < n_np Hb → n_so Hb p < 5) (hv : w < n_nw Hb) (hs : s < n_ns Hb) (ho : d_out a s = false) : MI l E yX3_canSight wsX3_canSight rm_X3_canSight [.ref (M 0), .int (nI w), .int (nI s)] (wN E M (th, Hb, a, k)) (bI false) (wN E M (2, Hb, a, k)) := by
  refine k_bI (cc := cX3_canSight) (maxL := 3) (ret := (some .boolean)) (by decide) rfl (Nat.le_of_ble_eq_true rfl) ?_
  intro p9 e s9 m args below meth c A9 ls hC hl hw
  obtain ⟨hx, hb, hml, hr, hown, hts, hlocks, hK, hG, hA⟩ := hC
  have hf29 := hts (.fieldLink RX3 29 "SailorCandlesModel" "thrown" "I") (List.mem_of_getElem? (i := 2) rfl)
  have hinX3 : ∀ w ∈ wsX30, w ∈ wsX3_canSight := fun w h => List.mem_cons_of_mem _ (List.mem_append_right _ h)
  have hl : lv_has ls 3 [(0, .ref (M 0)), (1, .int (nI w)), (2, .int (nI s))] := hl
  refine lv_aload_n hx hb dX3_canSight_0 rfl (lv_at hl 0 rfl) ?_
  refine lv_aload_n hx hb dX3_canSight_1 rfl (lv_at hl 0 rfl) ?_
  refine lv_iload_n hx hb dX3_canSight_2 rfl (lv_at hl 1 rfl) ?_
  refine kr_i (ws' := wN E M (th, Hb, a, k)) (va_runV (As := [.int (nI w)]) (rest := [.ref (M 0)]) ⟨hx, hb, hml, hown, hts⟩ (c_X3_isWatcher l E M th Hb a k (nI w)  _) (cwV 1 hts gX3_canSight_X3_isWatcher rfl rfl rfl ⟨rfl, hd_X3_isWatcher⟩ ⟨Nat.le_of_ble_eq_true rfl, Nat.le_of_ble_eq_true rfl⟩) (pwV (ci := 3) (q0 := 0) (C := RX3) hw hK rfl rfl rfl (rpS (AV := [.ref (M 0), .int (nI w)]) hw hK hG rp_75)) rfl rfl hl.1 rfl (lv_room (Nat.le_of_ble_eq_true rfl)) dX3_canSight_3 ⟨Nat.le_of_ble_eq_true rfl, Nat.le_of_ble_eq_true rfl⟩) hw hA rp_75 (fun H locs hw => ?_)
  refine lv_if_eq (tgt := 17) hx hb dX3_canSight_6 (by decide) (fun q8 => absurd q8 (fun q7 => absurd ((d_in_n (n := w) (k := n_nw Hb) (by omega) (by omega)).symm.trans (bI_z q7)) (by decide))) (fun _ => ?_)
  refine lv_aload_n hx hb dX3_canSight_9 rfl (lv_at hl 0 rfl) ?_
  refine lv_iload_n hx hb dX3_canSight_10 rfl (lv_at hl 2 rfl) ?_
  refine kr_i (ws' := wN E M (th, Hb, a, k)) (va_runV (As := [.int (nI s)]) (rest := [.ref (M 0)]) ⟨hx, hb, hml, hown, hts⟩ (c_X3_isShip l E M th Hb a k (nI s)  _) (cwV 1 hts gX3_canSight_X3_isShip rfl rfl rfl ⟨rfl, hd_X3_isShip⟩ ⟨Nat.le_of_ble_eq_true rfl, Nat.le_of_ble_eq_true rfl⟩) (pwV (ci := 3) (q0 := 0) (C := RX3) hw hK rfl rfl rfl (rpS (AV := [.ref (M 0), .int (nI s)]) hw hK hG rp_75)) rfl rfl hl.1 rfl (lv_room (Nat.le_of_ble_eq_true rfl)) dX3_canSight_11 ⟨Nat.le_of_ble_eq_true rfl, Nat.le_of_ble_eq_true rfl⟩) hw hA rp_75 (fun H locs hw => ?_)
  refine lv_if_ne (tgt := 21) hx hb dX3_canSight_14 (by decide) (fun _ => ?_) (fun q8 => absurd q8 (fun q7 => absurd ((d_in_n (n := s) (k := n_ns Hb) (by omega) (by omega)).symm.trans (bI_z q7)) (by decide)))
  refine lv_aload_n hx hb dX3_canSight_21 rfl (lv_at hl 0 rfl) ?_
  refine lv_iload_n hx hb dX3_canSight_22 rfl (lv_at hl 2 rfl) ?_
  refine kr_i (ws' := wN E M (th, Hb, a, k)) (va_runV (As := [.int (nI s)]) (rest := [.ref (M 0)]) ⟨hx, hb, hml, hown, hts⟩ (c_X3_isOut l E M th Hb a k s (by omega) (by omega) (by omega) (h4) (by omega) _) (cwV 1 hts gX3_canSight_X3_isOut rfl rfl rfl ⟨rfl, hd_X3_isOut⟩ ⟨Nat.le_of_ble_eq_true rfl, Nat.le_of_ble_eq_true rfl⟩) (pwV (ci := 3) (q0 := 0) (C := RX3) hw hK rfl rfl rfl (rpS (AV := [.ref (M 0), .int (nI s)]) hw hK hG rp_75)) rfl rfl hl.1 rfl (lv_room (Nat.le_of_ble_eq_true rfl)) dX3_canSight_23 ⟨Nat.le_of_ble_eq_true rfl, Nat.le_of_ble_eq_true rfl⟩) hw hA rp_75 (fun H locs hw => ?_)
  refine lv_if_eq (tgt := 43) hx hb dX3_canSight_26 (by decide) (fun _ => ?_) (fun q8 => absurd (by rw [ho]; rfl) q8)
  refine lv_iconst (v := 2) hx hb dX3_canSight_43 (by decide) ?_
  refine lv_goto (tgt := 48) hx hb dX3_canSight_44 (by decide) ?_
  refine k_put (ci := 3) (C := RX3) (T := TX3) (N := 10) (ws' := wN E M (2, Hb, a, k)) hx hb hown hK hw hts hinX3 tyX3 tyX3_ok nmX3 0 rfl rfl 0 (by decide) hf29 rfl rfl (Nat.le_of_ble_eq_true rfl) dX3_canSight_48 rfl (fun H locs hw => ?_)
  refine lv_aload_n hx hb dX3_canSight_51 rfl (lv_at hl 0 rfl) ?_
  refine k_get (ci := 3) (v := .int 2) (C := RX3) (T := TX3) (N := 10) hx hb hown hK hw hts hinX3 0 rfl rfl 0 (by decide) hf29 rfl dX3_canSight_52 ?_
  refine lv_if_ne (tgt := 62) hx hb dX3_canSight_55 (by decide) (fun _ => ?_) (fun q8 => absurd q8 (by decide))
  refine lv_iconst (v := 0) hx hb dX3_canSight_62 (by decide) ?_
  exact k_iret hx hb hr hlocks hK hw rfl dX3_canSight_63 (by first | rfl | assumption | (simp only [if_true, if_false, Bool.false_eq_true, Bool.true_eq_false, reduceIte, reduceCtorEq]; done) | (simp only [if_true, if_false, Bool.false_eq_true, Bool.true_eq_false, reduceIte, reduceCtorEq]; rfl) | (simp [if_true, if_false, Bool.false_eq_true, Bool.true_eq_false, reduceIte, reduceCtorEq]; done) | (simp [bI, ]; done)) rfl
set_option maxHeartbeats 4000000 in
set_option maxRecDepth 100000 in
theorem c_X3_canSight_2b (l : Launch) (E : Ev) (M : Nat → Nat) (th : Int32) (Hb : MH) (a k : Fn) (w : Nat) (s : Nat) (h1 : n_ns Hb ≤ 5) (h2 : n_np Hb ≤ 16) (h3 : n_nw Hb ≤ 4) (h4 : ∀ p, p < n_np Hb → n_so Hb p < 5) (hv : w < n_nw Hb) (hs : s < n_ns Hb) (ho : d_out a s = true) (hg : ¬ a (54 + 5 * w + s) = -1) : MI l E yX3_canSight wsX3_canSight rm_X3_canSight [.ref (M 0), .int (nI w), .int (nI s)] (wN E M (th, Hb, a, k)) (bI false) (wN E M (2, Hb, a, k)) := by
  refine k_bI (cc := cX3_canSight) (maxL := 3) (ret := (some .boolean)) (by decide) rfl (Nat.le_of_ble_eq_true rfl) ?_
  intro p9 e s9 m args below meth c A9 ls hC hl hw
  obtain ⟨hx, hb, hml, hr, hown, hts, hlocks, hK, hG, hA⟩ := hC
  have hf23 := hts (.fieldLink RX3 23 "SailorCandlesModel" "now" "[I") (List.mem_of_getElem? (i := 1) rfl)
  have hinX3 : ∀ w ∈ wsX30, w ∈ wsX3_canSight := fun w h => List.mem_cons_of_mem _ (List.mem_append_right _ h)
  have hf29 := hts (.fieldLink RX3 29 "SailorCandlesModel" "thrown" "I") (List.mem_of_getElem? (i := 2) rfl)
  have hl : lv_has ls 3 [(0, .ref (M 0)), (1, .int (nI w)), (2, .int (nI s))] := hl
  refine lv_aload_n hx hb dX3_canSight_0 rfl (lv_at hl 0 rfl) ?_
  refine lv_aload_n hx hb dX3_canSight_1 rfl (lv_at hl 0 rfl) ?_
  refine lv_iload_n hx hb dX3_canSight_2 rfl (lv_at hl 1 rfl) ?_
  refine kr_i (ws' := wN E M (th, Hb, a, k)) (va_runV (As := [.int (nI w)]) (rest := [.ref (M 0)]) ⟨hx, hb, hml, hown, hts⟩ (c_X3_isWatcher l E M th Hb a k (nI w)  _) (cwV 1 hts gX3_canSight_X3_isWatcher rfl rfl rfl ⟨rfl, hd_X3_isWatcher⟩ ⟨Nat.le_of_ble_eq_true rfl, Nat.le_of_ble_eq_true rfl⟩) (pwV (ci := 3) (q0 := 0) (C := RX3) hw hK rfl rfl rfl (rpS (AV := [.ref (M 0), .int (nI w)]) hw hK hG rp_75)) rfl rfl hl.1 rfl (lv_room (Nat.le_of_ble_eq_true rfl)) dX3_canSight_3 ⟨Nat.le_of_ble_eq_true rfl, Nat.le_of_ble_eq_true rfl⟩) hw hA rp_75 (fun H locs hw => ?_)
  refine lv_if_eq (tgt := 17) hx hb dX3_canSight_6 (by decide) (fun q8 => absurd q8 (fun q7 => absurd ((d_in_n (n := w) (k := n_nw Hb) (by omega) (by omega)).symm.trans (bI_z q7)) (by decide))) (fun _ => ?_)
  refine lv_aload_n hx hb dX3_canSight_9 rfl (lv_at hl 0 rfl) ?_
  refine lv_iload_n hx hb dX3_canSight_10 rfl (lv_at hl 2 rfl) ?_
  refine kr_i (ws' := wN E M (th, Hb, a, k)) (va_runV (As := [.int (nI s)]) (rest := [.ref (M 0)]) ⟨hx, hb, hml, hown, hts⟩ (c_X3_isShip l E M th Hb a k (nI s)  _) (cwV 1 hts gX3_canSight_X3_isShip rfl rfl rfl ⟨rfl, hd_X3_isShip⟩ ⟨Nat.le_of_ble_eq_true rfl, Nat.le_of_ble_eq_true rfl⟩) (pwV (ci := 3) (q0 := 0) (C := RX3) hw hK rfl rfl rfl (rpS (AV := [.ref (M 0), .int (nI s)]) hw hK hG rp_75)) rfl rfl hl.1 rfl (lv_room (Nat.le_of_ble_eq_true rfl)) dX3_canSight_11 ⟨Nat.le_of_ble_eq_true rfl, Nat.le_of_ble_eq_true rfl⟩) hw hA rp_75 (fun H locs hw => ?_)
  refine lv_if_ne (tgt := 21) hx hb dX3_canSight_14 (by decide) (fun _ => ?_) (fun q8 => absurd q8 (fun q7 => absurd ((d_in_n (n := s) (k := n_ns Hb) (by omega) (by omega)).symm.trans (bI_z q7)) (by decide)))
  refine lv_aload_n hx hb dX3_canSight_21 rfl (lv_at hl 0 rfl) ?_
  refine lv_iload_n hx hb dX3_canSight_22 rfl (lv_at hl 2 rfl) ?_
  refine kr_i (ws' := wN E M (th, Hb, a, k)) (va_runV (As := [.int (nI s)]) (rest := [.ref (M 0)]) ⟨hx, hb, hml, hown, hts⟩ (c_X3_isOut l E M th Hb a k s (by omega) (by omega) (by omega) (h4) (by omega) _) (cwV 1 hts gX3_canSight_X3_isOut rfl rfl rfl ⟨rfl, hd_X3_isOut⟩ ⟨Nat.le_of_ble_eq_true rfl, Nat.le_of_ble_eq_true rfl⟩) (pwV (ci := 3) (q0 := 0) (C := RX3) hw hK rfl rfl rfl (rpS (AV := [.ref (M 0), .int (nI s)]) hw hK hG rp_75)) rfl rfl hl.1 rfl (lv_room (Nat.le_of_ble_eq_true rfl)) dX3_canSight_23 ⟨Nat.le_of_ble_eq_true rfl, Nat.le_of_ble_eq_true rfl⟩) hw hA rp_75 (fun H locs hw => ?_)
  refine lv_if_eq (tgt := 43) hx hb dX3_canSight_26 (by decide) (fun q8 => absurd q8 (fun q7 => absurd (ho.symm.trans (bI_z q7)) (by decide))) (fun _ => ?_)
  refine lv_aload_n hx hb dX3_canSight_29 rfl (lv_at hl 0 rfl) ?_
  refine k_get (ci := 3) (v := .ref (M 5)) (C := RX3) (T := TX3) (N := 10) hx hb hown hK hw hts hinX3 0 rfl rfl 8 (by decide) hf23 rfl dX3_canSight_30 ?_
  refine lv_iload_n hx hb dX3_canSight_33 rfl (lv_at hl 1 rfl) ?_
  refine lv_iload_n hx hb dX3_canSight_34 rfl (lv_at hl 2 rfl) ?_
  refine kr_i (ws' := wN E M (th, Hb, a, k)) (va_runS (As := [.int (nI w), .int (nI s)]) (rest := [.ref (M 5), .ref (M 0)]) ⟨hx, hb, hml, hown, hts⟩ (c_X3_sighting l E w s  _) (va_cwS 2 hts gX3_canSight_X3_sighting rfl rfl rfl hd_X3_sighting ⟨Nat.le_of_ble_eq_true rfl, Nat.le_of_ble_eq_true rfl⟩) (rpS (AV := [.int (nI w), .int (nI s)]) hw hK hG rp_74) rfl rfl hl.1 rfl (lv_room (Nat.le_of_ble_eq_true rfl)) dX3_canSight_35 ⟨Nat.le_of_ble_eq_true rfl, Nat.le_of_ble_eq_true rfl⟩) hw hA rp_74 (fun H locs hw => ?_)
  refine k_ildN (i := 54 + 5 * w + s) (f := a) hx hb hK hw 5 rfl (by omega) (by omega) dX3_canSight_38 ?_
  refine lv_iconst (v := (-1)) hx hb dX3_canSight_39 (by decide) ?_
  refine lv_icmp_eq (tgt := 47) hx hb dX3_canSight_40 (by decide) (fun q8 => absurd q8 hg) (fun _ => ?_)
  refine lv_iconst (v := 2) hx hb dX3_canSight_43 (by decide) ?_
  refine lv_goto (tgt := 48) hx hb dX3_canSight_44 (by decide) ?_
  refine k_put (ci := 3) (C := RX3) (T := TX3) (N := 10) (ws' := wN E M (2, Hb, a, k)) hx hb hown hK hw hts hinX3 tyX3 tyX3_ok nmX3 0 rfl rfl 0 (by decide) hf29 rfl rfl (Nat.le_of_ble_eq_true rfl) dX3_canSight_48 rfl (fun H locs hw => ?_)
  refine lv_aload_n hx hb dX3_canSight_51 rfl (lv_at hl 0 rfl) ?_
  refine k_get (ci := 3) (v := .int 2) (C := RX3) (T := TX3) (N := 10) hx hb hown hK hw hts hinX3 0 rfl rfl 0 (by decide) hf29 rfl dX3_canSight_52 ?_
  refine lv_if_ne (tgt := 62) hx hb dX3_canSight_55 (by decide) (fun _ => ?_) (fun q8 => absurd q8 (by decide))
  refine lv_iconst (v := 0) hx hb dX3_canSight_62 (by decide) ?_
  exact k_iret hx hb hr hlocks hK hw rfl dX3_canSight_63 (by first | rfl | assumption | (simp only [if_true, if_false, Bool.false_eq_true, Bool.true_eq_false, reduceIte, reduceCtorEq]; done) | (simp only [if_true, if_false, Bool.false_eq_true, Bool.true_eq_false, reduceIte, reduceCtorEq]; rfl) | (simp [if_true, if_false, Bool.false_eq_true, Bool.true_eq_false, reduceIte, reduceCtorEq]; done) | (simp [bI, ]; done)) rfl
set_option maxHeartbeats 4000000 in
set_option maxRecDepth 100000 in
theorem c_X3_canSight (l : Launch) (E : Ev) (M : Nat → Nat) (th : Int32) (Hb : MH) (a k : Fn) (w : Nat) (s : Nat) (h1 : n_ns Hb ≤ 5) (h2 : n_np Hb ≤ 16) (h3 : n_nw Hb ≤ 4) (h4 : ∀ p, p < n_np Hb → n_so Hb p < 5) (hv : w < n_nw Hb) (hs : s < n_ns Hb) (ho : d_out a s = true) (hg : a (54 + 5 * w + s) = -1) : MI l E yX3_canSight wsX3_canSight rm_X3_canSight [.ref (M 0), .int (nI w), .int (nI s)] (wN E M (th, Hb, a, k)) (bI true) (wN E M (0, Hb, a, k)) := by
  refine k_bI (cc := cX3_canSight) (maxL := 3) (ret := (some .boolean)) (by decide) rfl (Nat.le_of_ble_eq_true rfl) ?_
  intro p9 e s9 m args below meth c A9 ls hC hl hw
  obtain ⟨hx, hb, hml, hr, hown, hts, hlocks, hK, hG, hA⟩ := hC
  have hf23 := hts (.fieldLink RX3 23 "SailorCandlesModel" "now" "[I") (List.mem_of_getElem? (i := 1) rfl)
  have hinX3 : ∀ w ∈ wsX30, w ∈ wsX3_canSight := fun w h => List.mem_cons_of_mem _ (List.mem_append_right _ h)
  have hf29 := hts (.fieldLink RX3 29 "SailorCandlesModel" "thrown" "I") (List.mem_of_getElem? (i := 2) rfl)
  have hl : lv_has ls 3 [(0, .ref (M 0)), (1, .int (nI w)), (2, .int (nI s))] := hl
  refine lv_aload_n hx hb dX3_canSight_0 rfl (lv_at hl 0 rfl) ?_
  refine lv_aload_n hx hb dX3_canSight_1 rfl (lv_at hl 0 rfl) ?_
  refine lv_iload_n hx hb dX3_canSight_2 rfl (lv_at hl 1 rfl) ?_
  refine kr_i (ws' := wN E M (th, Hb, a, k)) (va_runV (As := [.int (nI w)]) (rest := [.ref (M 0)]) ⟨hx, hb, hml, hown, hts⟩ (c_X3_isWatcher l E M th Hb a k (nI w)  _) (cwV 1 hts gX3_canSight_X3_isWatcher rfl rfl rfl ⟨rfl, hd_X3_isWatcher⟩ ⟨Nat.le_of_ble_eq_true rfl, Nat.le_of_ble_eq_true rfl⟩) (pwV (ci := 3) (q0 := 0) (C := RX3) hw hK rfl rfl rfl (rpS (AV := [.ref (M 0), .int (nI w)]) hw hK hG rp_75)) rfl rfl hl.1 rfl (lv_room (Nat.le_of_ble_eq_true rfl)) dX3_canSight_3 ⟨Nat.le_of_ble_eq_true rfl, Nat.le_of_ble_eq_true rfl⟩) hw hA rp_75 (fun H locs hw => ?_)
  refine lv_if_eq (tgt := 17) hx hb dX3_canSight_6 (by decide) (fun q8 => absurd q8 (fun q7 => absurd ((d_in_n (n := w) (k := n_nw Hb) (by omega) (by omega)).symm.trans (bI_z q7)) (by decide))) (fun _ => ?_)
  refine lv_aload_n hx hb dX3_canSight_9 rfl (lv_at hl 0 rfl) ?_
  refine lv_iload_n hx hb dX3_canSight_10 rfl (lv_at hl 2 rfl) ?_
  refine kr_i (ws' := wN E M (th, Hb, a, k)) (va_runV (As := [.int (nI s)]) (rest := [.ref (M 0)]) ⟨hx, hb, hml, hown, hts⟩ (c_X3_isShip l E M th Hb a k (nI s)  _) (cwV 1 hts gX3_canSight_X3_isShip rfl rfl rfl ⟨rfl, hd_X3_isShip⟩ ⟨Nat.le_of_ble_eq_true rfl, Nat.le_of_ble_eq_true rfl⟩) (pwV (ci := 3) (q0 := 0) (C := RX3) hw hK rfl rfl rfl (rpS (AV := [.ref (M 0), .int (nI s)]) hw hK hG rp_75)) rfl rfl hl.1 rfl (lv_room (Nat.le_of_ble_eq_true rfl)) dX3_canSight_11 ⟨Nat.le_of_ble_eq_true rfl, Nat.le_of_ble_eq_true rfl⟩) hw hA rp_75 (fun H locs hw => ?_)
  refine lv_if_ne (tgt := 21) hx hb dX3_canSight_14 (by decide) (fun _ => ?_) (fun q8 => absurd q8 (fun q7 => absurd ((d_in_n (n := s) (k := n_ns Hb) (by omega) (by omega)).symm.trans (bI_z q7)) (by decide)))
  refine lv_aload_n hx hb dX3_canSight_21 rfl (lv_at hl 0 rfl) ?_
  refine lv_iload_n hx hb dX3_canSight_22 rfl (lv_at hl 2 rfl) ?_
  refine kr_i (ws' := wN E M (th, Hb, a, k)) (va_runV (As := [.int (nI s)]) (rest := [.ref (M 0)]) ⟨hx, hb, hml, hown, hts⟩ (c_X3_isOut l E M th Hb a k s (by omega) (by omega) (by omega) (h4) (by omega) _) (cwV 1 hts gX3_canSight_X3_isOut rfl rfl rfl ⟨rfl, hd_X3_isOut⟩ ⟨Nat.le_of_ble_eq_true rfl, Nat.le_of_ble_eq_true rfl⟩) (pwV (ci := 3) (q0 := 0) (C := RX3) hw hK rfl rfl rfl (rpS (AV := [.ref (M 0), .int (nI s)]) hw hK hG rp_75)) rfl rfl hl.1 rfl (lv_room (Nat.le_of_ble_eq_true rfl)) dX3_canSight_23 ⟨Nat.le_of_ble_eq_true rfl, Nat.le_of_ble_eq_true rfl⟩) hw hA rp_75 (fun H locs hw => ?_)
  refine lv_if_eq (tgt := 43) hx hb dX3_canSight_26 (by decide) (fun q8 => absurd q8 (fun q7 => absurd (ho.symm.trans (bI_z q7)) (by decide))) (fun _ => ?_)
  refine lv_aload_n hx hb dX3_canSight_29 rfl (lv_at hl 0 rfl) ?_
  refine k_get (ci := 3) (v := .ref (M 5)) (C := RX3) (T := TX3) (N := 10) hx hb hown hK hw hts hinX3 0 rfl rfl 8 (by decide) hf23 rfl dX3_canSight_30 ?_
  refine lv_iload_n hx hb dX3_canSight_33 rfl (lv_at hl 1 rfl) ?_
  refine lv_iload_n hx hb dX3_canSight_34 rfl (lv_at hl 2 rfl) ?_
  refine kr_i (ws' := wN E M (th, Hb, a, k)) (va_runS (As := [.int (nI w), .int (nI s)]) (rest := [.ref (M 5), .ref (M 0)]) ⟨hx, hb, hml, hown, hts⟩ (c_X3_sighting l E w s  _) (va_cwS 2 hts gX3_canSight_X3_sighting rfl rfl rfl hd_X3_sighting ⟨Nat.le_of_ble_eq_true rfl, Nat.le_of_ble_eq_true rfl⟩) (rpS (AV := [.int (nI w), .int (nI s)]) hw hK hG rp_74) rfl rfl hl.1 rfl (lv_room (Nat.le_of_ble_eq_true rfl)) dX3_canSight_35 ⟨Nat.le_of_ble_eq_true rfl, Nat.le_of_ble_eq_true rfl⟩) hw hA rp_74 (fun H locs hw => ?_)
  refine k_ildN (i := 54 + 5 * w + s) (f := a) hx hb hK hw 5 rfl (by omega) (by omega) dX3_canSight_38 ?_
  refine lv_iconst (v := (-1)) hx hb dX3_canSight_39 (by decide) ?_
  refine lv_icmp_eq (tgt := 47) hx hb dX3_canSight_40 (by decide) (fun _ => ?_) (fun q8 => absurd hg q8)
  refine lv_iconst (v := 0) hx hb dX3_canSight_47 (by decide) ?_
  refine k_put (ci := 3) (C := RX3) (T := TX3) (N := 10) (ws' := wN E M (0, Hb, a, k)) hx hb hown hK hw hts hinX3 tyX3 tyX3_ok nmX3 0 rfl rfl 0 (by decide) hf29 rfl rfl (Nat.le_of_ble_eq_true rfl) dX3_canSight_48 rfl (fun H locs hw => ?_)
  refine lv_aload_n hx hb dX3_canSight_51 rfl (lv_at hl 0 rfl) ?_
  refine k_get (ci := 3) (v := .int 0) (C := RX3) (T := TX3) (N := 10) hx hb hown hK hw hts hinX3 0 rfl rfl 0 (by decide) hf29 rfl dX3_canSight_52 ?_
  refine lv_if_ne (tgt := 62) hx hb dX3_canSight_55 (by decide) (fun q8 => absurd (by decide) q8) (fun _ => ?_)
  refine lv_iconst (v := 1) hx hb dX3_canSight_58 (by decide) ?_
  refine lv_goto (tgt := 63) hx hb dX3_canSight_59 (by decide) ?_
  exact k_iret hx hb hr hlocks hK hw rfl dX3_canSight_63 (by first | rfl | assumption | (simp only [if_true, if_false, Bool.false_eq_true, Bool.true_eq_false, reduceIte, reduceCtorEq]; done) | (simp only [if_true, if_false, Bool.false_eq_true, Bool.true_eq_false, reduceIte, reduceCtorEq]; rfl) | (simp [if_true, if_false, Bool.false_eq_true, Bool.true_eq_false, reduceIte, reduceCtorEq]; done) | (simp [bI, ]; done)) rfl
abbrev rm_X3_sightNow : Room := { frames := 2, cells := 0, slots := 0, locals := 44 }
set_option maxHeartbeats 4000000 in
set_option maxRecDepth 100000 in
theorem c_X3_sightNow (l : Launch) (E : Ev) (M : Nat → Nat) (th : Int32) (Hb : MH) (a k : Fn) (w : Nat) (s : Nat) (h1 : n_ns Hb ≤ 5) (h2 : n_np Hb ≤ 16) (h3 : n_nw Hb ≤ 4) (h4 : ∀ p, p < n_np Hb → n_so Hb p < 5) (hv : w < n_nw Hb) (hs : s < n_ns Hb) : MI l E yX3_sightNow wsX3_sightNow rm_X3_sightNow [.ref (M 0), .int (nI w), .int (nI s)] (wN E M (th, Hb, a, k)) (bI (r_sigB Hb a w s)) (wN E M (th, Hb, r_sig Hb a w s, k)) := by
  refine k_bI (cc := cX3_sightNow) (maxL := 3) (ret := (some .boolean)) (by decide) rfl (Nat.le_of_ble_eq_true rfl) ?_
  intro p9 e s9 m args below meth c A9 ls hC hl hw
  obtain ⟨hx, hb, hml, hr, hown, hts, hlocks, hK, hG, hA⟩ := hC
  have hf23 := hts (.fieldLink RX3 23 "SailorCandlesModel" "now" "[I") (List.mem_of_getElem? (i := 1) rfl)
  have hinX3 : ∀ w ∈ wsX30, w ∈ wsX3_sightNow := fun w h => List.mem_cons_of_mem _ (List.mem_append_right _ h)
  have hl : lv_has ls 3 [(0, .ref (M 0)), (1, .int (nI w)), (2, .int (nI s))] := hl
  refine lv_aload_n hx hb dX3_sightNow_0 rfl (lv_at hl 0 rfl) ?_
  refine k_get (ci := 3) (v := .ref (M 5)) (C := RX3) (T := TX3) (N := 10) hx hb hown hK hw hts hinX3 0 rfl rfl 8 (by decide) hf23 rfl dX3_sightNow_1 ?_
  refine lv_iload_n hx hb dX3_sightNow_4 rfl (lv_at hl 1 rfl) ?_
  refine lv_iload_n hx hb dX3_sightNow_5 rfl (lv_at hl 2 rfl) ?_
  refine kr_i (ws' := wN E M (th, Hb, a, k)) (va_runS (As := [.int (nI w), .int (nI s)]) (rest := [.ref (M 5)]) ⟨hx, hb, hml, hown, hts⟩ (c_X3_sighting l E w s  _) (va_cwS 2 hts gX3_sightNow_X3_sighting rfl rfl rfl hd_X3_sighting ⟨Nat.le_of_ble_eq_true rfl, Nat.le_of_ble_eq_true rfl⟩) (rpS (AV := [.int (nI w), .int (nI s)]) hw hK hG rp_74) rfl rfl hl.1 rfl (lv_room (Nat.le_of_ble_eq_true rfl)) dX3_sightNow_6 ⟨Nat.le_of_ble_eq_true rfl, Nat.le_of_ble_eq_true rfl⟩) hw hA rp_74 (fun H locs hw => ?_)
  refine lv_iconst (v := 0) hx hb dX3_sightNow_9 (by decide) ?_
  refine k_istN (i := 54 + 5 * w + s) (ws' := wN E M (th, Hb, upd a (54 + 5 * w + s) 0, k)) hx hb hK hw 5 rfl (by omega) (by omega) dX3_sightNow_10 rfl (fun H locs hw => ?_)
  refine lv_aload_n hx hb dX3_sightNow_11 rfl (lv_at hl 0 rfl) ?_
  refine lv_iload_n hx hb dX3_sightNow_12 rfl (lv_at hl 2 rfl) ?_
  refine kr_i (ws' := wN E M (th, Hb, upd a (54 + 5 * w + s) 0, k)) (va_runV (As := [.int (nI s)]) (rest := []) ⟨hx, hb, hml, hown, hts⟩ (c_X3_trust l E M th Hb (upd a (54 + 5 * w + s) 0) k s (by omega) (by omega) (by omega) (h4) (by omega) _) (cwV 1 hts gX3_sightNow_X3_trust rfl rfl rfl ⟨rfl, hd_X3_trust⟩ ⟨Nat.le_of_ble_eq_true rfl, Nat.le_of_ble_eq_true rfl⟩) (pwV (ci := 3) (q0 := 0) (C := RX3) hw hK rfl rfl rfl (rpS (AV := [.ref (M 0), .int (nI s)]) hw hK hG rp_75)) rfl rfl hl.1 rfl (lv_room (Nat.le_of_ble_eq_true rfl)) dX3_sightNow_13 ⟨Nat.le_of_ble_eq_true rfl, Nat.le_of_ble_eq_true rfl⟩) hw hA rp_75 (fun H locs hw => ?_)
  refine lv_bipush (v := 6) hx hb dX3_sightNow_16 (by decide) ?_
  refine lv_icmp_lt (tgt := 32) hx hb dX3_sightNow_18 (by decide) (fun c_1 => ?_) (fun c_1 => ?_)
  · refine lv_aload_n hx hb dX3_sightNow_32 rfl (lv_at hl 0 rfl) ?_
    refine k_get (ci := 3) (v := .ref (M 5)) (C := RX3) (T := TX3) (N := 10) hx hb hown hK hw hts hinX3 0 rfl rfl 8 (by decide) hf23 rfl dX3_sightNow_33 ?_
    refine lv_iload_n hx hb dX3_sightNow_36 rfl (lv_at hl 2 rfl) ?_
    refine lv_iconst (v := 2) hx hb dX3_sightNow_37 (by decide) ?_
    refine kr_i (ws' := wN E M (th, Hb, upd a (54 + 5 * w + s) 0, k)) (va_runS (As := [.int (nI s), .int 2]) (rest := [.ref (M 5)]) ⟨hx, hb, hml, hown, hts⟩ (c_X3_ship l E s 2  _) (va_cwS 2 hts gX3_sightNow_X3_ship rfl rfl rfl hd_X3_ship ⟨Nat.le_of_ble_eq_true rfl, Nat.le_of_ble_eq_true rfl⟩) (rpS (AV := [.int (nI s), .int 2]) hw hK hG rp_74) rfl rfl hl.1 rfl (lv_room (Nat.le_of_ble_eq_true rfl)) dX3_sightNow_38 ⟨Nat.le_of_ble_eq_true rfl, Nat.le_of_ble_eq_true rfl⟩) hw hA rp_74 (fun H locs hw => ?_)
    refine k_ildN (i := 3 + 3 * s + 2) (f := upd a (54 + 5 * w + s) 0) hx hb hK hw 5 rfl (by omega) (by omega) dX3_sightNow_41 ?_
    refine lv_iconst (v := 1) hx hb dX3_sightNow_42 (by decide) ?_
    refine lv_icmp_ne (tgt := 50) hx hb dX3_sightNow_43 (by decide) (fun c_2 => ?_) (fun c_2 => ?_)
    · refine lv_iconst (v := 0) hx hb dX3_sightNow_50 (by decide) ?_
      exact k_iret hx hb hr hlocks hK hw rfl dX3_sightNow_51 (by first | assumption | (simp only [r_sig, r_sigB, bI_t, bI_f, if_pos c_1, if_neg c_2, if_true, if_false, Bool.false_eq_true, Bool.true_eq_false, reduceIte, reduceCtorEq]; done) | (simp only [r_sig, r_sigB, bI_t, bI_f, if_pos c_1, if_neg c_2, if_true, if_false, Bool.false_eq_true, Bool.true_eq_false, reduceIte, reduceCtorEq]; rfl) | rfl | (simp [r_sig, r_sigB, bI_t, bI_f, if_pos c_1, if_neg c_2, if_true, if_false, Bool.false_eq_true, Bool.true_eq_false, reduceIte, reduceCtorEq]; done) | (simp [bI, r_sig, r_sigB, bI_t, bI_f, c_1, c_2]; done)) (by first | assumption | (simp only [r_sig, r_sigB, bI_t, bI_f, if_pos c_1, if_neg c_2, if_true, if_false, Bool.false_eq_true, Bool.true_eq_false, reduceIte, reduceCtorEq]; done) | (simp only [r_sig, r_sigB, bI_t, bI_f, if_pos c_1, if_neg c_2, if_true, if_false, Bool.false_eq_true, Bool.true_eq_false, reduceIte, reduceCtorEq]; rfl) | rfl | (simp [r_sig, r_sigB, bI_t, bI_f, if_pos c_1, if_neg c_2, if_true, if_false, Bool.false_eq_true, Bool.true_eq_false, reduceIte, reduceCtorEq]; done) | (simp [bI, r_sig, r_sigB, bI_t, bI_f, c_1, c_2]; done))
    · refine lv_iconst (v := 1) hx hb dX3_sightNow_46 (by decide) ?_
      refine lv_goto (tgt := 51) hx hb dX3_sightNow_47 (by decide) ?_
      exact k_iret hx hb hr hlocks hK hw rfl dX3_sightNow_51 (by first | assumption | (simp only [r_sig, r_sigB, bI_t, bI_f, if_pos c_1, if_pos c_2, if_true, if_false, Bool.false_eq_true, Bool.true_eq_false, reduceIte, reduceCtorEq]; done) | (simp only [r_sig, r_sigB, bI_t, bI_f, if_pos c_1, if_pos c_2, if_true, if_false, Bool.false_eq_true, Bool.true_eq_false, reduceIte, reduceCtorEq]; rfl) | rfl | (simp [r_sig, r_sigB, bI_t, bI_f, if_pos c_1, if_pos c_2, if_true, if_false, Bool.false_eq_true, Bool.true_eq_false, reduceIte, reduceCtorEq]; done) | (simp [bI, r_sig, r_sigB, bI_t, bI_f, c_1, c_2]; done)) (by first | assumption | (simp only [r_sig, r_sigB, bI_t, bI_f, if_pos c_1, if_pos c_2, if_true, if_false, Bool.false_eq_true, Bool.true_eq_false, reduceIte, reduceCtorEq]; done) | (simp only [r_sig, r_sigB, bI_t, bI_f, if_pos c_1, if_pos c_2, if_true, if_false, Bool.false_eq_true, Bool.true_eq_false, reduceIte, reduceCtorEq]; rfl) | rfl | (simp [r_sig, r_sigB, bI_t, bI_f, if_pos c_1, if_pos c_2, if_true, if_false, Bool.false_eq_true, Bool.true_eq_false, reduceIte, reduceCtorEq]; done) | (simp [bI, r_sig, r_sigB, bI_t, bI_f, c_1, c_2]; done))
  · refine lv_aload_n hx hb dX3_sightNow_21 rfl (lv_at hl 0 rfl) ?_
    refine k_get (ci := 3) (v := .ref (M 5)) (C := RX3) (T := TX3) (N := 10) hx hb hown hK hw hts hinX3 0 rfl rfl 8 (by decide) hf23 rfl dX3_sightNow_22 ?_
    refine lv_iload_n hx hb dX3_sightNow_25 rfl (lv_at hl 2 rfl) ?_
    refine lv_iconst (v := 2) hx hb dX3_sightNow_26 (by decide) ?_
    refine kr_i (ws' := wN E M (th, Hb, upd a (54 + 5 * w + s) 0, k)) (va_runS (As := [.int (nI s), .int 2]) (rest := [.ref (M 5)]) ⟨hx, hb, hml, hown, hts⟩ (c_X3_ship l E s 2  _) (va_cwS 2 hts gX3_sightNow_X3_ship rfl rfl rfl hd_X3_ship ⟨Nat.le_of_ble_eq_true rfl, Nat.le_of_ble_eq_true rfl⟩) (rpS (AV := [.int (nI s), .int 2]) hw hK hG rp_74) rfl rfl hl.1 rfl (lv_room (Nat.le_of_ble_eq_true rfl)) dX3_sightNow_27 ⟨Nat.le_of_ble_eq_true rfl, Nat.le_of_ble_eq_true rfl⟩) hw hA rp_74 (fun H locs hw => ?_)
    refine lv_iconst (v := 1) hx hb dX3_sightNow_30 (by decide) ?_
    refine k_istN (i := 3 + 3 * s + 2) (ws' := wN E M (th, Hb, upd (upd a (54 + 5 * w + s) 0) (3 + 3 * s + 2) 1, k)) hx hb hK hw 5 rfl (by omega) (by omega) dX3_sightNow_31 rfl (fun H locs hw => ?_)
    refine lv_aload_n hx hb dX3_sightNow_32 rfl (lv_at hl 0 rfl) ?_
    refine k_get (ci := 3) (v := .ref (M 5)) (C := RX3) (T := TX3) (N := 10) hx hb hown hK hw hts hinX3 0 rfl rfl 8 (by decide) hf23 rfl dX3_sightNow_33 ?_
    refine lv_iload_n hx hb dX3_sightNow_36 rfl (lv_at hl 2 rfl) ?_
    refine lv_iconst (v := 2) hx hb dX3_sightNow_37 (by decide) ?_
    refine kr_i (ws' := wN E M (th, Hb, upd (upd a (54 + 5 * w + s) 0) (3 + 3 * s + 2) 1, k)) (va_runS (As := [.int (nI s), .int 2]) (rest := [.ref (M 5)]) ⟨hx, hb, hml, hown, hts⟩ (c_X3_ship l E s 2  _) (va_cwS 2 hts gX3_sightNow_X3_ship rfl rfl rfl hd_X3_ship ⟨Nat.le_of_ble_eq_true rfl, Nat.le_of_ble_eq_true rfl⟩) (rpS (AV := [.int (nI s), .int 2]) hw hK hG rp_74) rfl rfl hl.1 rfl (lv_room (Nat.le_of_ble_eq_true rfl)) dX3_sightNow_38 ⟨Nat.le_of_ble_eq_true rfl, Nat.le_of_ble_eq_true rfl⟩) hw hA rp_74 (fun H locs hw => ?_)
    refine k_ildN (i := 3 + 3 * s + 2) (f := upd (upd a (54 + 5 * w + s) 0) (3 + 3 * s + 2) 1) hx hb hK hw 5 rfl (by omega) (by omega) dX3_sightNow_41 ?_
    refine lv_iconst (v := 1) hx hb dX3_sightNow_42 (by decide) ?_
    refine lv_icmp_ne (tgt := 50) hx hb dX3_sightNow_43 (by decide) (fun c_3 => ?_) (fun c_3 => ?_)
    · refine lv_iconst (v := 0) hx hb dX3_sightNow_50 (by decide) ?_
      exact k_iret hx hb hr hlocks hK hw rfl dX3_sightNow_51 (by first | assumption | (simp only [r_sig, r_sigB, bI_t, bI_f, if_neg c_1, if_neg c_3, if_true, if_false, Bool.false_eq_true, Bool.true_eq_false, reduceIte, reduceCtorEq]; done) | (simp only [r_sig, r_sigB, bI_t, bI_f, if_neg c_1, if_neg c_3, if_true, if_false, Bool.false_eq_true, Bool.true_eq_false, reduceIte, reduceCtorEq]; rfl) | rfl | (simp [r_sig, r_sigB, bI_t, bI_f, if_neg c_1, if_neg c_3, if_true, if_false, Bool.false_eq_true, Bool.true_eq_false, reduceIte, reduceCtorEq]; done) | (simp [bI, r_sig, r_sigB, bI_t, bI_f, c_1, c_3]; done)) (by first | assumption | (simp only [r_sig, r_sigB, bI_t, bI_f, if_neg c_1, if_neg c_3, if_true, if_false, Bool.false_eq_true, Bool.true_eq_false, reduceIte, reduceCtorEq]; done) | (simp only [r_sig, r_sigB, bI_t, bI_f, if_neg c_1, if_neg c_3, if_true, if_false, Bool.false_eq_true, Bool.true_eq_false, reduceIte, reduceCtorEq]; rfl) | rfl | (simp [r_sig, r_sigB, bI_t, bI_f, if_neg c_1, if_neg c_3, if_true, if_false, Bool.false_eq_true, Bool.true_eq_false, reduceIte, reduceCtorEq]; done) | (simp [bI, r_sig, r_sigB, bI_t, bI_f, c_1, c_3]; done))
    · refine lv_iconst (v := 1) hx hb dX3_sightNow_46 (by decide) ?_
      refine lv_goto (tgt := 51) hx hb dX3_sightNow_47 (by decide) ?_
      exact k_iret hx hb hr hlocks hK hw rfl dX3_sightNow_51 (by first | assumption | (simp only [r_sig, r_sigB, bI_t, bI_f, if_neg c_1, if_pos c_3, if_true, if_false, Bool.false_eq_true, Bool.true_eq_false, reduceIte, reduceCtorEq]; done) | (simp only [r_sig, r_sigB, bI_t, bI_f, if_neg c_1, if_pos c_3, if_true, if_false, Bool.false_eq_true, Bool.true_eq_false, reduceIte, reduceCtorEq]; rfl) | rfl | (simp [r_sig, r_sigB, bI_t, bI_f, if_neg c_1, if_pos c_3, if_true, if_false, Bool.false_eq_true, Bool.true_eq_false, reduceIte, reduceCtorEq]; done) | (simp [bI, r_sig, r_sigB, bI_t, bI_f, c_1, c_3]; done)) (by first | assumption | (simp only [r_sig, r_sigB, bI_t, bI_f, if_neg c_1, if_pos c_3, if_true, if_false, Bool.false_eq_true, Bool.true_eq_false, reduceIte, reduceCtorEq]; done) | (simp only [r_sig, r_sigB, bI_t, bI_f, if_neg c_1, if_pos c_3, if_true, if_false, Bool.false_eq_true, Bool.true_eq_false, reduceIte, reduceCtorEq]; rfl) | rfl | (simp [r_sig, r_sigB, bI_t, bI_f, if_neg c_1, if_pos c_3, if_true, if_false, Bool.false_eq_true, Bool.true_eq_false, reduceIte, reduceCtorEq]; done) | (simp [bI, r_sig, r_sigB, bI_t, bI_f, c_1, c_3]; done))
abbrev rm_X3_sight : Room := { frames := 3, cells := 0, slots := 0, locals := 66 }
set_option maxHeartbeats 4000000 in
set_option maxRecDepth 100000 in
theorem c_X3_sight_1 (l : Launch) (E : Ev) (M : Nat → Nat) (th : Int32) (Hb : MH) (a k : Fn) (w : Int32) (s : Int32) (h1 : n_ns Hb ≤ 5) (h2 : n_np Hb ≤ 16) (h3 : n_nw Hb ≤ 4) (h4 : ∀ p, p < n_np Hb → n_so Hb p < 5) (hd_nw : d_in w 0 (nI (n_nw Hb) - 1) = false) : MI l E yX3_sight wsX3_sight rm_X3_sight [.ref (M 0), .int w, .int s] (wN E M (th, Hb, a, k)) (bI false) (wN E M (1, Hb, a, k)) := by
  refine k_bI (cc := cX3_sight) (maxL := 3) (ret := (some .boolean)) (by decide) rfl (Nat.le_of_ble_eq_true rfl) ?_
  intro p9 e s9 m args below meth c A9 ls hC hl hw
  obtain ⟨hx, hb, hml, hr, hown, hts, hlocks, hK, hG, hA⟩ := hC
  have hl : lv_has ls 3 [(0, .ref (M 0)), (1, .int w), (2, .int s)] := hl
  refine lv_aload_n hx hb dX3_sight_0 rfl (lv_at hl 0 rfl) ?_
  refine lv_iload_n hx hb dX3_sight_1 rfl (lv_at hl 1 rfl) ?_
  refine lv_iload_n hx hb dX3_sight_2 rfl (lv_at hl 2 rfl) ?_
  refine kr_i (ws' := wN E M (1, Hb, a, k)) (va_runV (As := [.int w, .int s]) (rest := []) ⟨hx, hb, hml, hown, hts⟩ (c_X3_canSight_1 l E M th Hb a k w s (by omega) (by omega) (by omega) (h4) (by omega) _) (cwV 2 hts gX3_sight_X3_canSight rfl rfl rfl ⟨rfl, hd_X3_canSight⟩ ⟨Nat.le_of_ble_eq_true rfl, Nat.le_of_ble_eq_true rfl⟩) (pwV (ci := 3) (q0 := 0) (C := RX3) hw hK rfl rfl rfl (rpS (AV := [.ref (M 0), .int w, .int s]) hw hK hG rp_75)) rfl rfl hl.1 rfl (lv_room (Nat.le_of_ble_eq_true rfl)) dX3_sight_3 ⟨Nat.le_of_ble_eq_true rfl, Nat.le_of_ble_eq_true rfl⟩) hw hA rp_76 (fun H locs hw => ?_)
  refine lv_if_eq (tgt := 22) hx hb dX3_sight_6 (by decide) (fun _ => ?_) (fun q8 => absurd (by rw [(rfl : false = false)]; rfl) q8)
  refine lv_iconst (v := 0) hx hb dX3_sight_22 (by decide) ?_
  exact k_iret hx hb hr hlocks hK hw rfl dX3_sight_23 (by first | rfl | assumption | (simp only [if_true, if_false, Bool.false_eq_true, Bool.true_eq_false, reduceIte, reduceCtorEq]; done) | (simp only [if_true, if_false, Bool.false_eq_true, Bool.true_eq_false, reduceIte, reduceCtorEq]; rfl) | (simp [if_true, if_false, Bool.false_eq_true, Bool.true_eq_false, reduceIte, reduceCtorEq]; done) | (simp [bI, ]; done)) rfl
set_option maxHeartbeats 4000000 in
set_option maxRecDepth 100000 in
theorem c_X3_sight_1b (l : Launch) (E : Ev) (M : Nat → Nat) (th : Int32) (Hb : MH) (a k : Fn) (w : Nat) (s : Int32) (h1 : n_ns Hb ≤ 5) (h2 : n_np Hb ≤ 16) (h3 : n_nw Hb ≤ 4) (h4 : ∀ p, p < n_np Hb → n_so Hb p < 5) (hv : w < n_nw Hb) (hd_ns : d_in s 0 (nI (n_ns Hb) - 1) = false) : MI l E yX3_sight wsX3_sight rm_X3_sight [.ref (M 0), .int (nI w), .int s] (wN E M (th, Hb, a, k)) (bI false) (wN E M (1, Hb, a, k)) := by
  refine k_bI (cc := cX3_sight) (maxL := 3) (ret := (some .boolean)) (by decide) rfl (Nat.le_of_ble_eq_true rfl) ?_
  intro p9 e s9 m args below meth c A9 ls hC hl hw
  obtain ⟨hx, hb, hml, hr, hown, hts, hlocks, hK, hG, hA⟩ := hC
  have hl : lv_has ls 3 [(0, .ref (M 0)), (1, .int (nI w)), (2, .int s)] := hl
  refine lv_aload_n hx hb dX3_sight_0 rfl (lv_at hl 0 rfl) ?_
  refine lv_iload_n hx hb dX3_sight_1 rfl (lv_at hl 1 rfl) ?_
  refine lv_iload_n hx hb dX3_sight_2 rfl (lv_at hl 2 rfl) ?_
  refine kr_i (ws' := wN E M (1, Hb, a, k)) (va_runV (As := [.int (nI w), .int s]) (rest := []) ⟨hx, hb, hml, hown, hts⟩ (c_X3_canSight_1b l E M th Hb a k w s (by omega) (by omega) (by omega) (h4) (by omega) (by omega) _) (cwV 2 hts gX3_sight_X3_canSight rfl rfl rfl ⟨rfl, hd_X3_canSight⟩ ⟨Nat.le_of_ble_eq_true rfl, Nat.le_of_ble_eq_true rfl⟩) (pwV (ci := 3) (q0 := 0) (C := RX3) hw hK rfl rfl rfl (rpS (AV := [.ref (M 0), .int (nI w), .int s]) hw hK hG rp_75)) rfl rfl hl.1 rfl (lv_room (Nat.le_of_ble_eq_true rfl)) dX3_sight_3 ⟨Nat.le_of_ble_eq_true rfl, Nat.le_of_ble_eq_true rfl⟩) hw hA rp_76 (fun H locs hw => ?_)
  refine lv_if_eq (tgt := 22) hx hb dX3_sight_6 (by decide) (fun _ => ?_) (fun q8 => absurd (by rw [(rfl : false = false)]; rfl) q8)
  refine lv_iconst (v := 0) hx hb dX3_sight_22 (by decide) ?_
  exact k_iret hx hb hr hlocks hK hw rfl dX3_sight_23 (by first | rfl | assumption | (simp only [if_true, if_false, Bool.false_eq_true, Bool.true_eq_false, reduceIte, reduceCtorEq]; done) | (simp only [if_true, if_false, Bool.false_eq_true, Bool.true_eq_false, reduceIte, reduceCtorEq]; rfl) | (simp [if_true, if_false, Bool.false_eq_true, Bool.true_eq_false, reduceIte, reduceCtorEq]; done) | (simp [bI, ]; done)) rfl
set_option maxHeartbeats 4000000 in
set_option maxRecDepth 100000 in
theorem c_X3_sight_2 (l : Launch) (E : Ev) (M : Nat → Nat) (th : Int32) (Hb : MH) (a k : Fn) (w : Nat) (s : Nat) (h1 : n_ns Hb ≤ 5) (h2 : n_np Hb ≤ 16) (h3 : n_nw Hb ≤ 4) (h4 : ∀ p, p < n_np Hb → n_so Hb p < 5) (hv : w < n_nw Hb) (hs : s < n_ns Hb) (ho : d_out a s = false) : MI l E yX3_sight wsX3_sight rm_X3_sight [.ref (M 0), .int (nI w), .int (nI s)] (wN E M (th, Hb, a, k)) (bI false) (wN E M (2, Hb, a, k)) := by
  refine k_bI (cc := cX3_sight) (maxL := 3) (ret := (some .boolean)) (by decide) rfl (Nat.le_of_ble_eq_true rfl) ?_
  intro p9 e s9 m args below meth c A9 ls hC hl hw
  obtain ⟨hx, hb, hml, hr, hown, hts, hlocks, hK, hG, hA⟩ := hC
  have hl : lv_has ls 3 [(0, .ref (M 0)), (1, .int (nI w)), (2, .int (nI s))] := hl
  refine lv_aload_n hx hb dX3_sight_0 rfl (lv_at hl 0 rfl) ?_
  refine lv_iload_n hx hb dX3_sight_1 rfl (lv_at hl 1 rfl) ?_
  refine lv_iload_n hx hb dX3_sight_2 rfl (lv_at hl 2 rfl) ?_
  refine kr_i (ws' := wN E M (2, Hb, a, k)) (va_runV (As := [.int (nI w), .int (nI s)]) (rest := []) ⟨hx, hb, hml, hown, hts⟩ (c_X3_canSight_2 l E M th Hb a k w s (by omega) (by omega) (by omega) (h4) (by omega) (by omega) (by omega) _) (cwV 2 hts gX3_sight_X3_canSight rfl rfl rfl ⟨rfl, hd_X3_canSight⟩ ⟨Nat.le_of_ble_eq_true rfl, Nat.le_of_ble_eq_true rfl⟩) (pwV (ci := 3) (q0 := 0) (C := RX3) hw hK rfl rfl rfl (rpS (AV := [.ref (M 0), .int (nI w), .int (nI s)]) hw hK hG rp_75)) rfl rfl hl.1 rfl (lv_room (Nat.le_of_ble_eq_true rfl)) dX3_sight_3 ⟨Nat.le_of_ble_eq_true rfl, Nat.le_of_ble_eq_true rfl⟩) hw hA rp_76 (fun H locs hw => ?_)
  refine lv_if_eq (tgt := 22) hx hb dX3_sight_6 (by decide) (fun _ => ?_) (fun q8 => absurd (by rw [(rfl : false = false)]; rfl) q8)
  refine lv_iconst (v := 0) hx hb dX3_sight_22 (by decide) ?_
  exact k_iret hx hb hr hlocks hK hw rfl dX3_sight_23 (by first | rfl | assumption | (simp only [if_true, if_false, Bool.false_eq_true, Bool.true_eq_false, reduceIte, reduceCtorEq]; done) | (simp only [if_true, if_false, Bool.false_eq_true, Bool.true_eq_false, reduceIte, reduceCtorEq]; rfl) | (simp [if_true, if_false, Bool.false_eq_true, Bool.true_eq_false, reduceIte, reduceCtorEq]; done) | (simp [bI, ]; done)) rfl
set_option maxHeartbeats 4000000 in
set_option maxRecDepth 100000 in
theorem c_X3_sight_2b (l : Launch) (E : Ev) (M : Nat → Nat) (th : Int32) (Hb : MH) (a k : Fn) (w : Nat) (s : Nat) (h1 : n_ns Hb ≤ 5) (h2 : n_np Hb ≤ 16) (h3 : n_nw Hb ≤ 4) (h4 : ∀ p, p < n_np Hb → n_so Hb p < 5) (hv : w < n_nw Hb) (hs : s < n_ns Hb) (ho : d_out a s = true) (hg : ¬ a (54 + 5 * w + s) = -1) : MI l E yX3_sight wsX3_sight rm_X3_sight [.ref (M 0), .int (nI w), .int (nI s)] (wN E M (th, Hb, a, k)) (bI false) (wN E M (2, Hb, a, k)) := by
  refine k_bI (cc := cX3_sight) (maxL := 3) (ret := (some .boolean)) (by decide) rfl (Nat.le_of_ble_eq_true rfl) ?_
  intro p9 e s9 m args below meth c A9 ls hC hl hw
  obtain ⟨hx, hb, hml, hr, hown, hts, hlocks, hK, hG, hA⟩ := hC
  have hl : lv_has ls 3 [(0, .ref (M 0)), (1, .int (nI w)), (2, .int (nI s))] := hl
  refine lv_aload_n hx hb dX3_sight_0 rfl (lv_at hl 0 rfl) ?_
  refine lv_iload_n hx hb dX3_sight_1 rfl (lv_at hl 1 rfl) ?_
  refine lv_iload_n hx hb dX3_sight_2 rfl (lv_at hl 2 rfl) ?_
  refine kr_i (ws' := wN E M (2, Hb, a, k)) (va_runV (As := [.int (nI w), .int (nI s)]) (rest := []) ⟨hx, hb, hml, hown, hts⟩ (c_X3_canSight_2b l E M th Hb a k w s (by omega) (by omega) (by omega) (h4) (by omega) (by omega) (by omega) (by omega) _) (cwV 2 hts gX3_sight_X3_canSight rfl rfl rfl ⟨rfl, hd_X3_canSight⟩ ⟨Nat.le_of_ble_eq_true rfl, Nat.le_of_ble_eq_true rfl⟩) (pwV (ci := 3) (q0 := 0) (C := RX3) hw hK rfl rfl rfl (rpS (AV := [.ref (M 0), .int (nI w), .int (nI s)]) hw hK hG rp_75)) rfl rfl hl.1 rfl (lv_room (Nat.le_of_ble_eq_true rfl)) dX3_sight_3 ⟨Nat.le_of_ble_eq_true rfl, Nat.le_of_ble_eq_true rfl⟩) hw hA rp_76 (fun H locs hw => ?_)
  refine lv_if_eq (tgt := 22) hx hb dX3_sight_6 (by decide) (fun _ => ?_) (fun q8 => absurd (by rw [(rfl : false = false)]; rfl) q8)
  refine lv_iconst (v := 0) hx hb dX3_sight_22 (by decide) ?_
  exact k_iret hx hb hr hlocks hK hw rfl dX3_sight_23 (by first | rfl | assumption | (simp only [if_true, if_false, Bool.false_eq_true, Bool.true_eq_false, reduceIte, reduceCtorEq]; done) | (simp only [if_true, if_false, Bool.false_eq_true, Bool.true_eq_false, reduceIte, reduceCtorEq]; rfl) | (simp [if_true, if_false, Bool.false_eq_true, Bool.true_eq_false, reduceIte, reduceCtorEq]; done) | (simp [bI, ]; done)) rfl
set_option maxHeartbeats 4000000 in
set_option maxRecDepth 100000 in
theorem c_X3_sight (l : Launch) (E : Ev) (M : Nat → Nat) (th : Int32) (Hb : MH) (a k : Fn) (w : Nat) (s : Nat) (h1 : n_ns Hb ≤ 5) (h2 : n_np Hb ≤ 16) (h3 : n_nw Hb ≤ 4) (h4 : ∀ p, p < n_np Hb → n_so Hb p < 5) (hv : w < n_nw Hb) (hs : s < n_ns Hb) (ho : d_out a s = true) (hg : a (54 + 5 * w + s) = -1) : MI l E yX3_sight wsX3_sight rm_X3_sight [.ref (M 0), .int (nI w), .int (nI s)] (wN E M (th, Hb, a, k)) (bI (r_sigB Hb a w s)) (wN E M (0, Hb, r_sig Hb a w s, k)) := by
  refine k_bI (cc := cX3_sight) (maxL := 3) (ret := (some .boolean)) (by decide) rfl (Nat.le_of_ble_eq_true rfl) ?_
  intro p9 e s9 m args below meth c A9 ls hC hl hw
  obtain ⟨hx, hb, hml, hr, hown, hts, hlocks, hK, hG, hA⟩ := hC
  have hl : lv_has ls 3 [(0, .ref (M 0)), (1, .int (nI w)), (2, .int (nI s))] := hl
  refine lv_aload_n hx hb dX3_sight_0 rfl (lv_at hl 0 rfl) ?_
  refine lv_iload_n hx hb dX3_sight_1 rfl (lv_at hl 1 rfl) ?_
  refine lv_iload_n hx hb dX3_sight_2 rfl (lv_at hl 2 rfl) ?_
  refine kr_i (ws' := wN E M (0, Hb, a, k)) (va_runV (As := [.int (nI w), .int (nI s)]) (rest := []) ⟨hx, hb, hml, hown, hts⟩ (c_X3_canSight l E M th Hb a k w s (by omega) (by omega) (by omega) (h4) (by omega) (by omega) (by omega) (by omega) _) (cwV 2 hts gX3_sight_X3_canSight rfl rfl rfl ⟨rfl, hd_X3_canSight⟩ ⟨Nat.le_of_ble_eq_true rfl, Nat.le_of_ble_eq_true rfl⟩) (pwV (ci := 3) (q0 := 0) (C := RX3) hw hK rfl rfl rfl (rpS (AV := [.ref (M 0), .int (nI w), .int (nI s)]) hw hK hG rp_75)) rfl rfl hl.1 rfl (lv_room (Nat.le_of_ble_eq_true rfl)) dX3_sight_3 ⟨Nat.le_of_ble_eq_true rfl, Nat.le_of_ble_eq_true rfl⟩) hw hA rp_76 (fun H locs hw => ?_)
  refine lv_if_eq (tgt := 22) hx hb dX3_sight_6 (by decide) (fun q8 => absurd q8 (fun q7 => absurd ((rfl : true = true).symm.trans (bI_z q7)) (by decide))) (fun _ => ?_)
  refine lv_aload_n hx hb dX3_sight_9 rfl (lv_at hl 0 rfl) ?_
  refine lv_iload_n hx hb dX3_sight_10 rfl (lv_at hl 1 rfl) ?_
  refine lv_iload_n hx hb dX3_sight_11 rfl (lv_at hl 2 rfl) ?_
  refine kr_i (ws' := wN E M (0, Hb, r_sig Hb a w s, k)) (va_runV (As := [.int (nI w), .int (nI s)]) (rest := []) ⟨hx, hb, hml, hown, hts⟩ (c_X3_sightNow l E M 0 Hb a k w s (by omega) (by omega) (by omega) (h4) (by omega) (by omega) _) (cwV 2 hts gX3_sight_X3_sightNow rfl rfl rfl ⟨rfl, hd_X3_sightNow⟩ ⟨Nat.le_of_ble_eq_true rfl, Nat.le_of_ble_eq_true rfl⟩) (pwV (ci := 3) (q0 := 0) (C := RX3) hw hK rfl rfl rfl (rpS (AV := [.ref (M 0), .int (nI w), .int (nI s)]) hw hK hG rp_75)) rfl rfl hl.1 rfl (lv_room (Nat.le_of_ble_eq_true rfl)) dX3_sight_12 ⟨Nat.le_of_ble_eq_true rfl, Nat.le_of_ble_eq_true rfl⟩) hw hA rp_76 (fun H locs hw => ?_)
  refine lv_if_eq (tgt := 22) hx hb dX3_sight_15 (by decide) (fun c_1 => ?_) (fun c_1 => ?_)
  · have c_1 := bI_z c_1
    refine lv_iconst (v := 0) hx hb dX3_sight_22 (by decide) ?_
    exact k_iret hx hb hr hlocks hK hw rfl dX3_sight_23 (by first | assumption | (simp only [bI_t, bI_f, c_1, if_true, if_false, Bool.false_eq_true, Bool.true_eq_false, reduceIte, reduceCtorEq]; done) | (simp only [bI_t, bI_f, c_1, if_true, if_false, Bool.false_eq_true, Bool.true_eq_false, reduceIte, reduceCtorEq]; rfl) | rfl | (simp [bI_t, bI_f, c_1, if_true, if_false, Bool.false_eq_true, Bool.true_eq_false, reduceIte, reduceCtorEq]; done) | (simp [bI, bI_t, bI_f, c_1]; done)) rfl
  · have c_1 := bI_nz c_1
    refine lv_iconst (v := 1) hx hb dX3_sight_18 (by decide) ?_
    refine lv_goto (tgt := 23) hx hb dX3_sight_19 (by decide) ?_
    exact k_iret hx hb hr hlocks hK hw rfl dX3_sight_23 (by first | assumption | (simp only [bI_t, bI_f, c_1, if_true, if_false, Bool.false_eq_true, Bool.true_eq_false, reduceIte, reduceCtorEq]; done) | (simp only [bI_t, bI_f, c_1, if_true, if_false, Bool.false_eq_true, Bool.true_eq_false, reduceIte, reduceCtorEq]; rfl) | rfl | (simp [bI_t, bI_f, c_1, if_true, if_false, Bool.false_eq_true, Bool.true_eq_false, reduceIte, reduceCtorEq]; done) | (simp [bI, bI_t, bI_f, c_1]; done)) rfl
