abbrev rm_X3_ok : Room := { frames := 0, cells := 0, slots := 0, locals := 0 }
set_option maxHeartbeats 4000000 in
set_option maxRecDepth 100000 in
theorem c_X3_ok (l : Launch) (E : Ev) (M : Nat → Nat) (th : Int32) (Hb : MH) (a k : Fn) (x : Int32) : MI l E yX3_ok wsX3_ok rm_X3_ok [.ref (M 0), .int x] (wN E M (th, Hb, a, k)) x (wN E M (0, Hb, a, k)) := by
  refine k_bI (cc := cX3_ok) (maxL := 2) (ret := (some .int)) (by decide) rfl (Nat.le_of_ble_eq_true rfl) ?_
  intro p9 e s9 m args below meth c A9 ls hC hl hw
  obtain ⟨hx, hb, hml, hr, hown, hts, hlocks, hK, hG, hA⟩ := hC
  have hf29 := hts (.fieldLink RX3 29 "SailorCandlesModel" "thrown" "I") (List.mem_of_getElem? (i := 1) rfl)
  have hinX3 : ∀ w ∈ wsX30, w ∈ wsX3_ok := fun w h => List.mem_cons_of_mem _ (List.mem_append_right _ h)
  have hl : lv_has ls 2 [(0, .ref (M 0)), (1, .int x)] := hl
  refine lv_aload_n hx hb dX3_ok_0 rfl (lv_at hl 0 rfl) ?_
  refine lv_iconst (v := 0) hx hb dX3_ok_1 (by decide) ?_
  refine k_put (ci := 3) (C := RX3) (T := TX3) (N := 10) (ws' := wN E M (0, Hb, a, k)) hx hb hown hK hw hts hinX3 tyX3 tyX3_ok nmX3 0 rfl rfl 0 (by decide) hf29 rfl rfl (Nat.le_of_ble_eq_true rfl) dX3_ok_2 rfl (fun H locs hw => ?_)
  refine lv_iload_n hx hb dX3_ok_5 rfl (lv_at hl 1 rfl) ?_
  exact k_iret hx hb hr hlocks hK hw rfl dX3_ok_6 rfl rfl
abbrev rm_X3_ofShip : Room := { frames := 2, cells := 0, slots := 0, locals := 43 }
set_option maxHeartbeats 4000000 in
set_option maxRecDepth 100000 in
theorem c_X3_ofShip_1 (l : Launch) (E : Ev) (M : Nat → Nat) (th : Int32) (Hb : MH) (a k : Fn) (s : Int32) (x : Nat) (h1 : n_ns Hb ≤ 5) (h2 : n_np Hb ≤ 16) (h3 : n_nw Hb ≤ 4) (h4 : ∀ p, p < n_np Hb → n_so Hb p < 5) (hd_ns : d_in s 0 (nI (n_ns Hb) - 1) = false) : MI l E yX3_ofShip wsX3_ofShip rm_X3_ofShip [.ref (M 0), .int s, .int (nI x)] (wN E M (th, Hb, a, k)) 0 (wN E M (1, Hb, a, k)) := by
  refine k_bI (cc := cX3_ofShip) (maxL := 3) (ret := (some .int)) (by decide) rfl (Nat.le_of_ble_eq_true rfl) ?_
  intro p9 e s9 m args below meth c A9 ls hC hl hw
  obtain ⟨hx, hb, hml, hr, hown, hts, hlocks, hK, hG, hA⟩ := hC
  have hf29 := hts (.fieldLink RX3 29 "SailorCandlesModel" "thrown" "I") (List.mem_of_getElem? (i := 1) rfl)
  have hinX3 : ∀ w ∈ wsX30, w ∈ wsX3_ofShip := fun w h => List.mem_cons_of_mem _ (List.mem_append_right _ h)
  have hl : lv_has ls 3 [(0, .ref (M 0)), (1, .int s), (2, .int (nI x))] := hl
  refine lv_aload_n hx hb dX3_ofShip_0 rfl (lv_at hl 0 rfl) ?_
  refine lv_iconst (v := 0) hx hb dX3_ofShip_1 (by decide) ?_
  refine k_put (ci := 3) (C := RX3) (T := TX3) (N := 10) (ws' := wN E M (0, Hb, a, k)) hx hb hown hK hw hts hinX3 tyX3 tyX3_ok nmX3 0 rfl rfl 0 (by decide) hf29 rfl rfl (Nat.le_of_ble_eq_true rfl) dX3_ofShip_2 rfl (fun H locs hw => ?_)
  refine lv_aload_n hx hb dX3_ofShip_5 rfl (lv_at hl 0 rfl) ?_
  refine lv_iload_n hx hb dX3_ofShip_6 rfl (lv_at hl 1 rfl) ?_
  refine kr_i (ws' := wN E M (0, Hb, a, k)) (va_runV (As := [.int s]) (rest := []) ⟨hx, hb, hml, hown, hts⟩ (c_X3_isShip l E M 0 Hb a k s  _) (cwV 1 hts gX3_ofShip_X3_isShip rfl rfl rfl ⟨rfl, hd_X3_isShip⟩ ⟨Nat.le_of_ble_eq_true rfl, Nat.le_of_ble_eq_true rfl⟩) (pwV (ci := 3) (q0 := 0) (C := RX3) hw hK rfl rfl rfl (rpS (AV := [.ref (M 0), .int s]) hw hK hG rp_75)) rfl rfl hl.1 rfl (lv_room (Nat.le_of_ble_eq_true rfl)) dX3_ofShip_7 ⟨Nat.le_of_ble_eq_true rfl, Nat.le_of_ble_eq_true rfl⟩) hw hA rp_75 (fun H locs hw => ?_)
  refine lv_if_eq (tgt := 26) hx hb dX3_ofShip_10 (by decide) (fun _ => ?_) (fun q8 => absurd (by rw [hd_ns]; rfl) q8)
  refine lv_aload_n hx hb dX3_ofShip_26 rfl (lv_at hl 0 rfl) ?_
  refine lv_iconst (v := 1) hx hb dX3_ofShip_27 (by decide) ?_
  refine kr_i (ws' := wN E M (1, Hb, a, k)) (va_runV (As := [.int 1]) (rest := []) ⟨hx, hb, hml, hown, hts⟩ (c_X3_no l E M 0 Hb a k 1  _) (cwV 1 hts gX3_ofShip_X3_no rfl rfl rfl ⟨rfl, hd_X3_no⟩ ⟨Nat.le_of_ble_eq_true rfl, Nat.le_of_ble_eq_true rfl⟩) (pwV (ci := 3) (q0 := 0) (C := RX3) hw hK rfl rfl rfl (rpS (AV := [.ref (M 0), .int 1]) hw hK hG rp_75)) rfl rfl hl.1 rfl (lv_room (Nat.le_of_ble_eq_true rfl)) dX3_ofShip_28 ⟨Nat.le_of_ble_eq_true rfl, Nat.le_of_ble_eq_true rfl⟩) hw hA rp_76 (fun H locs hw => ?_)
  exact k_iret hx hb hr hlocks hK hw rfl dX3_ofShip_31 rfl rfl
set_option maxHeartbeats 4000000 in
set_option maxRecDepth 100000 in
theorem c_X3_ofShip (l : Launch) (E : Ev) (M : Nat → Nat) (th : Int32) (Hb : MH) (a k : Fn) (s : Nat) (x : Nat) (h1 : n_ns Hb ≤ 5) (h2 : n_np Hb ≤ 16) (h3 : n_nw Hb ≤ 4) (h4 : ∀ p, p < n_np Hb → n_so Hb p < 5) (hs : s < n_ns Hb) (hx2 : x < 3) : MI l E yX3_ofShip wsX3_ofShip rm_X3_ofShip [.ref (M 0), .int (nI s), .int (nI x)] (wN E M (th, Hb, a, k)) (a (3 + 3 * s + x)) (wN E M (0, Hb, a, k)) := by
  refine k_bI (cc := cX3_ofShip) (maxL := 3) (ret := (some .int)) (by decide) rfl (Nat.le_of_ble_eq_true rfl) ?_
  intro p9 e s9 m args below meth c A9 ls hC hl hw
  obtain ⟨hx, hb, hml, hr, hown, hts, hlocks, hK, hG, hA⟩ := hC
  have hf29 := hts (.fieldLink RX3 29 "SailorCandlesModel" "thrown" "I") (List.mem_of_getElem? (i := 1) rfl)
  have hinX3 : ∀ w ∈ wsX30, w ∈ wsX3_ofShip := fun w h => List.mem_cons_of_mem _ (List.mem_append_right _ h)
  have hf23 := hts (.fieldLink RX3 23 "SailorCandlesModel" "now" "[I") (List.mem_of_getElem? (i := 2) rfl)
  have hl : lv_has ls 3 [(0, .ref (M 0)), (1, .int (nI s)), (2, .int (nI x))] := hl
  refine lv_aload_n hx hb dX3_ofShip_0 rfl (lv_at hl 0 rfl) ?_
  refine lv_iconst (v := 0) hx hb dX3_ofShip_1 (by decide) ?_
  refine k_put (ci := 3) (C := RX3) (T := TX3) (N := 10) (ws' := wN E M (0, Hb, a, k)) hx hb hown hK hw hts hinX3 tyX3 tyX3_ok nmX3 0 rfl rfl 0 (by decide) hf29 rfl rfl (Nat.le_of_ble_eq_true rfl) dX3_ofShip_2 rfl (fun H locs hw => ?_)
  refine lv_aload_n hx hb dX3_ofShip_5 rfl (lv_at hl 0 rfl) ?_
  refine lv_iload_n hx hb dX3_ofShip_6 rfl (lv_at hl 1 rfl) ?_
  refine kr_i (ws' := wN E M (0, Hb, a, k)) (va_runV (As := [.int (nI s)]) (rest := []) ⟨hx, hb, hml, hown, hts⟩ (c_X3_isShip l E M 0 Hb a k (nI s)  _) (cwV 1 hts gX3_ofShip_X3_isShip rfl rfl rfl ⟨rfl, hd_X3_isShip⟩ ⟨Nat.le_of_ble_eq_true rfl, Nat.le_of_ble_eq_true rfl⟩) (pwV (ci := 3) (q0 := 0) (C := RX3) hw hK rfl rfl rfl (rpS (AV := [.ref (M 0), .int (nI s)]) hw hK hG rp_75)) rfl rfl hl.1 rfl (lv_room (Nat.le_of_ble_eq_true rfl)) dX3_ofShip_7 ⟨Nat.le_of_ble_eq_true rfl, Nat.le_of_ble_eq_true rfl⟩) hw hA rp_75 (fun H locs hw => ?_)
  refine lv_if_eq (tgt := 26) hx hb dX3_ofShip_10 (by decide) (fun q8 => absurd q8 (fun q7 => absurd ((d_in_n (n := s) (k := n_ns Hb) (by omega) (by omega)).symm.trans (bI_z q7)) (by decide))) (fun _ => ?_)
  refine lv_aload_n hx hb dX3_ofShip_13 rfl (lv_at hl 0 rfl) ?_
  refine k_get (ci := 3) (v := .ref (M 5)) (C := RX3) (T := TX3) (N := 10) hx hb hown hK hw hts hinX3 0 rfl rfl 8 (by decide) hf23 rfl dX3_ofShip_14 ?_
  refine lv_iload_n hx hb dX3_ofShip_17 rfl (lv_at hl 1 rfl) ?_
  refine lv_iload_n hx hb dX3_ofShip_18 rfl (lv_at hl 2 rfl) ?_
  refine kr_i (ws' := wN E M (0, Hb, a, k)) (va_runS (As := [.int (nI s), .int (nI x)]) (rest := [.ref (M 5)]) ⟨hx, hb, hml, hown, hts⟩ (c_X3_ship l E s x  _) (va_cwS 2 hts gX3_ofShip_X3_ship rfl rfl rfl hd_X3_ship ⟨Nat.le_of_ble_eq_true rfl, Nat.le_of_ble_eq_true rfl⟩) (rpS (AV := [.int (nI s), .int (nI x)]) hw hK hG rp_74) rfl rfl hl.1 rfl (lv_room (Nat.le_of_ble_eq_true rfl)) dX3_ofShip_19 ⟨Nat.le_of_ble_eq_true rfl, Nat.le_of_ble_eq_true rfl⟩) hw hA rp_74 (fun H locs hw => ?_)
  refine k_ildN (i := 3 + 3 * s + x) (f := a) hx hb hK hw 5 rfl (by omega) (by omega) dX3_ofShip_22 ?_
  refine lv_goto (tgt := 31) hx hb dX3_ofShip_23 (by decide) ?_
  exact k_iret hx hb hr hlocks hK hw rfl dX3_ofShip_31 rfl rfl
abbrev rm_X3_ships : Room := { frames := 1, cells := 0, slots := 0, locals := 21 }
set_option maxHeartbeats 4000000 in
set_option maxRecDepth 100000 in
theorem c_X3_ships (l : Launch) (E : Ev) (M : Nat → Nat) (th : Int32) (Hb : MH) (a k : Fn) (h1 : n_ns Hb ≤ 5) (h2 : n_np Hb ≤ 16) (h3 : n_nw Hb ≤ 4) (h4 : ∀ p, p < n_np Hb → n_so Hb p < 5) : MI l E yX3_ships wsX3_ships rm_X3_ships [.ref (M 0)] (wN E M (th, Hb, a, k)) (nI (n_ns Hb)) (wN E M (0, Hb, a, k)) := by
  refine k_bI (cc := cX3_ships) (maxL := 1) (ret := (some .int)) (by decide) rfl (Nat.le_of_ble_eq_true rfl) ?_
  intro p9 e s9 m args below meth c A9 ls hC hl hw
  obtain ⟨hx, hb, hml, hr, hown, hts, hlocks, hK, hG, hA⟩ := hC
  have hf33 := hts (.fieldLink RX3 33 "SailorCandlesModel" "ships" "I") (List.mem_of_getElem? (i := 1) rfl)
  have hinX3 : ∀ w ∈ wsX30, w ∈ wsX3_ships := fun w h => List.mem_cons_of_mem _ (List.mem_append_right _ h)
  have hl : lv_has ls 1 [(0, .ref (M 0))] := hl
  refine lv_aload_n hx hb dX3_ships_0 rfl (lv_at hl 0 rfl) ?_
  refine lv_aload_n hx hb dX3_ships_1 rfl (lv_at hl 0 rfl) ?_
  refine k_get (ci := 3) (v := .int (nI (n_ns Hb))) (C := RX3) (T := TX3) (N := 10) hx hb hown hK hw hts hinX3 0 rfl rfl 1 (by decide) hf33 rfl dX3_ships_2 ?_
  refine kr_i (ws' := wN E M (0, Hb, a, k)) (va_runV (As := [.int (nI (n_ns Hb))]) (rest := []) ⟨hx, hb, hml, hown, hts⟩ (c_X3_ok l E M th Hb a k (nI (n_ns Hb))  _) (cwV 1 hts gX3_ships_X3_ok rfl rfl rfl ⟨rfl, hd_X3_ok⟩ ⟨Nat.le_of_ble_eq_true rfl, Nat.le_of_ble_eq_true rfl⟩) (pwV (ci := 3) (q0 := 0) (C := RX3) hw hK rfl rfl rfl (rpS (AV := [.ref (M 0), .int (nI (n_ns Hb))]) hw hK hG rp_75)) rfl rfl hl.1 rfl (lv_room (Nat.le_of_ble_eq_true rfl)) dX3_ships_5 ⟨Nat.le_of_ble_eq_true rfl, Nat.le_of_ble_eq_true rfl⟩) hw hA rp_76 (fun H locs hw => ?_)
  exact k_iret hx hb hr hlocks hK hw rfl dX3_ships_8 (by first | rfl | assumption | (simp only [if_true, if_false, Bool.false_eq_true, Bool.true_eq_false, reduceIte, reduceCtorEq]; done) | (simp only [if_true, if_false, Bool.false_eq_true, Bool.true_eq_false, reduceIte, reduceCtorEq]; rfl) | (simp [if_true, if_false, Bool.false_eq_true, Bool.true_eq_false, reduceIte, reduceCtorEq]; done) | (simp [bI, ]; done)) rfl
abbrev rm_X3_sailors : Room := { frames := 1, cells := 0, slots := 0, locals := 21 }
set_option maxHeartbeats 4000000 in
set_option maxRecDepth 100000 in
theorem c_X3_sailors (l : Launch) (E : Ev) (M : Nat → Nat) (th : Int32) (Hb : MH) (a k : Fn) (h1 : n_ns Hb ≤ 5) (h2 : n_np Hb ≤ 16) (h3 : n_nw Hb ≤ 4) (h4 : ∀ p, p < n_np Hb → n_so Hb p < 5) : MI l E yX3_sailors wsX3_sailors rm_X3_sailors [.ref (M 0)] (wN E M (th, Hb, a, k)) (nI (n_np Hb)) (wN E M (0, Hb, a, k)) := by
  refine k_bI (cc := cX3_sailors) (maxL := 1) (ret := (some .int)) (by decide) rfl (Nat.le_of_ble_eq_true rfl) ?_
  intro p9 e s9 m args below meth c A9 ls hC hl hw
  obtain ⟨hx, hb, hml, hr, hown, hts, hlocks, hK, hG, hA⟩ := hC
  have hf40 := hts (.fieldLink RX3 40 "SailorCandlesModel" "sailors" "I") (List.mem_of_getElem? (i := 1) rfl)
  have hinX3 : ∀ w ∈ wsX30, w ∈ wsX3_sailors := fun w h => List.mem_cons_of_mem _ (List.mem_append_right _ h)
  have hl : lv_has ls 1 [(0, .ref (M 0))] := hl
  refine lv_aload_n hx hb dX3_sailors_0 rfl (lv_at hl 0 rfl) ?_
  refine lv_aload_n hx hb dX3_sailors_1 rfl (lv_at hl 0 rfl) ?_
  refine k_get (ci := 3) (v := .int (nI (n_np Hb))) (C := RX3) (T := TX3) (N := 10) hx hb hown hK hw hts hinX3 0 rfl rfl 3 (by decide) hf40 rfl dX3_sailors_2 ?_
  refine kr_i (ws' := wN E M (0, Hb, a, k)) (va_runV (As := [.int (nI (n_np Hb))]) (rest := []) ⟨hx, hb, hml, hown, hts⟩ (c_X3_ok l E M th Hb a k (nI (n_np Hb))  _) (cwV 1 hts gX3_sailors_X3_ok rfl rfl rfl ⟨rfl, hd_X3_ok⟩ ⟨Nat.le_of_ble_eq_true rfl, Nat.le_of_ble_eq_true rfl⟩) (pwV (ci := 3) (q0 := 0) (C := RX3) hw hK rfl rfl rfl (rpS (AV := [.ref (M 0), .int (nI (n_np Hb))]) hw hK hG rp_75)) rfl rfl hl.1 rfl (lv_room (Nat.le_of_ble_eq_true rfl)) dX3_sailors_5 ⟨Nat.le_of_ble_eq_true rfl, Nat.le_of_ble_eq_true rfl⟩) hw hA rp_76 (fun H locs hw => ?_)
  exact k_iret hx hb hr hlocks hK hw rfl dX3_sailors_8 (by first | rfl | assumption | (simp only [if_true, if_false, Bool.false_eq_true, Bool.true_eq_false, reduceIte, reduceCtorEq]; done) | (simp only [if_true, if_false, Bool.false_eq_true, Bool.true_eq_false, reduceIte, reduceCtorEq]; rfl) | (simp [if_true, if_false, Bool.false_eq_true, Bool.true_eq_false, reduceIte, reduceCtorEq]; done) | (simp [bI, ]; done)) rfl
abbrev rm_X3_watchers : Room := { frames := 1, cells := 0, slots := 0, locals := 21 }
set_option maxHeartbeats 4000000 in
set_option maxRecDepth 100000 in
theorem c_X3_watchers (l : Launch) (E : Ev) (M : Nat → Nat) (th : Int32) (Hb : MH) (a k : Fn) (h1 : n_ns Hb ≤ 5) (h2 : n_np Hb ≤ 16) (h3 : n_nw Hb ≤ 4) (h4 : ∀ p, p < n_np Hb → n_so Hb p < 5) : MI l E yX3_watchers wsX3_watchers rm_X3_watchers [.ref (M 0)] (wN E M (th, Hb, a, k)) (nI (n_nw Hb)) (wN E M (0, Hb, a, k)) := by
  refine k_bI (cc := cX3_watchers) (maxL := 1) (ret := (some .int)) (by decide) rfl (Nat.le_of_ble_eq_true rfl) ?_
  intro p9 e s9 m args below meth c A9 ls hC hl hw
  obtain ⟨hx, hb, hml, hr, hown, hts, hlocks, hK, hG, hA⟩ := hC
  have hf43 := hts (.fieldLink RX3 43 "SailorCandlesModel" "watchers" "I") (List.mem_of_getElem? (i := 1) rfl)
  have hinX3 : ∀ w ∈ wsX30, w ∈ wsX3_watchers := fun w h => List.mem_cons_of_mem _ (List.mem_append_right _ h)
  have hl : lv_has ls 1 [(0, .ref (M 0))] := hl
  refine lv_aload_n hx hb dX3_watchers_0 rfl (lv_at hl 0 rfl) ?_
  refine lv_aload_n hx hb dX3_watchers_1 rfl (lv_at hl 0 rfl) ?_
  refine k_get (ci := 3) (v := .int (nI (n_nw Hb))) (C := RX3) (T := TX3) (N := 10) hx hb hown hK hw hts hinX3 0 rfl rfl 7 (by decide) hf43 rfl dX3_watchers_2 ?_
  refine kr_i (ws' := wN E M (0, Hb, a, k)) (va_runV (As := [.int (nI (n_nw Hb))]) (rest := []) ⟨hx, hb, hml, hown, hts⟩ (c_X3_ok l E M th Hb a k (nI (n_nw Hb))  _) (cwV 1 hts gX3_watchers_X3_ok rfl rfl rfl ⟨rfl, hd_X3_ok⟩ ⟨Nat.le_of_ble_eq_true rfl, Nat.le_of_ble_eq_true rfl⟩) (pwV (ci := 3) (q0 := 0) (C := RX3) hw hK rfl rfl rfl (rpS (AV := [.ref (M 0), .int (nI (n_nw Hb))]) hw hK hG rp_75)) rfl rfl hl.1 rfl (lv_room (Nat.le_of_ble_eq_true rfl)) dX3_watchers_5 ⟨Nat.le_of_ble_eq_true rfl, Nat.le_of_ble_eq_true rfl⟩) hw hA rp_76 (fun H locs hw => ?_)
  exact k_iret hx hb hr hlocks hK hw rfl dX3_watchers_8 (by first | rfl | assumption | (simp only [if_true, if_false, Bool.false_eq_true, Bool.true_eq_false, reduceIte, reduceCtorEq]; done) | (simp only [if_true, if_false, Bool.false_eq_true, Bool.true_eq_false, reduceIte, reduceCtorEq]; rfl) | (simp [if_true, if_false, Bool.false_eq_true, Bool.true_eq_false, reduceIte, reduceCtorEq]; done) | (simp [bI, ]; done)) rfl
abbrev rm_X3_night : Room := { frames := 1, cells := 0, slots := 0, locals := 21 }
set_option maxHeartbeats 4000000 in
set_option maxRecDepth 100000 in
theorem c_X3_night (l : Launch) (E : Ev) (M : Nat → Nat) (th : Int32) (Hb : MH) (a k : Fn) (h1 : n_ns Hb ≤ 5) (h2 : n_np Hb ≤ 16) (h3 : n_nw Hb ≤ 4) (h4 : ∀ p, p < n_np Hb → n_so Hb p < 5) : MI l E yX3_night wsX3_night rm_X3_night [.ref (M 0)] (wN E M (th, Hb, a, k)) (a 0) (wN E M (0, Hb, a, k)) := by
  refine k_bI (cc := cX3_night) (maxL := 1) (ret := (some .int)) (by decide) rfl (Nat.le_of_ble_eq_true rfl) ?_
  intro p9 e s9 m args below meth c A9 ls hC hl hw
  obtain ⟨hx, hb, hml, hr, hown, hts, hlocks, hK, hG, hA⟩ := hC
  have hf23 := hts (.fieldLink RX3 23 "SailorCandlesModel" "now" "[I") (List.mem_of_getElem? (i := 1) rfl)
  have hinX3 : ∀ w ∈ wsX30, w ∈ wsX3_night := fun w h => List.mem_cons_of_mem _ (List.mem_append_right _ h)
  have hl : lv_has ls 1 [(0, .ref (M 0))] := hl
  refine lv_aload_n hx hb dX3_night_0 rfl (lv_at hl 0 rfl) ?_
  refine lv_aload_n hx hb dX3_night_1 rfl (lv_at hl 0 rfl) ?_
  refine k_get (ci := 3) (v := .ref (M 5)) (C := RX3) (T := TX3) (N := 10) hx hb hown hK hw hts hinX3 0 rfl rfl 8 (by decide) hf23 rfl dX3_night_2 ?_
  refine lv_iconst (v := 0) hx hb dX3_night_5 (by decide) ?_
  refine k_ildN (i := 0) (f := a) hx hb hK hw 5 rfl (by omega) (by omega) dX3_night_6 ?_
  refine kr_i (ws' := wN E M (0, Hb, a, k)) (va_runV (As := [.int (a 0)]) (rest := []) ⟨hx, hb, hml, hown, hts⟩ (c_X3_ok l E M th Hb a k (a 0)  _) (cwV 1 hts gX3_night_X3_ok rfl rfl rfl ⟨rfl, hd_X3_ok⟩ ⟨Nat.le_of_ble_eq_true rfl, Nat.le_of_ble_eq_true rfl⟩) (pwV (ci := 3) (q0 := 0) (C := RX3) hw hK rfl rfl rfl (rpS (AV := [.ref (M 0), .int (a 0)]) hw hK hG rp_75)) rfl rfl hl.1 rfl (lv_room (Nat.le_of_ble_eq_true rfl)) dX3_night_7 ⟨Nat.le_of_ble_eq_true rfl, Nat.le_of_ble_eq_true rfl⟩) hw hA rp_76 (fun H locs hw => ?_)
  exact k_iret hx hb hr hlocks hK hw rfl dX3_night_10 (by first | rfl | assumption | (simp only [if_true, if_false, Bool.false_eq_true, Bool.true_eq_false, reduceIte, reduceCtorEq]; done) | (simp only [if_true, if_false, Bool.false_eq_true, Bool.true_eq_false, reduceIte, reduceCtorEq]; rfl) | (simp [if_true, if_false, Bool.false_eq_true, Bool.true_eq_false, reduceIte, reduceCtorEq]; done) | (simp [bI, ]; done)) rfl
abbrev rm_X3_wax : Room := { frames := 1, cells := 0, slots := 0, locals := 21 }
set_option maxHeartbeats 4000000 in
set_option maxRecDepth 100000 in
theorem c_X3_wax (l : Launch) (E : Ev) (M : Nat → Nat) (th : Int32) (Hb : MH) (a k : Fn) (h1 : n_ns Hb ≤ 5) (h2 : n_np Hb ≤ 16) (h3 : n_nw Hb ≤ 4) (h4 : ∀ p, p < n_np Hb → n_so Hb p < 5) : MI l E yX3_wax wsX3_wax rm_X3_wax [.ref (M 0)] (wN E M (th, Hb, a, k)) (a 1) (wN E M (0, Hb, a, k)) := by
  refine k_bI (cc := cX3_wax) (maxL := 1) (ret := (some .int)) (by decide) rfl (Nat.le_of_ble_eq_true rfl) ?_
  intro p9 e s9 m args below meth c A9 ls hC hl hw
  obtain ⟨hx, hb, hml, hr, hown, hts, hlocks, hK, hG, hA⟩ := hC
  have hf23 := hts (.fieldLink RX3 23 "SailorCandlesModel" "now" "[I") (List.mem_of_getElem? (i := 1) rfl)
  have hinX3 : ∀ w ∈ wsX30, w ∈ wsX3_wax := fun w h => List.mem_cons_of_mem _ (List.mem_append_right _ h)
  have hl : lv_has ls 1 [(0, .ref (M 0))] := hl
  refine lv_aload_n hx hb dX3_wax_0 rfl (lv_at hl 0 rfl) ?_
  refine lv_aload_n hx hb dX3_wax_1 rfl (lv_at hl 0 rfl) ?_
  refine k_get (ci := 3) (v := .ref (M 5)) (C := RX3) (T := TX3) (N := 10) hx hb hown hK hw hts hinX3 0 rfl rfl 8 (by decide) hf23 rfl dX3_wax_2 ?_
  refine lv_iconst (v := 1) hx hb dX3_wax_5 (by decide) ?_
  refine k_ildN (i := 1) (f := a) hx hb hK hw 5 rfl (by omega) (by omega) dX3_wax_6 ?_
  refine kr_i (ws' := wN E M (0, Hb, a, k)) (va_runV (As := [.int (a 1)]) (rest := []) ⟨hx, hb, hml, hown, hts⟩ (c_X3_ok l E M th Hb a k (a 1)  _) (cwV 1 hts gX3_wax_X3_ok rfl rfl rfl ⟨rfl, hd_X3_ok⟩ ⟨Nat.le_of_ble_eq_true rfl, Nat.le_of_ble_eq_true rfl⟩) (pwV (ci := 3) (q0 := 0) (C := RX3) hw hK rfl rfl rfl (rpS (AV := [.ref (M 0), .int (a 1)]) hw hK hG rp_75)) rfl rfl hl.1 rfl (lv_room (Nat.le_of_ble_eq_true rfl)) dX3_wax_7 ⟨Nat.le_of_ble_eq_true rfl, Nat.le_of_ble_eq_true rfl⟩) hw hA rp_76 (fun H locs hw => ?_)
  exact k_iret hx hb hr hlocks hK hw rfl dX3_wax_10 (by first | rfl | assumption | (simp only [if_true, if_false, Bool.false_eq_true, Bool.true_eq_false, reduceIte, reduceCtorEq]; done) | (simp only [if_true, if_false, Bool.false_eq_true, Bool.true_eq_false, reduceIte, reduceCtorEq]; rfl) | (simp [if_true, if_false, Bool.false_eq_true, Bool.true_eq_false, reduceIte, reduceCtorEq]; done) | (simp [bI, ]; done)) rfl
abbrev rm_X3_bellsUnrung : Room := { frames := 1, cells := 0, slots := 0, locals := 21 }
set_option maxHeartbeats 4000000 in
set_option maxRecDepth 100000 in
theorem c_X3_bellsUnrung (l : Launch) (E : Ev) (M : Nat → Nat) (th : Int32) (Hb : MH) (a k : Fn) (h1 : n_ns Hb ≤ 5) (h2 : n_np Hb ≤ 16) (h3 : n_nw Hb ≤ 4) (h4 : ∀ p, p < n_np Hb → n_so Hb p < 5) : MI l E yX3_bellsUnrung wsX3_bellsUnrung rm_X3_bellsUnrung [.ref (M 0)] (wN E M (th, Hb, a, k)) (a 2) (wN E M (0, Hb, a, k)) := by
  refine k_bI (cc := cX3_bellsUnrung) (maxL := 1) (ret := (some .int)) (by decide) rfl (Nat.le_of_ble_eq_true rfl) ?_
  intro p9 e s9 m args below meth c A9 ls hC hl hw
  obtain ⟨hx, hb, hml, hr, hown, hts, hlocks, hK, hG, hA⟩ := hC
  have hf23 := hts (.fieldLink RX3 23 "SailorCandlesModel" "now" "[I") (List.mem_of_getElem? (i := 1) rfl)
  have hinX3 : ∀ w ∈ wsX30, w ∈ wsX3_bellsUnrung := fun w h => List.mem_cons_of_mem _ (List.mem_append_right _ h)
  have hl : lv_has ls 1 [(0, .ref (M 0))] := hl
  refine lv_aload_n hx hb dX3_bellsUnrung_0 rfl (lv_at hl 0 rfl) ?_
  refine lv_aload_n hx hb dX3_bellsUnrung_1 rfl (lv_at hl 0 rfl) ?_
  refine k_get (ci := 3) (v := .ref (M 5)) (C := RX3) (T := TX3) (N := 10) hx hb hown hK hw hts hinX3 0 rfl rfl 8 (by decide) hf23 rfl dX3_bellsUnrung_2 ?_
  refine lv_iconst (v := 2) hx hb dX3_bellsUnrung_5 (by decide) ?_
  refine k_ildN (i := 2) (f := a) hx hb hK hw 5 rfl (by omega) (by omega) dX3_bellsUnrung_6 ?_
  refine kr_i (ws' := wN E M (0, Hb, a, k)) (va_runV (As := [.int (a 2)]) (rest := []) ⟨hx, hb, hml, hown, hts⟩ (c_X3_ok l E M th Hb a k (a 2)  _) (cwV 1 hts gX3_bellsUnrung_X3_ok rfl rfl rfl ⟨rfl, hd_X3_ok⟩ ⟨Nat.le_of_ble_eq_true rfl, Nat.le_of_ble_eq_true rfl⟩) (pwV (ci := 3) (q0 := 0) (C := RX3) hw hK rfl rfl rfl (rpS (AV := [.ref (M 0), .int (a 2)]) hw hK hG rp_75)) rfl rfl hl.1 rfl (lv_room (Nat.le_of_ble_eq_true rfl)) dX3_bellsUnrung_7 ⟨Nat.le_of_ble_eq_true rfl, Nat.le_of_ble_eq_true rfl⟩) hw hA rp_76 (fun H locs hw => ?_)
  exact k_iret hx hb hr hlocks hK hw rfl dX3_bellsUnrung_10 (by first | rfl | assumption | (simp only [if_true, if_false, Bool.false_eq_true, Bool.true_eq_false, reduceIte, reduceCtorEq]; done) | (simp only [if_true, if_false, Bool.false_eq_true, Bool.true_eq_false, reduceIte, reduceCtorEq]; rfl) | (simp [if_true, if_false, Bool.false_eq_true, Bool.true_eq_false, reduceIte, reduceCtorEq]; done) | (simp [bI, ]; done)) rfl
abbrev rm_X3_allSightings : Room := { frames := 0, cells := 0, slots := 0, locals := 0 }
set_option maxHeartbeats 4000000 in
set_option maxRecDepth 100000 in
theorem c_X3_allSightings (l : Launch) (E : Ev) (M : Nat → Nat) (th : Int32) (Hb : MH) (a k : Fn) (h1 : n_ns Hb ≤ 5) (h2 : n_np Hb ≤ 16) (h3 : n_nw Hb ≤ 4) (h4 : ∀ p, p < n_np Hb → n_so Hb p < 5) : MI l E yX3_allSightings wsX3_allSightings rm_X3_allSightings [.ref (M 0)] (wN E M (th, Hb, a, k)) (l_mal a 20) (wN E M (th, Hb, a, k)) := by
  refine k_bI (cc := cX3_allSightings) (maxL := 3) (ret := (some .int)) (by decide) rfl (Nat.le_of_ble_eq_true rfl) ?_
  intro p9 e s9 m args below meth c A9 ls hC hl hw
  obtain ⟨hx, hb, hml, hr, hown, hts, hlocks, hK, hG, hA⟩ := hC
  have hf23 := hts (.fieldLink RX3 23 "SailorCandlesModel" "now" "[I") (List.mem_of_getElem? (i := 1) rfl)
  have hinX3 : ∀ w ∈ wsX30, w ∈ wsX3_allSightings := fun w h => List.mem_cons_of_mem _ (List.mem_append_right _ h)
  have hl : lv_has ls 3 [(0, .ref (M 0))] := hl
  refine lv_iconst (v := 0) hx hb dX3_allSightings_0 (by decide) ?_
  refine lv_istore_n (lv' := [(1, .int 0), (0, .ref (M 0))]) hx hb dX3_allSightings_1 rfl hl (by decide) rfl (fun ls hl => ?_)
  refine lv_bipush (v := 54) hx hb dX3_allSightings_2 (by decide) ?_
  refine lv_istore_n (lv' := [(2, .int 54), (1, .int 0), (0, .ref (M 0))]) hx hb dX3_allSightings_4 rfl hl (by decide) rfl (fun ls hl => ?_)
  have L_5 : ∀ (k9 i : Nat) (H : Heap) (locs : List Loc) (ls : Array Slot), i + k9 = 20 → Wd E A9 s9.heap (wN E M (th, Hb, a, k)) H locs → lv_has ls 3 [(0, .ref (M 0)), (1, .int (l_mal a i)), (2, .int (nI (54 + i)))] → W p9 l e rm_X3_allSightings s9 m args below meth c H locs 0 0 (EndI E A9 (l_mal a 20) (wN E M (th, Hb, a, k)) below args s9 (rm_X3_allSightings).cells (rm_X3_allSightings).slots) (F0 m 5 ls []) := by
    intro k9
    induction k9 with
    | zero =>
      intro i H locs ls hi hw hl
      have hz_1 : 20 = i := by omega
      refine lv_iload_n hx hb dX3_allSightings_5 rfl (lv_at hl 2 rfl) ?_
      refine lv_bipush (v := 74) hx hb dX3_allSightings_6 (by decide) ?_
      refine lv_icmp_ge (tgt := 35) hx hb dX3_allSightings_8 (by decide) (fun _ => ?_) (fun q8 => absurd (by rw [← hz_1]; decide) q8)
      refine lv_iload_n hx hb dX3_allSightings_35 rfl (lv_at hl 1 rfl) ?_
      exact k_iret hx hb hr hlocks hK hw rfl dX3_allSightings_36 (by subst hz_1; first | rfl | assumption | (simp only [l_mal, if_true, if_false, Bool.false_eq_true, Bool.true_eq_false, reduceIte, reduceCtorEq]; done) | (simp only [l_mal, if_true, if_false, Bool.false_eq_true, Bool.true_eq_false, reduceIte, reduceCtorEq]; rfl) | (simp [l_mal, if_true, if_false, Bool.false_eq_true, Bool.true_eq_false, reduceIte, reduceCtorEq]; done) | (simp [bI, l_mal]; done)) rfl
    | succ k9 ih_5 =>
      intro i H locs ls hi hw hl
      have hi9 : i < 20 := by omega
      refine lv_iload_n hx hb dX3_allSightings_5 rfl (lv_at hl 2 rfl) ?_
      refine lv_bipush (v := 74) hx hb dX3_allSightings_6 (by decide) ?_
      refine lv_icmp_ge (tgt := 35) hx hb dX3_allSightings_8 (by decide) (fun q8 => absurd q8 (nI_ge (a := 54 + i) (b := 74) (by omega) (by omega))) (fun _ => ?_)
      refine lv_iload_n hx hb dX3_allSightings_11 rfl (lv_at hl 1 rfl) ?_
      refine lv_aload_n hx hb dX3_allSightings_12 rfl (lv_at hl 0 rfl) ?_
      refine k_get (ci := 3) (v := .ref (M 5)) (C := RX3) (T := TX3) (N := 10) hx hb hown hK hw hts hinX3 0 rfl rfl 8 (by decide) hf23 rfl dX3_allSightings_13 ?_
      refine lv_iload_n hx hb dX3_allSightings_16 rfl (lv_at hl 2 rfl) ?_
      refine k_ildN (i := 54 + i) (f := a) hx hb hK hw 5 rfl (by omega) (by omega) dX3_allSightings_17 ?_
      refine lv_iconst (v := (-1)) hx hb dX3_allSightings_18 (by decide) ?_
      refine lv_icmp_eq (tgt := 26) hx hb dX3_allSightings_19 (by decide) (fun c_2 => ?_) (fun c_2 => ?_)
      · refine lv_iconst (v := 0) hx hb dX3_allSightings_26 (by decide) ?_
        refine lv_iadd hx hb dX3_allSightings_27 ?_
        refine lv_istore_n (lv' := [(1, .int ((l_mal a i) + 0)), (0, .ref (M 0)), (2, .int (nI (54 + i)))]) hx hb dX3_allSightings_28 rfl hl (by decide) rfl (fun ls hl => ?_)
        refine lv_iinc (v := nI (54 + i + 1)) (lv' := [(2, .int (nI (54 + i + 1))), (1, .int ((l_mal a i) + 0)), (0, .ref (M 0))]) hx hb dX3_allSightings_29 hl (k := 2) rfl (nI_add (54 + i) 1) (by decide) rfl (fun ls hl => ?_)
        refine lv_goto (tgt := 5) hx hb dX3_allSightings_32 (by decide) ?_
        exact ih_5 (i + 1) _ _ _ (by omega) hw (by rw [show (.int (l_mal a (i + 1)) : Value) = .int ((l_mal a i) + 0) from (by first | assumption | (simp only [l_mal, if_pos c_2, if_true, if_false, Bool.false_eq_true, Bool.true_eq_false, reduceIte, reduceCtorEq]; done) | (simp only [l_mal, if_pos c_2, if_true, if_false, Bool.false_eq_true, Bool.true_eq_false, reduceIte, reduceCtorEq]; rfl) | rfl | (simp [l_mal, if_pos c_2, if_true, if_false, Bool.false_eq_true, Bool.true_eq_false, reduceIte, reduceCtorEq]; done) | (simp [bI, l_mal, c_2]; done))]; rw [show (.int (nI (54 + (i + 1))) : Value) = .int (nI (54 + i + 1)) from (by first | assumption | (simp only [l_mal, if_pos c_2, if_true, if_false, Bool.false_eq_true, Bool.true_eq_false, reduceIte, reduceCtorEq]; done) | (simp only [l_mal, if_pos c_2, if_true, if_false, Bool.false_eq_true, Bool.true_eq_false, reduceIte, reduceCtorEq]; rfl) | rfl | (simp [l_mal, if_pos c_2, if_true, if_false, Bool.false_eq_true, Bool.true_eq_false, reduceIte, reduceCtorEq]; done) | (simp [bI, l_mal, c_2]; done))]; exact lv_sub hl [2, 1, 0] rfl)
      · refine lv_iconst (v := 1) hx hb dX3_allSightings_22 (by decide) ?_
        refine lv_goto (tgt := 27) hx hb dX3_allSightings_23 (by decide) ?_
        refine lv_iadd hx hb dX3_allSightings_27 ?_
        refine lv_istore_n (lv' := [(1, .int ((l_mal a i) + 1)), (0, .ref (M 0)), (2, .int (nI (54 + i)))]) hx hb dX3_allSightings_28 rfl hl (by decide) rfl (fun ls hl => ?_)
        refine lv_iinc (v := nI (54 + i + 1)) (lv' := [(2, .int (nI (54 + i + 1))), (1, .int ((l_mal a i) + 1)), (0, .ref (M 0))]) hx hb dX3_allSightings_29 hl (k := 2) rfl (nI_add (54 + i) 1) (by decide) rfl (fun ls hl => ?_)
        refine lv_goto (tgt := 5) hx hb dX3_allSightings_32 (by decide) ?_
        exact ih_5 (i + 1) _ _ _ (by omega) hw (by rw [show (.int (l_mal a (i + 1)) : Value) = .int ((l_mal a i) + 1) from (by first | assumption | (simp only [l_mal, if_neg c_2, if_true, if_false, Bool.false_eq_true, Bool.true_eq_false, reduceIte, reduceCtorEq]; done) | (simp only [l_mal, if_neg c_2, if_true, if_false, Bool.false_eq_true, Bool.true_eq_false, reduceIte, reduceCtorEq]; rfl) | rfl | (simp [l_mal, if_neg c_2, if_true, if_false, Bool.false_eq_true, Bool.true_eq_false, reduceIte, reduceCtorEq]; done) | (simp [bI, l_mal, c_2]; done))]; rw [show (.int (nI (54 + (i + 1))) : Value) = .int (nI (54 + i + 1)) from (by first | assumption | (simp only [l_mal, if_neg c_2, if_true, if_false, Bool.false_eq_true, Bool.true_eq_false, reduceIte, reduceCtorEq]; done) | (simp only [l_mal, if_neg c_2, if_true, if_false, Bool.false_eq_true, Bool.true_eq_false, reduceIte, reduceCtorEq]; rfl) | rfl | (simp [l_mal, if_neg c_2, if_true, if_false, Bool.false_eq_true, Bool.true_eq_false, reduceIte, reduceCtorEq]; done) | (simp [bI, l_mal, c_2]; done))]; exact lv_sub hl [2, 1, 0] rfl)
  exact L_5 (20 - 0) 0 _ _ _ (by omega) hw (lv_sub hl [2, 1, 0] rfl)
abbrev rm_X3_sightings : Room := { frames := 1, cells := 0, slots := 0, locals := 22 }
set_option maxHeartbeats 4000000 in
set_option maxRecDepth 100000 in
theorem c_X3_sightings (l : Launch) (E : Ev) (M : Nat → Nat) (th : Int32) (Hb : MH) (a k : Fn) (h1 : n_ns Hb ≤ 5) (h2 : n_np Hb ≤ 16) (h3 : n_nw Hb ≤ 4) (h4 : ∀ p, p < n_np Hb → n_so Hb p < 5) : MI l E yX3_sightings wsX3_sightings rm_X3_sightings [.ref (M 0)] (wN E M (th, Hb, a, k)) (l_mal a 20) (wN E M (0, Hb, a, k)) := by
  refine k_bI (cc := cX3_sightings) (maxL := 1) (ret := (some .int)) (by decide) rfl (Nat.le_of_ble_eq_true rfl) ?_
  intro p9 e s9 m args below meth c A9 ls hC hl hw
  obtain ⟨hx, hb, hml, hr, hown, hts, hlocks, hK, hG, hA⟩ := hC
  have hl : lv_has ls 1 [(0, .ref (M 0))] := hl
  refine lv_aload_n hx hb dX3_sightings_0 rfl (lv_at hl 0 rfl) ?_
  refine lv_aload_n hx hb dX3_sightings_1 rfl (lv_at hl 0 rfl) ?_
  refine kr_i (ws' := wN E M (th, Hb, a, k)) (va_runV (As := []) (rest := [.ref (M 0)]) ⟨hx, hb, hml, hown, hts⟩ (c_X3_allSightings l E M th Hb a k (by omega) (by omega) (by omega) (h4) _) (cwV 0 hts gX3_sightings_X3_allSightings rfl rfl rfl ⟨rfl, hd_X3_allSightings⟩ ⟨Nat.le_of_ble_eq_true rfl, Nat.le_of_ble_eq_true rfl⟩) (pwV (ci := 3) (q0 := 0) (C := RX3) hw hK rfl rfl rfl (rpS (AV := [.ref (M 0)]) hw hK hG rp_75)) rfl rfl hl.1 rfl (lv_room (Nat.le_of_ble_eq_true rfl)) dX3_sightings_2 ⟨Nat.le_of_ble_eq_true rfl, Nat.le_of_ble_eq_true rfl⟩) hw hA rp_75 (fun H locs hw => ?_)
  refine kr_i (ws' := wN E M (0, Hb, a, k)) (va_runV (As := [.int (l_mal a 20)]) (rest := []) ⟨hx, hb, hml, hown, hts⟩ (c_X3_ok l E M th Hb a k (l_mal a 20)  _) (cwV 1 hts gX3_sightings_X3_ok rfl rfl rfl ⟨rfl, hd_X3_ok⟩ ⟨Nat.le_of_ble_eq_true rfl, Nat.le_of_ble_eq_true rfl⟩) (pwV (ci := 3) (q0 := 0) (C := RX3) hw hK rfl rfl rfl (rpS (AV := [.ref (M 0), .int (l_mal a 20)]) hw hK hG rp_75)) rfl rfl hl.1 rfl (lv_room (Nat.le_of_ble_eq_true rfl)) dX3_sightings_5 ⟨Nat.le_of_ble_eq_true rfl, Nat.le_of_ble_eq_true rfl⟩) hw hA rp_76 (fun H locs hw => ?_)
  exact k_iret hx hb hr hlocks hK hw rfl dX3_sightings_8 (by first | rfl | assumption | (simp only [if_true, if_false, Bool.false_eq_true, Bool.true_eq_false, reduceIte, reduceCtorEq]; done) | (simp only [if_true, if_false, Bool.false_eq_true, Bool.true_eq_false, reduceIte, reduceCtorEq]; rfl) | (simp [if_true, if_false, Bool.false_eq_true, Bool.true_eq_false, reduceIte, reduceCtorEq]; done) | (simp [bI, ]; done)) rfl
abbrev rm_X3_darkCandles : Room := { frames := 4, cells := 0, slots := 0, locals := 85 }
set_option maxHeartbeats 4000000 in
set_option maxRecDepth 100000 in
theorem c_X3_darkCandles (l : Launch) (E : Ev) (M : Nat → Nat) (th : Int32) (Hb : MH) (a k : Fn) (h1 : n_ns Hb ≤ 5) (h2 : n_np Hb ≤ 16) (h3 : n_nw Hb ≤ 4) (h4 : ∀ p, p < n_np Hb → n_so Hb p < 5) : MI l E yX3_darkCandles wsX3_darkCandles rm_X3_darkCandles [.ref (M 0)] (wN E M (th, Hb, a, k)) (l_mdk Hb a (n_np Hb)) (wN E M (0, Hb, a, k)) := by
  refine k_bI (cc := cX3_darkCandles) (maxL := 1) (ret := (some .int)) (by decide) rfl (Nat.le_of_ble_eq_true rfl) ?_
  intro p9 e s9 m args below meth c A9 ls hC hl hw
  obtain ⟨hx, hb, hml, hr, hown, hts, hlocks, hK, hG, hA⟩ := hC
  have hl : lv_has ls 1 [(0, .ref (M 0))] := hl
  refine lv_aload_n hx hb dX3_darkCandles_0 rfl (lv_at hl 0 rfl) ?_
  refine lv_aload_n hx hb dX3_darkCandles_1 rfl (lv_at hl 0 rfl) ?_
  refine kr_i (ws' := wN E M (th, Hb, a, k)) (va_runV (As := []) (rest := [.ref (M 0)]) ⟨hx, hb, hml, hown, hts⟩ (c_X3_allDark l E M th Hb a k (by omega) (by omega) (by omega) (h4) _) (cwV 0 hts gX3_darkCandles_X3_allDark rfl rfl rfl ⟨rfl, hd_X3_allDark⟩ ⟨Nat.le_of_ble_eq_true rfl, Nat.le_of_ble_eq_true rfl⟩) (pwV (ci := 3) (q0 := 0) (C := RX3) hw hK rfl rfl rfl (rpS (AV := [.ref (M 0)]) hw hK hG rp_75)) rfl rfl hl.1 rfl (lv_room (Nat.le_of_ble_eq_true rfl)) dX3_darkCandles_2 ⟨Nat.le_of_ble_eq_true rfl, Nat.le_of_ble_eq_true rfl⟩) hw hA rp_75 (fun H locs hw => ?_)
  refine kr_i (ws' := wN E M (0, Hb, a, k)) (va_runV (As := [.int (l_mdk Hb a (n_np Hb))]) (rest := []) ⟨hx, hb, hml, hown, hts⟩ (c_X3_ok l E M th Hb a k (l_mdk Hb a (n_np Hb))  _) (cwV 1 hts gX3_darkCandles_X3_ok rfl rfl rfl ⟨rfl, hd_X3_ok⟩ ⟨Nat.le_of_ble_eq_true rfl, Nat.le_of_ble_eq_true rfl⟩) (pwV (ci := 3) (q0 := 0) (C := RX3) hw hK rfl rfl rfl (rpS (AV := [.ref (M 0), .int (l_mdk Hb a (n_np Hb))]) hw hK hG rp_75)) rfl rfl hl.1 rfl (lv_room (Nat.le_of_ble_eq_true rfl)) dX3_darkCandles_5 ⟨Nat.le_of_ble_eq_true rfl, Nat.le_of_ble_eq_true rfl⟩) hw hA rp_76 (fun H locs hw => ?_)
  exact k_iret hx hb hr hlocks hK hw rfl dX3_darkCandles_8 (by first | rfl | assumption | (simp only [if_true, if_false, Bool.false_eq_true, Bool.true_eq_false, reduceIte, reduceCtorEq]; done) | (simp only [if_true, if_false, Bool.false_eq_true, Bool.true_eq_false, reduceIte, reduceCtorEq]; rfl) | (simp [if_true, if_false, Bool.false_eq_true, Bool.true_eq_false, reduceIte, reduceCtorEq]; done) | (simp [bI, ]; done)) rfl
abbrev rm_X3_namesOnWall : Room := { frames := 2, cells := 0, slots := 0, locals := 43 }
set_option maxHeartbeats 4000000 in
set_option maxRecDepth 100000 in
theorem c_X3_namesOnWall (l : Launch) (E : Ev) (M : Nat → Nat) (th : Int32) (Hb : MH) (a k : Fn) (h1 : n_ns Hb ≤ 5) (h2 : n_np Hb ≤ 16) (h3 : n_nw Hb ≤ 4) (h4 : ∀ p, p < n_np Hb → n_so Hb p < 5) : MI l E yX3_namesOnWall wsX3_namesOnWall rm_X3_namesOnWall [.ref (M 0)] (wN E M (th, Hb, a, k)) (l_mwl Hb a (n_np Hb)) (wN E M (0, Hb, a, k)) := by
  refine k_bI (cc := cX3_namesOnWall) (maxL := 1) (ret := (some .int)) (by decide) rfl (Nat.le_of_ble_eq_true rfl) ?_
  intro p9 e s9 m args below meth c A9 ls hC hl hw
  obtain ⟨hx, hb, hml, hr, hown, hts, hlocks, hK, hG, hA⟩ := hC
  have hl : lv_has ls 1 [(0, .ref (M 0))] := hl
  refine lv_aload_n hx hb dX3_namesOnWall_0 rfl (lv_at hl 0 rfl) ?_
  refine lv_aload_n hx hb dX3_namesOnWall_1 rfl (lv_at hl 0 rfl) ?_
  refine kr_i (ws' := wN E M (th, Hb, a, k)) (va_runV (As := []) (rest := [.ref (M 0)]) ⟨hx, hb, hml, hown, hts⟩ (c_X3_onWall l E M th Hb a k (by omega) (by omega) (by omega) (h4) _) (cwV 0 hts gX3_namesOnWall_X3_onWall rfl rfl rfl ⟨rfl, hd_X3_onWall⟩ ⟨Nat.le_of_ble_eq_true rfl, Nat.le_of_ble_eq_true rfl⟩) (pwV (ci := 3) (q0 := 0) (C := RX3) hw hK rfl rfl rfl (rpS (AV := [.ref (M 0)]) hw hK hG rp_75)) rfl rfl hl.1 rfl (lv_room (Nat.le_of_ble_eq_true rfl)) dX3_namesOnWall_2 ⟨Nat.le_of_ble_eq_true rfl, Nat.le_of_ble_eq_true rfl⟩) hw hA rp_75 (fun H locs hw => ?_)
  refine kr_i (ws' := wN E M (0, Hb, a, k)) (va_runV (As := [.int (l_mwl Hb a (n_np Hb))]) (rest := []) ⟨hx, hb, hml, hown, hts⟩ (c_X3_ok l E M th Hb a k (l_mwl Hb a (n_np Hb))  _) (cwV 1 hts gX3_namesOnWall_X3_ok rfl rfl rfl ⟨rfl, hd_X3_ok⟩ ⟨Nat.le_of_ble_eq_true rfl, Nat.le_of_ble_eq_true rfl⟩) (pwV (ci := 3) (q0 := 0) (C := RX3) hw hK rfl rfl rfl (rpS (AV := [.ref (M 0), .int (l_mwl Hb a (n_np Hb))]) hw hK hG rp_75)) rfl rfl hl.1 rfl (lv_room (Nat.le_of_ble_eq_true rfl)) dX3_namesOnWall_5 ⟨Nat.le_of_ble_eq_true rfl, Nat.le_of_ble_eq_true rfl⟩) hw hA rp_76 (fun H locs hw => ?_)
  exact k_iret hx hb hr hlocks hK hw rfl dX3_namesOnWall_8 (by first | rfl | assumption | (simp only [if_true, if_false, Bool.false_eq_true, Bool.true_eq_false, reduceIte, reduceCtorEq]; done) | (simp only [if_true, if_false, Bool.false_eq_true, Bool.true_eq_false, reduceIte, reduceCtorEq]; rfl) | (simp [if_true, if_false, Bool.false_eq_true, Bool.true_eq_false, reduceIte, reduceCtorEq]; done) | (simp [bI, ]; done)) rfl
abbrev rm_X3_mastsOf : Room := { frames := 2, cells := 0, slots := 0, locals := 43 }
set_option maxHeartbeats 4000000 in
set_option maxRecDepth 100000 in
theorem c_X3_mastsOf_1 (l : Launch) (E : Ev) (M : Nat → Nat) (th : Int32) (Hb : MH) (a k : Fn) (s : Int32) (h1 : n_ns Hb ≤ 5) (h2 : n_np Hb ≤ 16) (h3 : n_nw Hb ≤ 4) (h4 : ∀ p, p < n_np Hb → n_so Hb p < 5) (hd_ns : d_in s 0 (nI (n_ns Hb) - 1) = false) : MI l E yX3_mastsOf wsX3_mastsOf rm_X3_mastsOf [.ref (M 0), .int s] (wN E M (th, Hb, a, k)) 0 (wN E M (1, Hb, a, k)) := by
  refine k_bI (cc := cX3_mastsOf) (maxL := 2) (ret := (some .int)) (by decide) rfl (Nat.le_of_ble_eq_true rfl) ?_
  intro p9 e s9 m args below meth c A9 ls hC hl hw
  obtain ⟨hx, hb, hml, hr, hown, hts, hlocks, hK, hG, hA⟩ := hC
  have hf29 := hts (.fieldLink RX3 29 "SailorCandlesModel" "thrown" "I") (List.mem_of_getElem? (i := 1) rfl)
  have hinX3 : ∀ w ∈ wsX30, w ∈ wsX3_mastsOf := fun w h => List.mem_cons_of_mem _ (List.mem_append_right _ h)
  have hl : lv_has ls 2 [(0, .ref (M 0)), (1, .int s)] := hl
  refine lv_aload_n hx hb dX3_mastsOf_0 rfl (lv_at hl 0 rfl) ?_
  refine lv_iconst (v := 0) hx hb dX3_mastsOf_1 (by decide) ?_
  refine k_put (ci := 3) (C := RX3) (T := TX3) (N := 10) (ws' := wN E M (0, Hb, a, k)) hx hb hown hK hw hts hinX3 tyX3 tyX3_ok nmX3 0 rfl rfl 0 (by decide) hf29 rfl rfl (Nat.le_of_ble_eq_true rfl) dX3_mastsOf_2 rfl (fun H locs hw => ?_)
  refine lv_aload_n hx hb dX3_mastsOf_5 rfl (lv_at hl 0 rfl) ?_
  refine lv_iload_n hx hb dX3_mastsOf_6 rfl (lv_at hl 1 rfl) ?_
  refine kr_i (ws' := wN E M (0, Hb, a, k)) (va_runV (As := [.int s]) (rest := []) ⟨hx, hb, hml, hown, hts⟩ (c_X3_isShip l E M 0 Hb a k s  _) (cwV 1 hts gX3_mastsOf_X3_isShip rfl rfl rfl ⟨rfl, hd_X3_isShip⟩ ⟨Nat.le_of_ble_eq_true rfl, Nat.le_of_ble_eq_true rfl⟩) (pwV (ci := 3) (q0 := 0) (C := RX3) hw hK rfl rfl rfl (rpS (AV := [.ref (M 0), .int s]) hw hK hG rp_75)) rfl rfl hl.1 rfl (lv_room (Nat.le_of_ble_eq_true rfl)) dX3_mastsOf_7 ⟨Nat.le_of_ble_eq_true rfl, Nat.le_of_ble_eq_true rfl⟩) hw hA rp_75 (fun H locs hw => ?_)
  refine lv_if_eq (tgt := 22) hx hb dX3_mastsOf_10 (by decide) (fun _ => ?_) (fun q8 => absurd (by rw [hd_ns]; rfl) q8)
  refine lv_aload_n hx hb dX3_mastsOf_22 rfl (lv_at hl 0 rfl) ?_
  refine lv_iconst (v := 1) hx hb dX3_mastsOf_23 (by decide) ?_
  refine kr_i (ws' := wN E M (1, Hb, a, k)) (va_runV (As := [.int 1]) (rest := []) ⟨hx, hb, hml, hown, hts⟩ (c_X3_no l E M 0 Hb a k 1  _) (cwV 1 hts gX3_mastsOf_X3_no rfl rfl rfl ⟨rfl, hd_X3_no⟩ ⟨Nat.le_of_ble_eq_true rfl, Nat.le_of_ble_eq_true rfl⟩) (pwV (ci := 3) (q0 := 0) (C := RX3) hw hK rfl rfl rfl (rpS (AV := [.ref (M 0), .int 1]) hw hK hG rp_75)) rfl rfl hl.1 rfl (lv_room (Nat.le_of_ble_eq_true rfl)) dX3_mastsOf_24 ⟨Nat.le_of_ble_eq_true rfl, Nat.le_of_ble_eq_true rfl⟩) hw hA rp_76 (fun H locs hw => ?_)
  exact k_iret hx hb hr hlocks hK hw rfl dX3_mastsOf_27 rfl rfl
set_option maxHeartbeats 4000000 in
set_option maxRecDepth 100000 in
theorem c_X3_mastsOf (l : Launch) (E : Ev) (M : Nat → Nat) (th : Int32) (Hb : MH) (a k : Fn) (s : Nat) (h1 : n_ns Hb ≤ 5) (h2 : n_np Hb ≤ 16) (h3 : n_nw Hb ≤ 4) (h4 : ∀ p, p < n_np Hb → n_so Hb p < 5) (hs : s < n_ns Hb) : MI l E yX3_mastsOf wsX3_mastsOf rm_X3_mastsOf [.ref (M 0), .int (nI s)] (wN E M (th, Hb, a, k)) (n_ma Hb s) (wN E M (0, Hb, a, k)) := by
  refine k_bI (cc := cX3_mastsOf) (maxL := 2) (ret := (some .int)) (by decide) rfl (Nat.le_of_ble_eq_true rfl) ?_
  intro p9 e s9 m args below meth c A9 ls hC hl hw
  obtain ⟨hx, hb, hml, hr, hown, hts, hlocks, hK, hG, hA⟩ := hC
  have hf29 := hts (.fieldLink RX3 29 "SailorCandlesModel" "thrown" "I") (List.mem_of_getElem? (i := 1) rfl)
  have hinX3 : ∀ w ∈ wsX30, w ∈ wsX3_mastsOf := fun w h => List.mem_cons_of_mem _ (List.mem_append_right _ h)
  have hf9 := hts (.fieldLink RX3 9 "SailorCandlesModel" "masts" "[I") (List.mem_of_getElem? (i := 2) rfl)
  have hl : lv_has ls 2 [(0, .ref (M 0)), (1, .int (nI s))] := hl
  refine lv_aload_n hx hb dX3_mastsOf_0 rfl (lv_at hl 0 rfl) ?_
  refine lv_iconst (v := 0) hx hb dX3_mastsOf_1 (by decide) ?_
  refine k_put (ci := 3) (C := RX3) (T := TX3) (N := 10) (ws' := wN E M (0, Hb, a, k)) hx hb hown hK hw hts hinX3 tyX3 tyX3_ok nmX3 0 rfl rfl 0 (by decide) hf29 rfl rfl (Nat.le_of_ble_eq_true rfl) dX3_mastsOf_2 rfl (fun H locs hw => ?_)
  refine lv_aload_n hx hb dX3_mastsOf_5 rfl (lv_at hl 0 rfl) ?_
  refine lv_iload_n hx hb dX3_mastsOf_6 rfl (lv_at hl 1 rfl) ?_
  refine kr_i (ws' := wN E M (0, Hb, a, k)) (va_runV (As := [.int (nI s)]) (rest := []) ⟨hx, hb, hml, hown, hts⟩ (c_X3_isShip l E M 0 Hb a k (nI s)  _) (cwV 1 hts gX3_mastsOf_X3_isShip rfl rfl rfl ⟨rfl, hd_X3_isShip⟩ ⟨Nat.le_of_ble_eq_true rfl, Nat.le_of_ble_eq_true rfl⟩) (pwV (ci := 3) (q0 := 0) (C := RX3) hw hK rfl rfl rfl (rpS (AV := [.ref (M 0), .int (nI s)]) hw hK hG rp_75)) rfl rfl hl.1 rfl (lv_room (Nat.le_of_ble_eq_true rfl)) dX3_mastsOf_7 ⟨Nat.le_of_ble_eq_true rfl, Nat.le_of_ble_eq_true rfl⟩) hw hA rp_75 (fun H locs hw => ?_)
  refine lv_if_eq (tgt := 22) hx hb dX3_mastsOf_10 (by decide) (fun q8 => absurd q8 (fun q7 => absurd ((d_in_n (n := s) (k := n_ns Hb) (by omega) (by omega)).symm.trans (bI_z q7)) (by decide))) (fun _ => ?_)
  refine lv_aload_n hx hb dX3_mastsOf_13 rfl (lv_at hl 0 rfl) ?_
  refine k_get (ci := 3) (v := .ref (M 1)) (C := RX3) (T := TX3) (N := 10) hx hb hown hK hw hts hinX3 0 rfl rfl 2 (by decide) hf9 rfl dX3_mastsOf_14 ?_
  refine lv_iload_n hx hb dX3_mastsOf_17 rfl (lv_at hl 1 rfl) ?_
  refine k_ildN (i := s) (f := n_ma Hb) hx hb hK hw 1 rfl (by omega) (by omega) dX3_mastsOf_18 ?_
  refine lv_goto (tgt := 27) hx hb dX3_mastsOf_19 (by decide) ?_
  exact k_iret hx hb hr hlocks hK hw rfl dX3_mastsOf_27 rfl rfl
abbrev rm_X3_isAway : Room := { frames := 3, cells := 0, slots := 0, locals := 65 }
set_option maxHeartbeats 4000000 in
set_option maxRecDepth 100000 in
theorem c_X3_isAway_1 (l : Launch) (E : Ev) (M : Nat → Nat) (th : Int32) (Hb : MH) (a k : Fn) (s : Int32) (h1 : n_ns Hb ≤ 5) (h2 : n_np Hb ≤ 16) (h3 : n_nw Hb ≤ 4) (h4 : ∀ p, p < n_np Hb → n_so Hb p < 5) (hd_ns : d_in s 0 (nI (n_ns Hb) - 1) = false) : MI l E yX3_isAway wsX3_isAway rm_X3_isAway [.ref (M 0), .int s] (wN E M (th, Hb, a, k)) (bI false) (wN E M (1, Hb, a, k)) := by
  refine k_bI (cc := cX3_isAway) (maxL := 2) (ret := (some .boolean)) (by decide) rfl (Nat.le_of_ble_eq_true rfl) ?_
  intro p9 e s9 m args below meth c A9 ls hC hl hw
  obtain ⟨hx, hb, hml, hr, hown, hts, hlocks, hK, hG, hA⟩ := hC
  have hl : lv_has ls 2 [(0, .ref (M 0)), (1, .int s)] := hl
  refine lv_aload_n hx hb dX3_isAway_0 rfl (lv_at hl 0 rfl) ?_
  refine lv_iload_n hx hb dX3_isAway_1 rfl (lv_at hl 1 rfl) ?_
  refine lv_iconst (v := 0) hx hb dX3_isAway_2 (by decide) ?_
  refine kr_i (ws' := wN E M (1, Hb, a, k)) (va_runV (As := [.int s, .int 0]) (rest := []) ⟨hx, hb, hml, hown, hts⟩ (c_X3_ofShip_1 l E M th Hb a k s 0 (by omega) (by omega) (by omega) (h4) (by omega) _) (cwV 2 hts gX3_isAway_X3_ofShip rfl rfl rfl ⟨rfl, hd_X3_ofShip⟩ ⟨Nat.le_of_ble_eq_true rfl, Nat.le_of_ble_eq_true rfl⟩) (pwV (ci := 3) (q0 := 0) (C := RX3) hw hK rfl rfl rfl (rpS (AV := [.ref (M 0), .int s, .int 0]) hw hK hG rp_75)) rfl rfl hl.1 rfl (lv_room (Nat.le_of_ble_eq_true rfl)) dX3_isAway_3 ⟨Nat.le_of_ble_eq_true rfl, Nat.le_of_ble_eq_true rfl⟩) hw hA rp_76 (fun H locs hw => ?_)
  refine lv_if_eq (tgt := 13) hx hb dX3_isAway_6 (by decide) (fun _ => ?_) (fun q8 => absurd (by decide) q8)
  refine lv_iconst (v := 0) hx hb dX3_isAway_13 (by decide) ?_
  exact k_iret hx hb hr hlocks hK hw rfl dX3_isAway_14 (by first | rfl | assumption | (simp only [if_true, if_false, Bool.false_eq_true, Bool.true_eq_false, reduceIte, reduceCtorEq]; done) | (simp only [if_true, if_false, Bool.false_eq_true, Bool.true_eq_false, reduceIte, reduceCtorEq]; rfl) | (simp [if_true, if_false, Bool.false_eq_true, Bool.true_eq_false, reduceIte, reduceCtorEq]; done) | (simp [bI, ]; done)) rfl
set_option maxHeartbeats 4000000 in
set_option maxRecDepth 100000 in
theorem c_X3_isAway (l : Launch) (E : Ev) (M : Nat → Nat) (th : Int32) (Hb : MH) (a k : Fn) (s : Nat) (h1 : n_ns Hb ≤ 5) (h2 : n_np Hb ≤ 16) (h3 : n_nw Hb ≤ 4) (h4 : ∀ p, p < n_np Hb → n_so Hb p < 5) (hs : s < n_ns Hb) : MI l E yX3_isAway wsX3_isAway rm_X3_isAway [.ref (M 0), .int (nI s)] (wN E M (th, Hb, a, k)) (bI (if a (3 + 3 * s + 0) = 0 then false else true)) (wN E M (0, Hb, a, k)) := by
  refine k_bI (cc := cX3_isAway) (maxL := 2) (ret := (some .boolean)) (by decide) rfl (Nat.le_of_ble_eq_true rfl) ?_
  intro p9 e s9 m args below meth c A9 ls hC hl hw
  obtain ⟨hx, hb, hml, hr, hown, hts, hlocks, hK, hG, hA⟩ := hC
  have hl : lv_has ls 2 [(0, .ref (M 0)), (1, .int (nI s))] := hl
  refine lv_aload_n hx hb dX3_isAway_0 rfl (lv_at hl 0 rfl) ?_
  refine lv_iload_n hx hb dX3_isAway_1 rfl (lv_at hl 1 rfl) ?_
  refine lv_iconst (v := 0) hx hb dX3_isAway_2 (by decide) ?_
  refine kr_i (ws' := wN E M (0, Hb, a, k)) (va_runV (As := [.int (nI s), .int 0]) (rest := []) ⟨hx, hb, hml, hown, hts⟩ (c_X3_ofShip l E M th Hb a k s 0 (by omega) (by omega) (by omega) (h4) (by omega) (by omega) _) (cwV 2 hts gX3_isAway_X3_ofShip rfl rfl rfl ⟨rfl, hd_X3_ofShip⟩ ⟨Nat.le_of_ble_eq_true rfl, Nat.le_of_ble_eq_true rfl⟩) (pwV (ci := 3) (q0 := 0) (C := RX3) hw hK rfl rfl rfl (rpS (AV := [.ref (M 0), .int (nI s), .int 0]) hw hK hG rp_75)) rfl rfl hl.1 rfl (lv_room (Nat.le_of_ble_eq_true rfl)) dX3_isAway_3 ⟨Nat.le_of_ble_eq_true rfl, Nat.le_of_ble_eq_true rfl⟩) hw hA rp_76 (fun H locs hw => ?_)
  refine lv_if_eq (tgt := 13) hx hb dX3_isAway_6 (by decide) (fun c_1 => ?_) (fun c_1 => ?_)
  · refine lv_iconst (v := 0) hx hb dX3_isAway_13 (by decide) ?_
    exact k_iret hx hb hr hlocks hK hw rfl dX3_isAway_14 (by first | assumption | (simp only [bI_t, bI_f, if_pos c_1, if_true, if_false, Bool.false_eq_true, Bool.true_eq_false, reduceIte, reduceCtorEq]; done) | (simp only [bI_t, bI_f, if_pos c_1, if_true, if_false, Bool.false_eq_true, Bool.true_eq_false, reduceIte, reduceCtorEq]; rfl) | rfl | (simp [bI_t, bI_f, if_pos c_1, if_true, if_false, Bool.false_eq_true, Bool.true_eq_false, reduceIte, reduceCtorEq]; done) | (simp [bI, bI_t, bI_f, c_1]; done)) rfl
  · refine lv_iconst (v := 1) hx hb dX3_isAway_9 (by decide) ?_
    refine lv_goto (tgt := 14) hx hb dX3_isAway_10 (by decide) ?_
    exact k_iret hx hb hr hlocks hK hw rfl dX3_isAway_14 (by first | assumption | (simp only [bI_t, bI_f, if_neg c_1, if_true, if_false, Bool.false_eq_true, Bool.true_eq_false, reduceIte, reduceCtorEq]; done) | (simp only [bI_t, bI_f, if_neg c_1, if_true, if_false, Bool.false_eq_true, Bool.true_eq_false, reduceIte, reduceCtorEq]; rfl) | rfl | (simp [bI_t, bI_f, if_neg c_1, if_true, if_false, Bool.false_eq_true, Bool.true_eq_false, reduceIte, reduceCtorEq]; done) | (simp [bI, bI_t, bI_f, c_1]; done)) rfl
abbrev rm_X3_isLost : Room := { frames := 3, cells := 0, slots := 0, locals := 65 }
set_option maxHeartbeats 4000000 in
set_option maxRecDepth 100000 in
theorem c_X3_isLost_1 (l : Launch) (E : Ev) (M : Nat → Nat) (th : Int32) (Hb : MH) (a k : Fn) (s : Int32) (h1 : n_ns Hb ≤ 5) (h2 : n_np Hb ≤ 16) (h3 : n_nw Hb ≤ 4) (h4 : ∀ p, p < n_np Hb → n_so Hb p < 5) (hd_ns : d_in s 0 (nI (n_ns Hb) - 1) = false) : MI l E yX3_isLost wsX3_isLost rm_X3_isLost [.ref (M 0), .int s] (wN E M (th, Hb, a, k)) (bI false) (wN E M (1, Hb, a, k)) := by
  refine k_bI (cc := cX3_isLost) (maxL := 2) (ret := (some .boolean)) (by decide) rfl (Nat.le_of_ble_eq_true rfl) ?_
  intro p9 e s9 m args below meth c A9 ls hC hl hw
  obtain ⟨hx, hb, hml, hr, hown, hts, hlocks, hK, hG, hA⟩ := hC
  have hl : lv_has ls 2 [(0, .ref (M 0)), (1, .int s)] := hl
  refine lv_aload_n hx hb dX3_isLost_0 rfl (lv_at hl 0 rfl) ?_
  refine lv_iload_n hx hb dX3_isLost_1 rfl (lv_at hl 1 rfl) ?_
  refine lv_iconst (v := 0) hx hb dX3_isLost_2 (by decide) ?_
  refine kr_i (ws' := wN E M (1, Hb, a, k)) (va_runV (As := [.int s, .int 0]) (rest := []) ⟨hx, hb, hml, hown, hts⟩ (c_X3_ofShip_1 l E M th Hb a k s 0 (by omega) (by omega) (by omega) (h4) (by omega) _) (cwV 2 hts gX3_isLost_X3_ofShip rfl rfl rfl ⟨rfl, hd_X3_ofShip⟩ ⟨Nat.le_of_ble_eq_true rfl, Nat.le_of_ble_eq_true rfl⟩) (pwV (ci := 3) (q0 := 0) (C := RX3) hw hK rfl rfl rfl (rpS (AV := [.ref (M 0), .int s, .int 0]) hw hK hG rp_75)) rfl rfl hl.1 rfl (lv_room (Nat.le_of_ble_eq_true rfl)) dX3_isLost_3 ⟨Nat.le_of_ble_eq_true rfl, Nat.le_of_ble_eq_true rfl⟩) hw hA rp_76 (fun H locs hw => ?_)
  refine lv_iconst (v := 2) hx hb dX3_isLost_6 (by decide) ?_
  refine lv_icmp_ne (tgt := 14) hx hb dX3_isLost_7 (by decide) (fun _ => ?_) (fun q8 => absurd q8 (by decide))
  refine lv_iconst (v := 0) hx hb dX3_isLost_14 (by decide) ?_
  exact k_iret hx hb hr hlocks hK hw rfl dX3_isLost_15 (by first | rfl | assumption | (simp only [if_true, if_false, Bool.false_eq_true, Bool.true_eq_false, reduceIte, reduceCtorEq]; done) | (simp only [if_true, if_false, Bool.false_eq_true, Bool.true_eq_false, reduceIte, reduceCtorEq]; rfl) | (simp [if_true, if_false, Bool.false_eq_true, Bool.true_eq_false, reduceIte, reduceCtorEq]; done) | (simp [bI, ]; done)) rfl
set_option maxHeartbeats 4000000 in
set_option maxRecDepth 100000 in
theorem c_X3_isLost (l : Launch) (E : Ev) (M : Nat → Nat) (th : Int32) (Hb : MH) (a k : Fn) (s : Nat) (h1 : n_ns Hb ≤ 5) (h2 : n_np Hb ≤ 16) (h3 : n_nw Hb ≤ 4) (h4 : ∀ p, p < n_np Hb → n_so Hb p < 5) (hs : s < n_ns Hb) : MI l E yX3_isLost wsX3_isLost rm_X3_isLost [.ref (M 0), .int (nI s)] (wN E M (th, Hb, a, k)) (bI (if a (3 + 3 * s + 0) = 2 then true else false)) (wN E M (0, Hb, a, k)) := by
  refine k_bI (cc := cX3_isLost) (maxL := 2) (ret := (some .boolean)) (by decide) rfl (Nat.le_of_ble_eq_true rfl) ?_
  intro p9 e s9 m args below meth c A9 ls hC hl hw
  obtain ⟨hx, hb, hml, hr, hown, hts, hlocks, hK, hG, hA⟩ := hC
  have hl : lv_has ls 2 [(0, .ref (M 0)), (1, .int (nI s))] := hl
  refine lv_aload_n hx hb dX3_isLost_0 rfl (lv_at hl 0 rfl) ?_
  refine lv_iload_n hx hb dX3_isLost_1 rfl (lv_at hl 1 rfl) ?_
  refine lv_iconst (v := 0) hx hb dX3_isLost_2 (by decide) ?_
  refine kr_i (ws' := wN E M (0, Hb, a, k)) (va_runV (As := [.int (nI s), .int 0]) (rest := []) ⟨hx, hb, hml, hown, hts⟩ (c_X3_ofShip l E M th Hb a k s 0 (by omega) (by omega) (by omega) (h4) (by omega) (by omega) _) (cwV 2 hts gX3_isLost_X3_ofShip rfl rfl rfl ⟨rfl, hd_X3_ofShip⟩ ⟨Nat.le_of_ble_eq_true rfl, Nat.le_of_ble_eq_true rfl⟩) (pwV (ci := 3) (q0 := 0) (C := RX3) hw hK rfl rfl rfl (rpS (AV := [.ref (M 0), .int (nI s), .int 0]) hw hK hG rp_75)) rfl rfl hl.1 rfl (lv_room (Nat.le_of_ble_eq_true rfl)) dX3_isLost_3 ⟨Nat.le_of_ble_eq_true rfl, Nat.le_of_ble_eq_true rfl⟩) hw hA rp_76 (fun H locs hw => ?_)
  refine lv_iconst (v := 2) hx hb dX3_isLost_6 (by decide) ?_
  refine lv_icmp_ne (tgt := 14) hx hb dX3_isLost_7 (by decide) (fun c_1 => ?_) (fun c_1 => ?_)
  · refine lv_iconst (v := 0) hx hb dX3_isLost_14 (by decide) ?_
    exact k_iret hx hb hr hlocks hK hw rfl dX3_isLost_15 (by first | assumption | (simp only [bI_t, bI_f, if_neg c_1, if_true, if_false, Bool.false_eq_true, Bool.true_eq_false, reduceIte, reduceCtorEq]; done) | (simp only [bI_t, bI_f, if_neg c_1, if_true, if_false, Bool.false_eq_true, Bool.true_eq_false, reduceIte, reduceCtorEq]; rfl) | rfl | (simp [bI_t, bI_f, if_neg c_1, if_true, if_false, Bool.false_eq_true, Bool.true_eq_false, reduceIte, reduceCtorEq]; done) | (simp [bI, bI_t, bI_f, c_1]; done)) rfl
  · refine lv_iconst (v := 1) hx hb dX3_isLost_10 (by decide) ?_
    refine lv_goto (tgt := 15) hx hb dX3_isLost_11 (by decide) ?_
    exact k_iret hx hb hr hlocks hK hw rfl dX3_isLost_15 (by first | assumption | (simp only [bI_t, bI_f, if_pos c_1, if_true, if_false, Bool.false_eq_true, Bool.true_eq_false, reduceIte, reduceCtorEq]; done) | (simp only [bI_t, bI_f, if_pos c_1, if_true, if_false, Bool.false_eq_true, Bool.true_eq_false, reduceIte, reduceCtorEq]; rfl) | rfl | (simp [bI_t, bI_f, if_pos c_1, if_true, if_false, Bool.false_eq_true, Bool.true_eq_false, reduceIte, reduceCtorEq]; done) | (simp [bI, bI_t, bI_f, c_1]; done)) rfl
abbrev rm_X3_nightsOut : Room := { frames := 3, cells := 0, slots := 0, locals := 65 }
set_option maxHeartbeats 4000000 in
set_option maxRecDepth 100000 in
theorem c_X3_nightsOut_1 (l : Launch) (E : Ev) (M : Nat → Nat) (th : Int32) (Hb : MH) (a k : Fn) (s : Int32) (h1 : n_ns Hb ≤ 5) (h2 : n_np Hb ≤ 16) (h3 : n_nw Hb ≤ 4) (h4 : ∀ p, p < n_np Hb → n_so Hb p < 5) (hd_ns : d_in s 0 (nI (n_ns Hb) - 1) = false) : MI l E yX3_nightsOut wsX3_nightsOut rm_X3_nightsOut [.ref (M 0), .int s] (wN E M (th, Hb, a, k)) 0 (wN E M (1, Hb, a, k)) := by
  refine k_bI (cc := cX3_nightsOut) (maxL := 2) (ret := (some .int)) (by decide) rfl (Nat.le_of_ble_eq_true rfl) ?_
  intro p9 e s9 m args below meth c A9 ls hC hl hw
  obtain ⟨hx, hb, hml, hr, hown, hts, hlocks, hK, hG, hA⟩ := hC
  have hl : lv_has ls 2 [(0, .ref (M 0)), (1, .int s)] := hl
  refine lv_aload_n hx hb dX3_nightsOut_0 rfl (lv_at hl 0 rfl) ?_
  refine lv_iload_n hx hb dX3_nightsOut_1 rfl (lv_at hl 1 rfl) ?_
  refine lv_iconst (v := 1) hx hb dX3_nightsOut_2 (by decide) ?_
  refine kr_i (ws' := wN E M (1, Hb, a, k)) (va_runV (As := [.int s, .int 1]) (rest := []) ⟨hx, hb, hml, hown, hts⟩ (c_X3_ofShip_1 l E M th Hb a k s 1 (by omega) (by omega) (by omega) (h4) (by omega) _) (cwV 2 hts gX3_nightsOut_X3_ofShip rfl rfl rfl ⟨rfl, hd_X3_ofShip⟩ ⟨Nat.le_of_ble_eq_true rfl, Nat.le_of_ble_eq_true rfl⟩) (pwV (ci := 3) (q0 := 0) (C := RX3) hw hK rfl rfl rfl (rpS (AV := [.ref (M 0), .int s, .int 1]) hw hK hG rp_75)) rfl rfl hl.1 rfl (lv_room (Nat.le_of_ble_eq_true rfl)) dX3_nightsOut_3 ⟨Nat.le_of_ble_eq_true rfl, Nat.le_of_ble_eq_true rfl⟩) hw hA rp_76 (fun H locs hw => ?_)
  exact k_iret hx hb hr hlocks hK hw rfl dX3_nightsOut_6 rfl rfl
set_option maxHeartbeats 4000000 in
set_option maxRecDepth 100000 in
theorem c_X3_nightsOut (l : Launch) (E : Ev) (M : Nat → Nat) (th : Int32) (Hb : MH) (a k : Fn) (s : Nat) (h1 : n_ns Hb ≤ 5) (h2 : n_np Hb ≤ 16) (h3 : n_nw Hb ≤ 4) (h4 : ∀ p, p < n_np Hb → n_so Hb p < 5) (hs : s < n_ns Hb) : MI l E yX3_nightsOut wsX3_nightsOut rm_X3_nightsOut [.ref (M 0), .int (nI s)] (wN E M (th, Hb, a, k)) (a (3 + 3 * s + 1)) (wN E M (0, Hb, a, k)) := by
  refine k_bI (cc := cX3_nightsOut) (maxL := 2) (ret := (some .int)) (by decide) rfl (Nat.le_of_ble_eq_true rfl) ?_
  intro p9 e s9 m args below meth c A9 ls hC hl hw
  obtain ⟨hx, hb, hml, hr, hown, hts, hlocks, hK, hG, hA⟩ := hC
  have hl : lv_has ls 2 [(0, .ref (M 0)), (1, .int (nI s))] := hl
  refine lv_aload_n hx hb dX3_nightsOut_0 rfl (lv_at hl 0 rfl) ?_
  refine lv_iload_n hx hb dX3_nightsOut_1 rfl (lv_at hl 1 rfl) ?_
  refine lv_iconst (v := 1) hx hb dX3_nightsOut_2 (by decide) ?_
  refine kr_i (ws' := wN E M (0, Hb, a, k)) (va_runV (As := [.int (nI s), .int 1]) (rest := []) ⟨hx, hb, hml, hown, hts⟩ (c_X3_ofShip l E M th Hb a k s 1 (by omega) (by omega) (by omega) (h4) (by omega) (by omega) _) (cwV 2 hts gX3_nightsOut_X3_ofShip rfl rfl rfl ⟨rfl, hd_X3_ofShip⟩ ⟨Nat.le_of_ble_eq_true rfl, Nat.le_of_ble_eq_true rfl⟩) (pwV (ci := 3) (q0 := 0) (C := RX3) hw hK rfl rfl rfl (rpS (AV := [.ref (M 0), .int (nI s), .int 1]) hw hK hG rp_75)) rfl rfl hl.1 rfl (lv_room (Nat.le_of_ble_eq_true rfl)) dX3_nightsOut_3 ⟨Nat.le_of_ble_eq_true rfl, Nat.le_of_ble_eq_true rfl⟩) hw hA rp_76 (fun H locs hw => ?_)
  exact k_iret hx hb hr hlocks hK hw rfl dX3_nightsOut_6 rfl rfl
abbrev rm_X3_isRung : Room := { frames := 3, cells := 0, slots := 0, locals := 65 }
set_option maxHeartbeats 4000000 in
set_option maxRecDepth 100000 in
theorem c_X3_isRung_1 (l : Launch) (E : Ev) (M : Nat → Nat) (th : Int32) (Hb : MH) (a k : Fn) (s : Int32) (h1 : n_ns Hb ≤ 5) (h2 : n_np Hb ≤ 16) (h3 : n_nw Hb ≤ 4) (h4 : ∀ p, p < n_np Hb → n_so Hb p < 5) (hd_ns : d_in s 0 (nI (n_ns Hb) - 1) = false) : MI l E yX3_isRung wsX3_isRung rm_X3_isRung [.ref (M 0), .int s] (wN E M (th, Hb, a, k)) (bI false) (wN E M (1, Hb, a, k)) := by
  refine k_bI (cc := cX3_isRung) (maxL := 2) (ret := (some .boolean)) (by decide) rfl (Nat.le_of_ble_eq_true rfl) ?_
  intro p9 e s9 m args below meth c A9 ls hC hl hw
  obtain ⟨hx, hb, hml, hr, hown, hts, hlocks, hK, hG, hA⟩ := hC
  have hl : lv_has ls 2 [(0, .ref (M 0)), (1, .int s)] := hl
  refine lv_aload_n hx hb dX3_isRung_0 rfl (lv_at hl 0 rfl) ?_
  refine lv_iload_n hx hb dX3_isRung_1 rfl (lv_at hl 1 rfl) ?_
  refine lv_iconst (v := 2) hx hb dX3_isRung_2 (by decide) ?_
  refine kr_i (ws' := wN E M (1, Hb, a, k)) (va_runV (As := [.int s, .int 2]) (rest := []) ⟨hx, hb, hml, hown, hts⟩ (c_X3_ofShip_1 l E M th Hb a k s 2 (by omega) (by omega) (by omega) (h4) (by omega) _) (cwV 2 hts gX3_isRung_X3_ofShip rfl rfl rfl ⟨rfl, hd_X3_ofShip⟩ ⟨Nat.le_of_ble_eq_true rfl, Nat.le_of_ble_eq_true rfl⟩) (pwV (ci := 3) (q0 := 0) (C := RX3) hw hK rfl rfl rfl (rpS (AV := [.ref (M 0), .int s, .int 2]) hw hK hG rp_75)) rfl rfl hl.1 rfl (lv_room (Nat.le_of_ble_eq_true rfl)) dX3_isRung_3 ⟨Nat.le_of_ble_eq_true rfl, Nat.le_of_ble_eq_true rfl⟩) hw hA rp_76 (fun H locs hw => ?_)
  refine lv_iconst (v := 1) hx hb dX3_isRung_6 (by decide) ?_
  refine lv_icmp_ne (tgt := 14) hx hb dX3_isRung_7 (by decide) (fun _ => ?_) (fun q8 => absurd q8 (by decide))
  refine lv_iconst (v := 0) hx hb dX3_isRung_14 (by decide) ?_
  exact k_iret hx hb hr hlocks hK hw rfl dX3_isRung_15 (by first | rfl | assumption | (simp only [if_true, if_false, Bool.false_eq_true, Bool.true_eq_false, reduceIte, reduceCtorEq]; done) | (simp only [if_true, if_false, Bool.false_eq_true, Bool.true_eq_false, reduceIte, reduceCtorEq]; rfl) | (simp [if_true, if_false, Bool.false_eq_true, Bool.true_eq_false, reduceIte, reduceCtorEq]; done) | (simp [bI, ]; done)) rfl
set_option maxHeartbeats 4000000 in
set_option maxRecDepth 100000 in
theorem c_X3_isRung (l : Launch) (E : Ev) (M : Nat → Nat) (th : Int32) (Hb : MH) (a k : Fn) (s : Nat) (h1 : n_ns Hb ≤ 5) (h2 : n_np Hb ≤ 16) (h3 : n_nw Hb ≤ 4) (h4 : ∀ p, p < n_np Hb → n_so Hb p < 5) (hs : s < n_ns Hb) : MI l E yX3_isRung wsX3_isRung rm_X3_isRung [.ref (M 0), .int (nI s)] (wN E M (th, Hb, a, k)) (bI (if a (3 + 3 * s + 2) = 1 then true else false)) (wN E M (0, Hb, a, k)) := by
  refine k_bI (cc := cX3_isRung) (maxL := 2) (ret := (some .boolean)) (by decide) rfl (Nat.le_of_ble_eq_true rfl) ?_
  intro p9 e s9 m args below meth c A9 ls hC hl hw
  obtain ⟨hx, hb, hml, hr, hown, hts, hlocks, hK, hG, hA⟩ := hC
  have hl : lv_has ls 2 [(0, .ref (M 0)), (1, .int (nI s))] := hl
  refine lv_aload_n hx hb dX3_isRung_0 rfl (lv_at hl 0 rfl) ?_
  refine lv_iload_n hx hb dX3_isRung_1 rfl (lv_at hl 1 rfl) ?_
  refine lv_iconst (v := 2) hx hb dX3_isRung_2 (by decide) ?_
  refine kr_i (ws' := wN E M (0, Hb, a, k)) (va_runV (As := [.int (nI s), .int 2]) (rest := []) ⟨hx, hb, hml, hown, hts⟩ (c_X3_ofShip l E M th Hb a k s 2 (by omega) (by omega) (by omega) (h4) (by omega) (by omega) _) (cwV 2 hts gX3_isRung_X3_ofShip rfl rfl rfl ⟨rfl, hd_X3_ofShip⟩ ⟨Nat.le_of_ble_eq_true rfl, Nat.le_of_ble_eq_true rfl⟩) (pwV (ci := 3) (q0 := 0) (C := RX3) hw hK rfl rfl rfl (rpS (AV := [.ref (M 0), .int (nI s), .int 2]) hw hK hG rp_75)) rfl rfl hl.1 rfl (lv_room (Nat.le_of_ble_eq_true rfl)) dX3_isRung_3 ⟨Nat.le_of_ble_eq_true rfl, Nat.le_of_ble_eq_true rfl⟩) hw hA rp_76 (fun H locs hw => ?_)
  refine lv_iconst (v := 1) hx hb dX3_isRung_6 (by decide) ?_
  refine lv_icmp_ne (tgt := 14) hx hb dX3_isRung_7 (by decide) (fun c_1 => ?_) (fun c_1 => ?_)
  · refine lv_iconst (v := 0) hx hb dX3_isRung_14 (by decide) ?_
    exact k_iret hx hb hr hlocks hK hw rfl dX3_isRung_15 (by first | assumption | (simp only [bI_t, bI_f, if_neg c_1, if_true, if_false, Bool.false_eq_true, Bool.true_eq_false, reduceIte, reduceCtorEq]; done) | (simp only [bI_t, bI_f, if_neg c_1, if_true, if_false, Bool.false_eq_true, Bool.true_eq_false, reduceIte, reduceCtorEq]; rfl) | rfl | (simp [bI_t, bI_f, if_neg c_1, if_true, if_false, Bool.false_eq_true, Bool.true_eq_false, reduceIte, reduceCtorEq]; done) | (simp [bI, bI_t, bI_f, c_1]; done)) rfl
  · refine lv_iconst (v := 1) hx hb dX3_isRung_10 (by decide) ?_
    refine lv_goto (tgt := 15) hx hb dX3_isRung_11 (by decide) ?_
    exact k_iret hx hb hr hlocks hK hw rfl dX3_isRung_15 (by first | assumption | (simp only [bI_t, bI_f, if_pos c_1, if_true, if_false, Bool.false_eq_true, Bool.true_eq_false, reduceIte, reduceCtorEq]; done) | (simp only [bI_t, bI_f, if_pos c_1, if_true, if_false, Bool.false_eq_true, Bool.true_eq_false, reduceIte, reduceCtorEq]; rfl) | rfl | (simp [bI_t, bI_f, if_pos c_1, if_true, if_false, Bool.false_eq_true, Bool.true_eq_false, reduceIte, reduceCtorEq]; done) | (simp [bI, bI_t, bI_f, c_1]; done)) rfl
