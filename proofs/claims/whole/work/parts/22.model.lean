abbrev rm_X3_no : Room := { frames := 0, cells := 0, slots := 0, locals := 0 }
set_option maxHeartbeats 4000000 in
set_option maxRecDepth 100000 in
theorem c_X3_no (l : Launch) (E : Ev) (M : Nat → Nat) (th : Int32) (Hb : MH) (a k : Fn) (x : Int32) : MI l E yX3_no wsX3_no rm_X3_no [.ref (M 0), .int x] (wN E M (th, Hb, a, k)) 0 (wN E M (x, Hb, a, k)) := by
  refine k_bI (cc := cX3_no) (maxL := 2) (ret := (some .int)) (by decide) rfl (Nat.le_of_ble_eq_true rfl) ?_
  intro p9 e s9 m args below meth c A9 ls hC hl hw
  obtain ⟨hx, hb, hml, hr, hown, hts, hlocks, hK, hG, hA⟩ := hC
  have hf29 := hts (.fieldLink RX3 29 "SailorCandlesModel" "thrown" "I") (List.mem_of_getElem? (i := 1) rfl)
  have hinX3 : ∀ w ∈ wsX30, w ∈ wsX3_no := fun w h => List.mem_cons_of_mem _ (List.mem_append_right _ h)
  have hl : lv_has ls 2 [(0, .ref (M 0)), (1, .int x)] := hl
  refine lv_aload_n hx hb dX3_no_0 rfl (lv_at hl 0 rfl) ?_
  refine lv_iload_n hx hb dX3_no_1 rfl (lv_at hl 1 rfl) ?_
  refine k_put (ci := 3) (C := RX3) (T := TX3) (N := 10) (ws' := wN E M (x, Hb, a, k)) hx hb hown hK hw hts hinX3 tyX3 tyX3_ok nmX3 0 rfl rfl 0 (by decide) hf29 rfl rfl (Nat.le_of_ble_eq_true rfl) dX3_no_2 rfl (fun H locs hw => ?_)
  refine lv_iconst (v := 0) hx hb dX3_no_5 (by decide) ?_
  exact k_iret hx hb hr hlocks hK hw rfl dX3_no_6 rfl rfl
abbrev rm_X3_isNot : Room := { frames := 0, cells := 0, slots := 0, locals := 0 }
set_option maxHeartbeats 4000000 in
set_option maxRecDepth 100000 in
theorem c_X3_isNot (l : Launch) (E : Ev) (M : Nat → Nat) (th : Int32) (Hb : MH) (a k : Fn) (x : Int32) : MI l E yX3_isNot wsX3_isNot rm_X3_isNot [.ref (M 0), .int x] (wN E M (th, Hb, a, k)) (bI false) (wN E M (x, Hb, a, k)) := by
  refine k_bI (cc := cX3_isNot) (maxL := 2) (ret := (some .boolean)) (by decide) rfl (Nat.le_of_ble_eq_true rfl) ?_
  intro p9 e s9 m args below meth c A9 ls hC hl hw
  obtain ⟨hx, hb, hml, hr, hown, hts, hlocks, hK, hG, hA⟩ := hC
  have hf29 := hts (.fieldLink RX3 29 "SailorCandlesModel" "thrown" "I") (List.mem_of_getElem? (i := 1) rfl)
  have hinX3 : ∀ w ∈ wsX30, w ∈ wsX3_isNot := fun w h => List.mem_cons_of_mem _ (List.mem_append_right _ h)
  have hl : lv_has ls 2 [(0, .ref (M 0)), (1, .int x)] := hl
  refine lv_aload_n hx hb dX3_isNot_0 rfl (lv_at hl 0 rfl) ?_
  refine lv_iload_n hx hb dX3_isNot_1 rfl (lv_at hl 1 rfl) ?_
  refine k_put (ci := 3) (C := RX3) (T := TX3) (N := 10) (ws' := wN E M (x, Hb, a, k)) hx hb hown hK hw hts hinX3 tyX3 tyX3_ok nmX3 0 rfl rfl 0 (by decide) hf29 rfl rfl (Nat.le_of_ble_eq_true rfl) dX3_isNot_2 rfl (fun H locs hw => ?_)
  refine lv_iconst (v := 0) hx hb dX3_isNot_5 (by decide) ?_
  exact k_iret hx hb hr hlocks hK hw rfl dX3_isNot_6 (by first | rfl | assumption | (simp only [if_true, if_false, Bool.false_eq_true, Bool.true_eq_false, reduceIte, reduceCtorEq]; done) | (simp only [if_true, if_false, Bool.false_eq_true, Bool.true_eq_false, reduceIte, reduceCtorEq]; rfl) | (simp [if_true, if_false, Bool.false_eq_true, Bool.true_eq_false, reduceIte, reduceCtorEq]; done) | (simp [bI, ]; done)) rfl
abbrev rm_X3_isIn : Room := { frames := 0, cells := 0, slots := 0, locals := 0 }
set_option maxHeartbeats 4000000 in
set_option maxRecDepth 100000 in
theorem c_X3_isIn (l : Launch) (E : Ev) (v : Int32) (lo : Int32) (hi : Int32) : MI l E yX3_isIn wsX3_isIn rm_X3_isIn [.int v, .int lo, .int hi] ([] : va_W) (bI (d_in v lo hi)) ([] : va_W) := by
  refine k_bI (cc := cX3_isIn) (maxL := 3) (ret := (some .boolean)) (by decide) rfl (Nat.le_of_ble_eq_true rfl) ?_
  intro p9 e s9 m args below meth c A9 ls hC hl hw
  obtain ⟨hx, hb, hml, hr, hown, hts, hlocks, hK, hG, hA⟩ := hC
  have hl : lv_has ls 3 [(0, .int v), (1, .int lo), (2, .int hi)] := hl
  refine lv_iload_n hx hb dX3_isIn_0 rfl (lv_at hl 0 rfl) ?_
  refine lv_iload_n hx hb dX3_isIn_1 rfl (lv_at hl 1 rfl) ?_
  refine lv_icmp_lt (tgt := 14) hx hb dX3_isIn_2 (by decide) (fun c_1 => ?_) (fun c_1 => ?_)
  · refine lv_iconst (v := 0) hx hb dX3_isIn_14 (by decide) ?_
    exact k_iret hx hb hr hlocks hK hw rfl dX3_isIn_15 (by first | assumption | (simp only [d_in, bI_t, bI_f, if_pos c_1, if_true, if_false, Bool.false_eq_true, Bool.true_eq_false, reduceIte, reduceCtorEq]; done) | (simp only [d_in, bI_t, bI_f, if_pos c_1, if_true, if_false, Bool.false_eq_true, Bool.true_eq_false, reduceIte, reduceCtorEq]; rfl) | rfl | (simp [d_in, bI_t, bI_f, if_pos c_1, if_true, if_false, Bool.false_eq_true, Bool.true_eq_false, reduceIte, reduceCtorEq]; done) | (simp [bI, d_in, bI_t, bI_f, c_1]; done)) rfl
  · refine lv_iload_n hx hb dX3_isIn_5 rfl (lv_at hl 0 rfl) ?_
    refine lv_iload_n hx hb dX3_isIn_6 rfl (lv_at hl 2 rfl) ?_
    refine lv_icmp_gt (tgt := 14) hx hb dX3_isIn_7 (by decide) (fun c_2 => ?_) (fun c_2 => ?_)
    · refine lv_iconst (v := 0) hx hb dX3_isIn_14 (by decide) ?_
      exact k_iret hx hb hr hlocks hK hw rfl dX3_isIn_15 (by first | assumption | (simp only [d_in, bI_t, bI_f, if_neg c_1, if_pos c_2, if_true, if_false, Bool.false_eq_true, Bool.true_eq_false, reduceIte, reduceCtorEq]; done) | (simp only [d_in, bI_t, bI_f, if_neg c_1, if_pos c_2, if_true, if_false, Bool.false_eq_true, Bool.true_eq_false, reduceIte, reduceCtorEq]; rfl) | rfl | (simp [d_in, bI_t, bI_f, if_neg c_1, if_pos c_2, if_true, if_false, Bool.false_eq_true, Bool.true_eq_false, reduceIte, reduceCtorEq]; done) | (simp [bI, d_in, bI_t, bI_f, c_1, c_2]; done)) rfl
    · refine lv_iconst (v := 1) hx hb dX3_isIn_10 (by decide) ?_
      refine lv_goto (tgt := 15) hx hb dX3_isIn_11 (by decide) ?_
      exact k_iret hx hb hr hlocks hK hw rfl dX3_isIn_15 (by first | assumption | (simp only [d_in, bI_t, bI_f, if_neg c_1, if_neg c_2, if_true, if_false, Bool.false_eq_true, Bool.true_eq_false, reduceIte, reduceCtorEq]; done) | (simp only [d_in, bI_t, bI_f, if_neg c_1, if_neg c_2, if_true, if_false, Bool.false_eq_true, Bool.true_eq_false, reduceIte, reduceCtorEq]; rfl) | rfl | (simp [d_in, bI_t, bI_f, if_neg c_1, if_neg c_2, if_true, if_false, Bool.false_eq_true, Bool.true_eq_false, reduceIte, reduceCtorEq]; done) | (simp [bI, d_in, bI_t, bI_f, c_1, c_2]; done)) rfl
abbrev rm_X3_isShip : Room := { frames := 1, cells := 0, slots := 0, locals := 22 }
set_option maxHeartbeats 4000000 in
set_option maxRecDepth 100000 in
theorem c_X3_isShip (l : Launch) (E : Ev) (M : Nat → Nat) (th : Int32) (Hb : MH) (a k : Fn) (v : Int32) : MI l E yX3_isShip wsX3_isShip rm_X3_isShip [.ref (M 0), .int v] (wN E M (th, Hb, a, k)) (bI (d_in v 0 (nI (n_ns Hb) - 1))) (wN E M (th, Hb, a, k)) := by
  refine k_bI (cc := cX3_isShip) (maxL := 2) (ret := (some .boolean)) (by decide) rfl (Nat.le_of_ble_eq_true rfl) ?_
  intro p9 e s9 m args below meth c A9 ls hC hl hw
  obtain ⟨hx, hb, hml, hr, hown, hts, hlocks, hK, hG, hA⟩ := hC
  have hf33 := hts (.fieldLink RX3 33 "SailorCandlesModel" "ships" "I") (List.mem_of_getElem? (i := 1) rfl)
  have hinX3 : ∀ w ∈ wsX30, w ∈ wsX3_isShip := fun w h => List.mem_cons_of_mem _ (List.mem_append_right _ h)
  have hl : lv_has ls 2 [(0, .ref (M 0)), (1, .int v)] := hl
  refine lv_iload_n hx hb dX3_isShip_0 rfl (lv_at hl 1 rfl) ?_
  refine lv_iconst (v := 0) hx hb dX3_isShip_1 (by decide) ?_
  refine lv_aload_n hx hb dX3_isShip_2 rfl (lv_at hl 0 rfl) ?_
  refine k_get (ci := 3) (v := .int (nI (n_ns Hb))) (C := RX3) (T := TX3) (N := 10) hx hb hown hK hw hts hinX3 0 rfl rfl 1 (by decide) hf33 rfl dX3_isShip_3 ?_
  refine lv_iconst (v := 1) hx hb dX3_isShip_6 (by decide) ?_
  refine lv_isub hx hb dX3_isShip_7 ?_
  refine kr_i (ws' := wN E M (th, Hb, a, k)) (va_runS (As := [.int v, .int 0, .int ((nI (n_ns Hb)) - 1)]) (rest := []) ⟨hx, hb, hml, hown, hts⟩ (c_X3_isIn l E v 0 ((nI (n_ns Hb)) - 1)  _) (va_cwS 3 hts gX3_isShip_X3_isIn rfl rfl rfl hd_X3_isIn ⟨Nat.le_of_ble_eq_true rfl, Nat.le_of_ble_eq_true rfl⟩) (rpS (AV := [.int v, .int 0, .int ((nI (n_ns Hb)) - 1)]) hw hK hG rp_74) rfl rfl hl.1 rfl (lv_room (Nat.le_of_ble_eq_true rfl)) dX3_isShip_8 ⟨Nat.le_of_ble_eq_true rfl, Nat.le_of_ble_eq_true rfl⟩) hw hA rp_74 (fun H locs hw => ?_)
  exact k_iret hx hb hr hlocks hK hw (bI_n _) dX3_isShip_11 (by first | rfl | assumption | (simp only [if_true, if_false, Bool.false_eq_true, Bool.true_eq_false, reduceIte, reduceCtorEq]; done) | (simp only [if_true, if_false, Bool.false_eq_true, Bool.true_eq_false, reduceIte, reduceCtorEq]; rfl) | (simp [if_true, if_false, Bool.false_eq_true, Bool.true_eq_false, reduceIte, reduceCtorEq]; done) | (simp [bI, ]; done)) rfl
abbrev rm_X3_isSailor : Room := { frames := 1, cells := 0, slots := 0, locals := 22 }
set_option maxHeartbeats 4000000 in
set_option maxRecDepth 100000 in
theorem c_X3_isSailor (l : Launch) (E : Ev) (M : Nat → Nat) (th : Int32) (Hb : MH) (a k : Fn) (v : Int32) : MI l E yX3_isSailor wsX3_isSailor rm_X3_isSailor [.ref (M 0), .int v] (wN E M (th, Hb, a, k)) (bI (d_in v 0 (nI (n_np Hb) - 1))) (wN E M (th, Hb, a, k)) := by
  refine k_bI (cc := cX3_isSailor) (maxL := 2) (ret := (some .boolean)) (by decide) rfl (Nat.le_of_ble_eq_true rfl) ?_
  intro p9 e s9 m args below meth c A9 ls hC hl hw
  obtain ⟨hx, hb, hml, hr, hown, hts, hlocks, hK, hG, hA⟩ := hC
  have hf40 := hts (.fieldLink RX3 40 "SailorCandlesModel" "sailors" "I") (List.mem_of_getElem? (i := 1) rfl)
  have hinX3 : ∀ w ∈ wsX30, w ∈ wsX3_isSailor := fun w h => List.mem_cons_of_mem _ (List.mem_append_right _ h)
  have hl : lv_has ls 2 [(0, .ref (M 0)), (1, .int v)] := hl
  refine lv_iload_n hx hb dX3_isSailor_0 rfl (lv_at hl 1 rfl) ?_
  refine lv_iconst (v := 0) hx hb dX3_isSailor_1 (by decide) ?_
  refine lv_aload_n hx hb dX3_isSailor_2 rfl (lv_at hl 0 rfl) ?_
  refine k_get (ci := 3) (v := .int (nI (n_np Hb))) (C := RX3) (T := TX3) (N := 10) hx hb hown hK hw hts hinX3 0 rfl rfl 3 (by decide) hf40 rfl dX3_isSailor_3 ?_
  refine lv_iconst (v := 1) hx hb dX3_isSailor_6 (by decide) ?_
  refine lv_isub hx hb dX3_isSailor_7 ?_
  refine kr_i (ws' := wN E M (th, Hb, a, k)) (va_runS (As := [.int v, .int 0, .int ((nI (n_np Hb)) - 1)]) (rest := []) ⟨hx, hb, hml, hown, hts⟩ (c_X3_isIn l E v 0 ((nI (n_np Hb)) - 1)  _) (va_cwS 3 hts gX3_isSailor_X3_isIn rfl rfl rfl hd_X3_isIn ⟨Nat.le_of_ble_eq_true rfl, Nat.le_of_ble_eq_true rfl⟩) (rpS (AV := [.int v, .int 0, .int ((nI (n_np Hb)) - 1)]) hw hK hG rp_74) rfl rfl hl.1 rfl (lv_room (Nat.le_of_ble_eq_true rfl)) dX3_isSailor_8 ⟨Nat.le_of_ble_eq_true rfl, Nat.le_of_ble_eq_true rfl⟩) hw hA rp_74 (fun H locs hw => ?_)
  exact k_iret hx hb hr hlocks hK hw (bI_n _) dX3_isSailor_11 (by first | rfl | assumption | (simp only [if_true, if_false, Bool.false_eq_true, Bool.true_eq_false, reduceIte, reduceCtorEq]; done) | (simp only [if_true, if_false, Bool.false_eq_true, Bool.true_eq_false, reduceIte, reduceCtorEq]; rfl) | (simp [if_true, if_false, Bool.false_eq_true, Bool.true_eq_false, reduceIte, reduceCtorEq]; done) | (simp [bI, ]; done)) rfl
abbrev rm_X3_isWatcher : Room := { frames := 1, cells := 0, slots := 0, locals := 22 }
set_option maxHeartbeats 4000000 in
set_option maxRecDepth 100000 in
theorem c_X3_isWatcher (l : Launch) (E : Ev) (M : Nat → Nat) (th : Int32) (Hb : MH) (a k : Fn) (v : Int32) : MI l E yX3_isWatcher wsX3_isWatcher rm_X3_isWatcher [.ref (M 0), .int v] (wN E M (th, Hb, a, k)) (bI (d_in v 0 (nI (n_nw Hb) - 1))) (wN E M (th, Hb, a, k)) := by
  refine k_bI (cc := cX3_isWatcher) (maxL := 2) (ret := (some .boolean)) (by decide) rfl (Nat.le_of_ble_eq_true rfl) ?_
  intro p9 e s9 m args below meth c A9 ls hC hl hw
  obtain ⟨hx, hb, hml, hr, hown, hts, hlocks, hK, hG, hA⟩ := hC
  have hf43 := hts (.fieldLink RX3 43 "SailorCandlesModel" "watchers" "I") (List.mem_of_getElem? (i := 1) rfl)
  have hinX3 : ∀ w ∈ wsX30, w ∈ wsX3_isWatcher := fun w h => List.mem_cons_of_mem _ (List.mem_append_right _ h)
  have hl : lv_has ls 2 [(0, .ref (M 0)), (1, .int v)] := hl
  refine lv_iload_n hx hb dX3_isWatcher_0 rfl (lv_at hl 1 rfl) ?_
  refine lv_iconst (v := 0) hx hb dX3_isWatcher_1 (by decide) ?_
  refine lv_aload_n hx hb dX3_isWatcher_2 rfl (lv_at hl 0 rfl) ?_
  refine k_get (ci := 3) (v := .int (nI (n_nw Hb))) (C := RX3) (T := TX3) (N := 10) hx hb hown hK hw hts hinX3 0 rfl rfl 7 (by decide) hf43 rfl dX3_isWatcher_3 ?_
  refine lv_iconst (v := 1) hx hb dX3_isWatcher_6 (by decide) ?_
  refine lv_isub hx hb dX3_isWatcher_7 ?_
  refine kr_i (ws' := wN E M (th, Hb, a, k)) (va_runS (As := [.int v, .int 0, .int ((nI (n_nw Hb)) - 1)]) (rest := []) ⟨hx, hb, hml, hown, hts⟩ (c_X3_isIn l E v 0 ((nI (n_nw Hb)) - 1)  _) (va_cwS 3 hts gX3_isWatcher_X3_isIn rfl rfl rfl hd_X3_isIn ⟨Nat.le_of_ble_eq_true rfl, Nat.le_of_ble_eq_true rfl⟩) (rpS (AV := [.int v, .int 0, .int ((nI (n_nw Hb)) - 1)]) hw hK hG rp_74) rfl rfl hl.1 rfl (lv_room (Nat.le_of_ble_eq_true rfl)) dX3_isWatcher_8 ⟨Nat.le_of_ble_eq_true rfl, Nat.le_of_ble_eq_true rfl⟩) hw hA rp_74 (fun H locs hw => ?_)
  exact k_iret hx hb hr hlocks hK hw (bI_n _) dX3_isWatcher_11 (by first | rfl | assumption | (simp only [if_true, if_false, Bool.false_eq_true, Bool.true_eq_false, reduceIte, reduceCtorEq]; done) | (simp only [if_true, if_false, Bool.false_eq_true, Bool.true_eq_false, reduceIte, reduceCtorEq]; rfl) | (simp [if_true, if_false, Bool.false_eq_true, Bool.true_eq_false, reduceIte, reduceCtorEq]; done) | (simp [bI, ]; done)) rfl
abbrev rm_X3_ship : Room := { frames := 0, cells := 0, slots := 0, locals := 0 }
set_option maxHeartbeats 4000000 in
set_option maxRecDepth 100000 in
theorem c_X3_ship (l : Launch) (E : Ev) (s : Nat) (w : Nat) : MI l E yX3_ship wsX3_ship rm_X3_ship [.int (nI s), .int (nI w)] ([] : va_W) (nI (3 + 3 * s + w)) ([] : va_W) := by
  refine k_bI (cc := cX3_ship) (maxL := 2) (ret := (some .int)) (by decide) rfl (Nat.le_of_ble_eq_true rfl) ?_
  intro p9 e s9 m args below meth c A9 ls hC hl hw
  obtain ⟨hx, hb, hml, hr, hown, hts, hlocks, hK, hG, hA⟩ := hC
  have hl : lv_has ls 2 [(0, .int (nI s)), (1, .int (nI w))] := hl
  refine lv_iconst (v := 3) hx hb dX3_ship_0 (by decide) ?_
  refine lv_iconst (v := 3) hx hb dX3_ship_1 (by decide) ?_
  refine lv_iload_n hx hb dX3_ship_2 rfl (lv_at hl 0 rfl) ?_
  refine k_imulN (a := 3) (b := s) hx hb dX3_ship_3 ?_
  refine k_iaddN (a := 3) (b := 3 * s) hx hb dX3_ship_4 ?_
  refine lv_iload_n hx hb dX3_ship_5 rfl (lv_at hl 1 rfl) ?_
  refine k_iaddN (a := 3 + (3 * s)) (b := w) hx hb dX3_ship_6 ?_
  exact k_iret hx hb hr hlocks hK hw rfl dX3_ship_7 (by first | rfl | assumption | (simp only [d_in, bI_t, bI_f, if_true, if_false, Bool.false_eq_true, Bool.true_eq_false, reduceIte, reduceCtorEq]; done) | (simp only [d_in, bI_t, bI_f, if_true, if_false, Bool.false_eq_true, Bool.true_eq_false, reduceIte, reduceCtorEq]; rfl) | (simp [d_in, bI_t, bI_f, if_true, if_false, Bool.false_eq_true, Bool.true_eq_false, reduceIte, reduceCtorEq]; done) | (simp [bI, d_in, bI_t, bI_f]; done)) rfl
abbrev rm_X3_sailor : Room := { frames := 0, cells := 0, slots := 0, locals := 0 }
set_option maxHeartbeats 4000000 in
set_option maxRecDepth 100000 in
theorem c_X3_sailor (l : Launch) (E : Ev) (s : Nat) (w : Nat) : MI l E yX3_sailor wsX3_sailor rm_X3_sailor [.int (nI s), .int (nI w)] ([] : va_W) (nI (18 + 2 * s + w)) ([] : va_W) := by
  refine k_bI (cc := cX3_sailor) (maxL := 2) (ret := (some .int)) (by decide) rfl (Nat.le_of_ble_eq_true rfl) ?_
  intro p9 e s9 m args below meth c A9 ls hC hl hw
  obtain ⟨hx, hb, hml, hr, hown, hts, hlocks, hK, hG, hA⟩ := hC
  have hl : lv_has ls 2 [(0, .int (nI s)), (1, .int (nI w))] := hl
  refine lv_bipush (v := 18) hx hb dX3_sailor_0 (by decide) ?_
  refine lv_iconst (v := 2) hx hb dX3_sailor_2 (by decide) ?_
  refine lv_iload_n hx hb dX3_sailor_3 rfl (lv_at hl 0 rfl) ?_
  refine k_imulN (a := 2) (b := s) hx hb dX3_sailor_4 ?_
  refine k_iaddN (a := 18) (b := 2 * s) hx hb dX3_sailor_5 ?_
  refine lv_iload_n hx hb dX3_sailor_6 rfl (lv_at hl 1 rfl) ?_
  refine k_iaddN (a := 18 + (2 * s)) (b := w) hx hb dX3_sailor_7 ?_
  exact k_iret hx hb hr hlocks hK hw rfl dX3_sailor_8 (by first | rfl | assumption | (simp only [d_in, bI_t, bI_f, if_true, if_false, Bool.false_eq_true, Bool.true_eq_false, reduceIte, reduceCtorEq]; done) | (simp only [d_in, bI_t, bI_f, if_true, if_false, Bool.false_eq_true, Bool.true_eq_false, reduceIte, reduceCtorEq]; rfl) | (simp [d_in, bI_t, bI_f, if_true, if_false, Bool.false_eq_true, Bool.true_eq_false, reduceIte, reduceCtorEq]; done) | (simp [bI, d_in, bI_t, bI_f]; done)) rfl
abbrev rm_X3_sighting : Room := { frames := 0, cells := 0, slots := 0, locals := 0 }
set_option maxHeartbeats 4000000 in
set_option maxRecDepth 100000 in
theorem c_X3_sighting (l : Launch) (E : Ev) (s : Nat) (w : Nat) : MI l E yX3_sighting wsX3_sighting rm_X3_sighting [.int (nI s), .int (nI w)] ([] : va_W) (nI (54 + 5 * s + w)) ([] : va_W) := by
  refine k_bI (cc := cX3_sighting) (maxL := 2) (ret := (some .int)) (by decide) rfl (Nat.le_of_ble_eq_true rfl) ?_
  intro p9 e s9 m args below meth c A9 ls hC hl hw
  obtain ⟨hx, hb, hml, hr, hown, hts, hlocks, hK, hG, hA⟩ := hC
  have hl : lv_has ls 2 [(0, .int (nI s)), (1, .int (nI w))] := hl
  refine lv_bipush (v := 54) hx hb dX3_sighting_0 (by decide) ?_
  refine lv_iconst (v := 5) hx hb dX3_sighting_2 (by decide) ?_
  refine lv_iload_n hx hb dX3_sighting_3 rfl (lv_at hl 0 rfl) ?_
  refine k_imulN (a := 5) (b := s) hx hb dX3_sighting_4 ?_
  refine k_iaddN (a := 54) (b := 5 * s) hx hb dX3_sighting_5 ?_
  refine lv_iload_n hx hb dX3_sighting_6 rfl (lv_at hl 1 rfl) ?_
  refine k_iaddN (a := 54 + (5 * s)) (b := w) hx hb dX3_sighting_7 ?_
  exact k_iret hx hb hr hlocks hK hw rfl dX3_sighting_8 (by first | rfl | assumption | (simp only [d_in, bI_t, bI_f, if_true, if_false, Bool.false_eq_true, Bool.true_eq_false, reduceIte, reduceCtorEq]; done) | (simp only [d_in, bI_t, bI_f, if_true, if_false, Bool.false_eq_true, Bool.true_eq_false, reduceIte, reduceCtorEq]; rfl) | (simp [d_in, bI_t, bI_f, if_true, if_false, Bool.false_eq_true, Bool.true_eq_false, reduceIte, reduceCtorEq]; done) | (simp [bI, d_in, bI_t, bI_f]; done)) rfl
abbrev rm_X3_isOut : Room := { frames := 1, cells := 0, slots := 0, locals := 21 }
set_option maxHeartbeats 4000000 in
set_option maxRecDepth 100000 in
theorem c_X3_isOut (l : Launch) (E : Ev) (M : Nat → Nat) (th : Int32) (Hb : MH) (a k : Fn) (s : Nat) (h1 : n_ns Hb ≤ 5) (h2 : n_np Hb ≤ 16) (h3 : n_nw Hb ≤ 4) (h4 : ∀ p, p < n_np Hb → n_so Hb p < 5) (hs : s < 5) : MI l E yX3_isOut wsX3_isOut rm_X3_isOut [.ref (M 0), .int (nI s)] (wN E M (th, Hb, a, k)) (bI (d_out a s)) (wN E M (th, Hb, a, k)) := by
  refine k_bI (cc := cX3_isOut) (maxL := 2) (ret := (some .boolean)) (by decide) rfl (Nat.le_of_ble_eq_true rfl) ?_
  intro p9 e s9 m args below meth c A9 ls hC hl hw
  obtain ⟨hx, hb, hml, hr, hown, hts, hlocks, hK, hG, hA⟩ := hC
  have hf23 := hts (.fieldLink RX3 23 "SailorCandlesModel" "now" "[I") (List.mem_of_getElem? (i := 1) rfl)
  have hinX3 : ∀ w ∈ wsX30, w ∈ wsX3_isOut := fun w h => List.mem_cons_of_mem _ (List.mem_append_right _ h)
  have hl : lv_has ls 2 [(0, .ref (M 0)), (1, .int (nI s))] := hl
  refine lv_aload_n hx hb dX3_isOut_0 rfl (lv_at hl 0 rfl) ?_
  refine k_get (ci := 3) (v := .ref (M 5)) (C := RX3) (T := TX3) (N := 10) hx hb hown hK hw hts hinX3 0 rfl rfl 8 (by decide) hf23 rfl dX3_isOut_1 ?_
  refine lv_iload_n hx hb dX3_isOut_4 rfl (lv_at hl 1 rfl) ?_
  refine lv_iconst (v := 0) hx hb dX3_isOut_5 (by decide) ?_
  refine kr_i (ws' := wN E M (th, Hb, a, k)) (va_runS (As := [.int (nI s), .int 0]) (rest := [.ref (M 5)]) ⟨hx, hb, hml, hown, hts⟩ (c_X3_ship l E s 0  _) (va_cwS 2 hts gX3_isOut_X3_ship rfl rfl rfl hd_X3_ship ⟨Nat.le_of_ble_eq_true rfl, Nat.le_of_ble_eq_true rfl⟩) (rpS (AV := [.int (nI s), .int 0]) hw hK hG rp_74) rfl rfl hl.1 rfl (lv_room (Nat.le_of_ble_eq_true rfl)) dX3_isOut_6 ⟨Nat.le_of_ble_eq_true rfl, Nat.le_of_ble_eq_true rfl⟩) hw hA rp_74 (fun H locs hw => ?_)
  refine k_ildN (i := 3 + 3 * s + 0) (f := a) hx hb hK hw 5 rfl (by omega) (by omega) dX3_isOut_9 ?_
  refine lv_iconst (v := 1) hx hb dX3_isOut_10 (by decide) ?_
  refine lv_icmp_ne (tgt := 18) hx hb dX3_isOut_11 (by decide) (fun c_1 => ?_) (fun c_1 => ?_)
  · refine lv_iconst (v := 0) hx hb dX3_isOut_18 (by decide) ?_
    exact k_iret hx hb hr hlocks hK hw rfl dX3_isOut_19 (by first | assumption | (simp only [d_out, bI_t, bI_f, if_neg c_1, if_true, if_false, Bool.false_eq_true, Bool.true_eq_false, reduceIte, reduceCtorEq]; done) | (simp only [d_out, bI_t, bI_f, if_neg c_1, if_true, if_false, Bool.false_eq_true, Bool.true_eq_false, reduceIte, reduceCtorEq]; rfl) | rfl | (simp [d_out, bI_t, bI_f, if_neg c_1, if_true, if_false, Bool.false_eq_true, Bool.true_eq_false, reduceIte, reduceCtorEq]; done) | (simp [bI, d_out, bI_t, bI_f, c_1]; done)) rfl
  · refine lv_iconst (v := 1) hx hb dX3_isOut_14 (by decide) ?_
    refine lv_goto (tgt := 19) hx hb dX3_isOut_15 (by decide) ?_
    exact k_iret hx hb hr hlocks hK hw rfl dX3_isOut_19 (by first | assumption | (simp only [d_out, bI_t, bI_f, if_pos c_1, if_true, if_false, Bool.false_eq_true, Bool.true_eq_false, reduceIte, reduceCtorEq]; done) | (simp only [d_out, bI_t, bI_f, if_pos c_1, if_true, if_false, Bool.false_eq_true, Bool.true_eq_false, reduceIte, reduceCtorEq]; rfl) | rfl | (simp [d_out, bI_t, bI_f, if_pos c_1, if_true, if_false, Bool.false_eq_true, Bool.true_eq_false, reduceIte, reduceCtorEq]; done) | (simp [bI, d_out, bI_t, bI_f, c_1]; done)) rfl
abbrev rm_X3_thrown : Room := { frames := 0, cells := 0, slots := 0, locals := 0 }
set_option maxHeartbeats 4000000 in
set_option maxRecDepth 100000 in
theorem c_X3_thrown (l : Launch) (E : Ev) (M : Nat → Nat) (th : Int32) (Hb : MH) (a k : Fn) : MI l E yX3_thrown wsX3_thrown rm_X3_thrown [.ref (M 0)] (wN E M (th, Hb, a, k)) th (wN E M (th, Hb, a, k)) := by
  refine k_bI (cc := cX3_thrown) (maxL := 1) (ret := (some .int)) (by decide) rfl (Nat.le_of_ble_eq_true rfl) ?_
  intro p9 e s9 m args below meth c A9 ls hC hl hw
  obtain ⟨hx, hb, hml, hr, hown, hts, hlocks, hK, hG, hA⟩ := hC
  have hf29 := hts (.fieldLink RX3 29 "SailorCandlesModel" "thrown" "I") (List.mem_of_getElem? (i := 1) rfl)
  have hinX3 : ∀ w ∈ wsX30, w ∈ wsX3_thrown := fun w h => List.mem_cons_of_mem _ (List.mem_append_right _ h)
  have hl : lv_has ls 1 [(0, .ref (M 0))] := hl
  refine lv_aload_n hx hb dX3_thrown_0 rfl (lv_at hl 0 rfl) ?_
  refine k_get (ci := 3) (v := .int th) (C := RX3) (T := TX3) (N := 10) hx hb hown hK hw hts hinX3 0 rfl rfl 0 (by decide) hf29 rfl dX3_thrown_1 ?_
  exact k_iret hx hb hr hlocks hK hw rfl dX3_thrown_4 rfl rfl
abbrev rm_X3_keep : Room := { frames := 1, cells := 0, slots := 0, locals := 40 }
set_option maxHeartbeats 4000000 in
set_option maxRecDepth 100000 in
theorem c_X3_keep (l : Launch) (E : Ev) (M : Nat → Nat) (th : Int32) (Hb : MH) (a k : Fn) : MV l E yX3_keep wsX3_keep rm_X3_keep [.ref (M 0)] (wN E M (th, Hb, a, k)) (wN E M (th, Hb, a, a)) := by
  refine k_bV (cc := cX3_keep) (maxL := 1) (ret := none) (by decide) rfl (Nat.le_of_ble_eq_true rfl) ?_
  intro p9 e s9 m args below meth c A9 ls hC hl hw
  obtain ⟨hx, hb, hml, hr, hown, hts, hlocks, hK, hG, hA⟩ := hC
  have hf23 := hts (.fieldLink RX3 23 "SailorCandlesModel" "now" "[I") (List.mem_of_getElem? (i := 1) rfl)
  have hinX3 : ∀ w ∈ wsX30, w ∈ wsX3_keep := fun w h => List.mem_cons_of_mem _ (List.mem_append_right _ h)
  have hf26 := hts (.fieldLink RX3 26 "SailorCandlesModel" "kept" "[I") (List.mem_of_getElem? (i := 2) rfl)
  have hq3 := hts (.methodLink RX3 50 arraycopyName) (List.mem_of_getElem? (i := 3) rfl)
  have hq4 := hts (.native arraycopyName) (List.mem_of_getElem? (i := 4) rfl)
  have hq5 := hts (.static arraycopyName) (List.mem_of_getElem? (i := 5) rfl)
  have hq6 := hts (.initialized "java/lang/System") (List.mem_of_getElem? (i := 6) rfl)
  have hl : lv_has ls 1 [(0, .ref (M 0))] := hl
  refine lv_aload_n hx hb dX3_keep_0 rfl (lv_at hl 0 rfl) ?_
  refine k_get (ci := 3) (v := .ref (M 5)) (C := RX3) (T := TX3) (N := 10) hx hb hown hK hw hts hinX3 0 rfl rfl 8 (by decide) hf23 rfl dX3_keep_1 ?_
  refine lv_iconst (v := 0) hx hb dX3_keep_4 (by decide) ?_
  refine lv_aload_n hx hb dX3_keep_5 rfl (lv_at hl 0 rfl) ?_
  refine k_get (ci := 3) (v := .ref (M 6)) (C := RX3) (T := TX3) (N := 10) hx hb hown hK hw hts hinX3 0 rfl rfl 9 (by decide) hf26 rfl dX3_keep_6 ?_
  refine lv_iconst (v := 0) hx hb dX3_keep_9 (by decide) ?_
  refine lv_bipush (v := 74) hx hb dX3_keep_10 (by decide) ?_
  refine k_copy (ws' := wN E M (th, Hb, a, va_cpy a k 0 0 74)) (N := 74) hx hb (by rw [hml]; exact hl.1.symm) hown hq3 hq4 hq5 hq6 hK hw 5 6 rfl rfl (by decide) (by decide) (by decide) (Nat.le_of_ble_eq_true rfl) (Nat.le_of_ble_eq_true rfl) dX3_keep_12 rfl (fun H locs hw => ?_)
  have hw := wN_keep hw
  exact k_vret hx hb hr hlocks hK hw dX3_keep_15 rfl
abbrev rm_X3_bringBack : Room := { frames := 1, cells := 0, slots := 0, locals := 40 }
set_option maxHeartbeats 4000000 in
set_option maxRecDepth 100000 in
theorem c_X3_bringBack (l : Launch) (E : Ev) (M : Nat → Nat) (th : Int32) (Hb : MH) (a k : Fn) : MV l E yX3_bringBack wsX3_bringBack rm_X3_bringBack [.ref (M 0)] (wN E M (th, Hb, a, k)) (wN E M (th, Hb, k, k)) := by
  refine k_bV (cc := cX3_bringBack) (maxL := 1) (ret := none) (by decide) rfl (Nat.le_of_ble_eq_true rfl) ?_
  intro p9 e s9 m args below meth c A9 ls hC hl hw
  obtain ⟨hx, hb, hml, hr, hown, hts, hlocks, hK, hG, hA⟩ := hC
  have hf26 := hts (.fieldLink RX3 26 "SailorCandlesModel" "kept" "[I") (List.mem_of_getElem? (i := 1) rfl)
  have hinX3 : ∀ w ∈ wsX30, w ∈ wsX3_bringBack := fun w h => List.mem_cons_of_mem _ (List.mem_append_right _ h)
  have hf23 := hts (.fieldLink RX3 23 "SailorCandlesModel" "now" "[I") (List.mem_of_getElem? (i := 2) rfl)
  have hq3 := hts (.methodLink RX3 50 arraycopyName) (List.mem_of_getElem? (i := 3) rfl)
  have hq4 := hts (.native arraycopyName) (List.mem_of_getElem? (i := 4) rfl)
  have hq5 := hts (.static arraycopyName) (List.mem_of_getElem? (i := 5) rfl)
  have hq6 := hts (.initialized "java/lang/System") (List.mem_of_getElem? (i := 6) rfl)
  have hl : lv_has ls 1 [(0, .ref (M 0))] := hl
  refine lv_aload_n hx hb dX3_bringBack_0 rfl (lv_at hl 0 rfl) ?_
  refine k_get (ci := 3) (v := .ref (M 6)) (C := RX3) (T := TX3) (N := 10) hx hb hown hK hw hts hinX3 0 rfl rfl 9 (by decide) hf26 rfl dX3_bringBack_1 ?_
  refine lv_iconst (v := 0) hx hb dX3_bringBack_4 (by decide) ?_
  refine lv_aload_n hx hb dX3_bringBack_5 rfl (lv_at hl 0 rfl) ?_
  refine k_get (ci := 3) (v := .ref (M 5)) (C := RX3) (T := TX3) (N := 10) hx hb hown hK hw hts hinX3 0 rfl rfl 8 (by decide) hf23 rfl dX3_bringBack_6 ?_
  refine lv_iconst (v := 0) hx hb dX3_bringBack_9 (by decide) ?_
  refine lv_bipush (v := 74) hx hb dX3_bringBack_10 (by decide) ?_
  refine k_copy (ws' := wN E M (th, Hb, va_cpy k a 0 0 74, k)) (N := 74) hx hb (by rw [hml]; exact hl.1.symm) hown hq3 hq4 hq5 hq6 hK hw 6 5 rfl rfl (by decide) (by decide) (by decide) (Nat.le_of_ble_eq_true rfl) (Nat.le_of_ble_eq_true rfl) dX3_bringBack_12 rfl (fun H locs hw => ?_)
  have hw := wN_back hw
  exact k_vret hx hb hr hlocks hK hw dX3_bringBack_15 rfl
abbrev rm_X3_trust : Room := { frames := 1, cells := 0, slots := 0, locals := 21 }
set_option maxHeartbeats 4000000 in
set_option maxRecDepth 100000 in
theorem c_X3_trust (l : Launch) (E : Ev) (M : Nat → Nat) (th : Int32) (Hb : MH) (a k : Fn) (s : Nat) (h1 : n_ns Hb ≤ 5) (h2 : n_np Hb ≤ 16) (h3 : n_nw Hb ≤ 4) (h4 : ∀ p, p < n_np Hb → n_so Hb p < 5) (hs : s < 5) : MI l E yX3_trust wsX3_trust rm_X3_trust [.ref (M 0), .int (nI s)] (wN E M (th, Hb, a, k)) (l_mtr a s (n_nw Hb)) (wN E M (th, Hb, a, k)) := by
  refine k_bI (cc := cX3_trust) (maxL := 4) (ret := (some .int)) (by decide) rfl (Nat.le_of_ble_eq_true rfl) ?_
  intro p9 e s9 m args below meth c A9 ls hC hl hw
  obtain ⟨hx, hb, hml, hr, hown, hts, hlocks, hK, hG, hA⟩ := hC
  have hf43 := hts (.fieldLink RX3 43 "SailorCandlesModel" "watchers" "I") (List.mem_of_getElem? (i := 1) rfl)
  have hinX3 : ∀ w ∈ wsX30, w ∈ wsX3_trust := fun w h => List.mem_cons_of_mem _ (List.mem_append_right _ h)
  have hf23 := hts (.fieldLink RX3 23 "SailorCandlesModel" "now" "[I") (List.mem_of_getElem? (i := 2) rfl)
  have hl : lv_has ls 4 [(0, .ref (M 0)), (1, .int (nI s))] := hl
  refine lv_iconst (v := 0) hx hb dX3_trust_0 (by decide) ?_
  refine lv_istore_n (lv' := [(2, .int 0), (0, .ref (M 0)), (1, .int (nI s))]) hx hb dX3_trust_1 rfl hl (by decide) rfl (fun ls hl => ?_)
  refine lv_iconst (v := 0) hx hb dX3_trust_2 (by decide) ?_
  refine lv_istore_n (lv' := [(3, .int 0), (2, .int 0), (0, .ref (M 0)), (1, .int (nI s))]) hx hb dX3_trust_3 rfl hl (by decide) rfl (fun ls hl => ?_)
  have L_4 : ∀ (k9 i : Nat) (H : Heap) (locs : List Loc) (ls : Array Slot), i + k9 = (n_nw Hb) → Wd E A9 s9.heap (wN E M (th, Hb, a, k)) H locs → lv_has ls 4 [(0, .ref (M 0)), (1, .int (nI s)), (2, .int (l_mtr a s i)), (3, .int (nI i))] → W p9 l e rm_X3_trust s9 m args below meth c H locs 0 0 (EndI E A9 (l_mtr a s (n_nw Hb)) (wN E M (th, Hb, a, k)) below args s9 (rm_X3_trust).cells (rm_X3_trust).slots) (F0 m 4 ls []) := by
    intro k9
    induction k9 with
    | zero =>
      intro i H locs ls hi hw hl
      have hz_1 : n_nw Hb = i := by omega
      refine lv_iload_n hx hb dX3_trust_4 rfl (lv_at hl 3 rfl) ?_
      refine lv_aload_n hx hb dX3_trust_5 rfl (lv_at hl 0 rfl) ?_
      refine k_get (ci := 3) (v := .int (nI (n_nw Hb))) (C := RX3) (T := TX3) (N := 10) hx hb hown hK hw hts hinX3 0 rfl rfl 7 (by decide) hf43 rfl dX3_trust_6 ?_
      refine lv_icmp_ge (tgt := 48) hx hb dX3_trust_9 (by decide) (fun _ => ?_) (fun q8 => absurd (by rw [← hz_1]; exact Int32.le_refl _) q8)
      refine lv_iload_n hx hb dX3_trust_48 rfl (lv_at hl 2 rfl) ?_
      exact k_iret hx hb hr hlocks hK hw rfl dX3_trust_49 (by subst hz_1; first | rfl | assumption | (simp only [l_mtr, if_true, if_false, Bool.false_eq_true, Bool.true_eq_false, reduceIte, reduceCtorEq]; done) | (simp only [l_mtr, if_true, if_false, Bool.false_eq_true, Bool.true_eq_false, reduceIte, reduceCtorEq]; rfl) | (simp [l_mtr, if_true, if_false, Bool.false_eq_true, Bool.true_eq_false, reduceIte, reduceCtorEq]; done) | (simp [bI, l_mtr]; done)) rfl
    | succ k9 ih_4 =>
      intro i H locs ls hi hw hl
      have hi9 : i < n_nw Hb := by omega
      refine lv_iload_n hx hb dX3_trust_4 rfl (lv_at hl 3 rfl) ?_
      refine lv_aload_n hx hb dX3_trust_5 rfl (lv_at hl 0 rfl) ?_
      refine k_get (ci := 3) (v := .int (nI (n_nw Hb))) (C := RX3) (T := TX3) (N := 10) hx hb hown hK hw hts hinX3 0 rfl rfl 7 (by decide) hf43 rfl dX3_trust_6 ?_
      refine lv_icmp_ge (tgt := 48) hx hb dX3_trust_9 (by decide) (fun q8 => absurd q8 (nI_ge (a := i) (b := n_nw Hb) (by omega) (by omega))) (fun _ => ?_)
      refine lv_iload_n hx hb dX3_trust_12 rfl (lv_at hl 2 rfl) ?_
      refine lv_aload_n hx hb dX3_trust_13 rfl (lv_at hl 0 rfl) ?_
      refine k_get (ci := 3) (v := .ref (M 5)) (C := RX3) (T := TX3) (N := 10) hx hb hown hK hw hts hinX3 0 rfl rfl 8 (by decide) hf23 rfl dX3_trust_14 ?_
      refine lv_iload_n hx hb dX3_trust_17 rfl (lv_at hl 3 rfl) ?_
      refine lv_iload_n hx hb dX3_trust_18 rfl (lv_at hl 1 rfl) ?_
      refine kr_i (ws' := wN E M (th, Hb, a, k)) (va_runS (As := [.int (nI i), .int (nI s)]) (rest := [.ref (M 5), .int (l_mtr a s i)]) ⟨hx, hb, hml, hown, hts⟩ (c_X3_sighting l E i s  _) (va_cwS 2 hts gX3_trust_X3_sighting rfl rfl rfl hd_X3_sighting ⟨Nat.le_of_ble_eq_true rfl, Nat.le_of_ble_eq_true rfl⟩) (rpS (AV := [.int (nI i), .int (nI s)]) hw hK hG rp_74) rfl rfl hl.1 rfl (lv_room (Nat.le_of_ble_eq_true rfl)) dX3_trust_19 ⟨Nat.le_of_ble_eq_true rfl, Nat.le_of_ble_eq_true rfl⟩) hw hA rp_74 (fun H locs hw => ?_)
      refine k_ildN (i := 54 + 5 * i + s) (f := a) hx hb hK hw 5 rfl (by omega) (by omega) dX3_trust_22 ?_
      refine lv_iconst (v := (-1)) hx hb dX3_trust_23 (by decide) ?_
      refine lv_icmp_eq (tgt := 39) hx hb dX3_trust_24 (by decide) (fun c_2 => ?_) (fun c_2 => ?_)
      · refine lv_iconst (v := 0) hx hb dX3_trust_39 (by decide) ?_
        refine lv_iadd hx hb dX3_trust_40 ?_
        refine lv_istore_n (lv' := [(2, .int ((l_mtr a s i) + 0)), (0, .ref (M 0)), (1, .int (nI s)), (3, .int (nI i))]) hx hb dX3_trust_41 rfl hl (by decide) rfl (fun ls hl => ?_)
        refine lv_iinc (v := nI (i + 1)) (lv' := [(3, .int (nI (i + 1))), (2, .int ((l_mtr a s i) + 0)), (0, .ref (M 0)), (1, .int (nI s))]) hx hb dX3_trust_42 hl (k := 3) rfl (nI_add i 1) (by decide) rfl (fun ls hl => ?_)
        refine lv_goto (tgt := 4) hx hb dX3_trust_45 (by decide) ?_
        exact ih_4 (i + 1) _ _ _ (by omega) hw (by rw [show (.int (l_mtr a s (i + 1)) : Value) = .int ((l_mtr a s i) + 0) from (by first | assumption | (simp only [l_mtr, if_pos c_2, if_true, if_false, Bool.false_eq_true, Bool.true_eq_false, reduceIte, reduceCtorEq]; done) | (simp only [l_mtr, if_pos c_2, if_true, if_false, Bool.false_eq_true, Bool.true_eq_false, reduceIte, reduceCtorEq]; rfl) | rfl | (simp [l_mtr, if_pos c_2, if_true, if_false, Bool.false_eq_true, Bool.true_eq_false, reduceIte, reduceCtorEq]; done) | (simp [bI, l_mtr, c_2]; done))]; exact lv_sub hl [2, 3, 1, 0] rfl)
      · refine lv_aload_n hx hb dX3_trust_27 rfl (lv_at hl 0 rfl) ?_
        refine k_get (ci := 3) (v := .ref (M 5)) (C := RX3) (T := TX3) (N := 10) hx hb hown hK hw hts hinX3 0 rfl rfl 8 (by decide) hf23 rfl dX3_trust_28 ?_
        refine lv_bipush (v := 50) hx hb dX3_trust_31 (by decide) ?_
        refine lv_iload_n hx hb dX3_trust_33 rfl (lv_at hl 3 rfl) ?_
        refine k_iaddN (a := 50) (b := i) hx hb dX3_trust_34 ?_
        refine k_ildN (i := 50 + i) (f := a) hx hb hK hw 5 rfl (by omega) (by omega) dX3_trust_35 ?_
        refine lv_goto (tgt := 40) hx hb dX3_trust_36 (by decide) ?_
        refine lv_iadd hx hb dX3_trust_40 ?_
        refine lv_istore_n (lv' := [(2, .int ((l_mtr a s i) + (a (50 + i)))), (0, .ref (M 0)), (1, .int (nI s)), (3, .int (nI i))]) hx hb dX3_trust_41 rfl hl (by decide) rfl (fun ls hl => ?_)
        refine lv_iinc (v := nI (i + 1)) (lv' := [(3, .int (nI (i + 1))), (2, .int ((l_mtr a s i) + (a (50 + i)))), (0, .ref (M 0)), (1, .int (nI s))]) hx hb dX3_trust_42 hl (k := 3) rfl (nI_add i 1) (by decide) rfl (fun ls hl => ?_)
        refine lv_goto (tgt := 4) hx hb dX3_trust_45 (by decide) ?_
        exact ih_4 (i + 1) _ _ _ (by omega) hw (by rw [show (.int (l_mtr a s (i + 1)) : Value) = .int ((l_mtr a s i) + (a (50 + i))) from (by first | assumption | (simp only [l_mtr, if_neg c_2, if_true, if_false, Bool.false_eq_true, Bool.true_eq_false, reduceIte, reduceCtorEq]; done) | (simp only [l_mtr, if_neg c_2, if_true, if_false, Bool.false_eq_true, Bool.true_eq_false, reduceIte, reduceCtorEq]; rfl) | rfl | (simp [l_mtr, if_neg c_2, if_true, if_false, Bool.false_eq_true, Bool.true_eq_false, reduceIte, reduceCtorEq]; done) | (simp [bI, l_mtr, c_2]; done))]; exact lv_sub hl [2, 3, 1, 0] rfl)
  exact L_4 ((n_nw Hb) - 0) 0 _ _ _ (by omega) hw (lv_sub hl [2, 3, 1, 0] rfl)
abbrev rm_X3_voters : Room := { frames := 1, cells := 0, slots := 0, locals := 21 }
set_option maxHeartbeats 4000000 in
set_option maxRecDepth 100000 in
theorem c_X3_voters (l : Launch) (E : Ev) (M : Nat → Nat) (th : Int32) (Hb : MH) (a k : Fn) (s : Nat) (g : Bool) (h1 : n_ns Hb ≤ 5) (h2 : n_np Hb ≤ 16) (h3 : n_nw Hb ≤ 4) (h4 : ∀ p, p < n_np Hb → n_so Hb p < 5) (hs : s < 5) : MI l E yX3_voters wsX3_voters rm_X3_voters [.ref (M 0), .int (nI s), .int (bI g)] (wN E M (th, Hb, a, k)) (l_mvo Hb a s g (n_np Hb)) (wN E M (th, Hb, a, k)) := by
  refine k_bI (cc := cX3_voters) (maxL := 5) (ret := (some .int)) (by decide) rfl (Nat.le_of_ble_eq_true rfl) ?_
  intro p9 e s9 m args below meth c A9 ls hC hl hw
  obtain ⟨hx, hb, hml, hr, hown, hts, hlocks, hK, hG, hA⟩ := hC
  have hf40 := hts (.fieldLink RX3 40 "SailorCandlesModel" "sailors" "I") (List.mem_of_getElem? (i := 1) rfl)
  have hinX3 : ∀ w ∈ wsX30, w ∈ wsX3_voters := fun w h => List.mem_cons_of_mem _ (List.mem_append_right _ h)
  have hf13 := hts (.fieldLink RX3 13 "SailorCandlesModel" "shipOf" "[I") (List.mem_of_getElem? (i := 2) rfl)
  have hf19 := hts (.fieldLink RX3 19 "SailorCandlesModel" "voter" "[Z") (List.mem_of_getElem? (i := 3) rfl)
  have hf23 := hts (.fieldLink RX3 23 "SailorCandlesModel" "now" "[I") (List.mem_of_getElem? (i := 4) rfl)
  have hl : lv_has ls 5 [(0, .ref (M 0)), (1, .int (nI s)), (2, .int (bI g))] := hl
  refine lv_iconst (v := 0) hx hb dX3_voters_0 (by decide) ?_
  refine lv_istore_n (lv' := [(3, .int 0), (0, .ref (M 0)), (1, .int (nI s)), (2, .int (bI g))]) hx hb dX3_voters_1 rfl hl (by decide) rfl (fun ls hl => ?_)
  refine lv_iconst (v := 0) hx hb dX3_voters_2 (by decide) ?_
  refine lv_istore (lv' := [(4, .int 0), (3, .int 0), (0, .ref (M 0)), (1, .int (nI s)), (2, .int (bI g))]) hx hb dX3_voters_3 hl (by decide) rfl (fun ls hl => ?_)
  have L_5 : ∀ (k9 i : Nat) (H : Heap) (locs : List Loc) (ls : Array Slot), i + k9 = (n_np Hb) → Wd E A9 s9.heap (wN E M (th, Hb, a, k)) H locs → lv_has ls 5 [(0, .ref (M 0)), (1, .int (nI s)), (2, .int (bI g)), (3, .int (l_mvo Hb a s g i)), (4, .int (nI i))] → W p9 l e rm_X3_voters s9 m args below meth c H locs 0 0 (EndI E A9 (l_mvo Hb a s g (n_np Hb)) (wN E M (th, Hb, a, k)) below args s9 (rm_X3_voters).cells (rm_X3_voters).slots) (F0 m 5 ls []) := by
    intro k9
    induction k9 with
    | zero =>
      intro i H locs ls hi hw hl
      have hz_1 : n_np Hb = i := by omega
      refine lv_iload hx hb dX3_voters_5 (lv_at hl 4 rfl) ?_
      refine lv_aload_n hx hb dX3_voters_7 rfl (lv_at hl 0 rfl) ?_
      refine k_get (ci := 3) (v := .int (nI (n_np Hb))) (C := RX3) (T := TX3) (N := 10) hx hb hown hK hw hts hinX3 0 rfl rfl 3 (by decide) hf40 rfl dX3_voters_8 ?_
      refine lv_icmp_ge (tgt := 68) hx hb dX3_voters_11 (by decide) (fun _ => ?_) (fun q8 => absurd (by rw [← hz_1]; exact Int32.le_refl _) q8)
      refine lv_iload_n hx hb dX3_voters_68 rfl (lv_at hl 3 rfl) ?_
      exact k_iret hx hb hr hlocks hK hw rfl dX3_voters_69 (by subst hz_1; first | rfl | assumption | (simp only [l_mvo, if_true, if_false, Bool.false_eq_true, Bool.true_eq_false, reduceIte, reduceCtorEq]; done) | (simp only [l_mvo, if_true, if_false, Bool.false_eq_true, Bool.true_eq_false, reduceIte, reduceCtorEq]; rfl) | (simp [l_mvo, if_true, if_false, Bool.false_eq_true, Bool.true_eq_false, reduceIte, reduceCtorEq]; done) | (simp [bI, l_mvo]; done)) rfl
    | succ k9 ih_5 =>
      intro i H locs ls hi hw hl
      have hi9 : i < n_np Hb := by omega
      refine lv_iload hx hb dX3_voters_5 (lv_at hl 4 rfl) ?_
      refine lv_aload_n hx hb dX3_voters_7 rfl (lv_at hl 0 rfl) ?_
      refine k_get (ci := 3) (v := .int (nI (n_np Hb))) (C := RX3) (T := TX3) (N := 10) hx hb hown hK hw hts hinX3 0 rfl rfl 3 (by decide) hf40 rfl dX3_voters_8 ?_
      refine lv_icmp_ge (tgt := 68) hx hb dX3_voters_11 (by decide) (fun q8 => absurd q8 (nI_ge (a := i) (b := n_np Hb) (by omega) (by omega))) (fun _ => ?_)
      refine lv_iload_n hx hb dX3_voters_14 rfl (lv_at hl 3 rfl) ?_
      refine lv_aload_n hx hb dX3_voters_15 rfl (lv_at hl 0 rfl) ?_
      refine k_get (ci := 3) (v := .ref (M 2)) (C := RX3) (T := TX3) (N := 10) hx hb hown hK hw hts hinX3 0 rfl rfl 4 (by decide) hf13 rfl dX3_voters_16 ?_
      refine lv_iload hx hb dX3_voters_19 (lv_at hl 4 rfl) ?_
      refine k_nldN (i := i) (f := n_so Hb) hx hb hK hw 2 rfl (by omega) (by omega) dX3_voters_21 ?_
      refine lv_iload_n hx hb dX3_voters_22 rfl (lv_at hl 1 rfl) ?_
      refine lv_icmp_ne (tgt := 59) hx hb dX3_voters_23 (by decide) (fun c_2 => ?_) (fun c_2 => ?_)
      · refine lv_iconst (v := 0) hx hb dX3_voters_59 (by decide) ?_
        refine lv_iadd hx hb dX3_voters_60 ?_
        refine lv_istore_n (lv' := [(3, .int ((l_mvo Hb a s g i) + 0)), (0, .ref (M 0)), (1, .int (nI s)), (2, .int (bI g)), (4, .int (nI i))]) hx hb dX3_voters_61 rfl hl (by decide) rfl (fun ls hl => ?_)
        refine lv_iinc (v := nI (i + 1)) (lv' := [(4, .int (nI (i + 1))), (3, .int ((l_mvo Hb a s g i) + 0)), (0, .ref (M 0)), (1, .int (nI s)), (2, .int (bI g))]) hx hb dX3_voters_62 hl (k := 4) rfl (nI_add i 1) (by decide) rfl (fun ls hl => ?_)
        refine lv_goto (tgt := 5) hx hb dX3_voters_65 (by decide) ?_
        exact ih_5 (i + 1) _ _ _ (by omega) hw (by rw [show (.int (l_mvo Hb a s g (i + 1)) : Value) = .int ((l_mvo Hb a s g i) + 0) from (by first | assumption | (simp only [l_mvo, if_neg c_2, if_true, if_false, Bool.false_eq_true, Bool.true_eq_false, reduceIte, reduceCtorEq]; done) | (simp only [l_mvo, if_neg c_2, if_true, if_false, Bool.false_eq_true, Bool.true_eq_false, reduceIte, reduceCtorEq]; rfl) | rfl | (simp [l_mvo, if_neg c_2, if_true, if_false, Bool.false_eq_true, Bool.true_eq_false, reduceIte, reduceCtorEq]; done) | (simp [bI, l_mvo, c_2]; done))]; exact lv_sub hl [2, 3, 4, 1, 0] rfl)
      · refine lv_aload_n hx hb dX3_voters_26 rfl (lv_at hl 0 rfl) ?_
        refine k_get (ci := 3) (v := .ref (M 4)) (C := RX3) (T := TX3) (N := 10) hx hb hown hK hw hts hinX3 0 rfl rfl 6 (by decide) hf19 rfl dX3_voters_27 ?_
        refine lv_iload hx hb dX3_voters_30 (lv_at hl 4 rfl) ?_
        refine k_zldN (i := i) (f := n_vo Hb) hx hb hK hw 4 rfl (by omega) (by omega) dX3_voters_32 ?_
        refine lv_if_eq (tgt := 59) hx hb dX3_voters_33 (by decide) (fun c_3 => ?_) (fun c_3 => ?_)
        · have c_3 := bI_z c_3
          refine lv_iconst (v := 0) hx hb dX3_voters_59 (by decide) ?_
          refine lv_iadd hx hb dX3_voters_60 ?_
          refine lv_istore_n (lv' := [(3, .int ((l_mvo Hb a s g i) + 0)), (0, .ref (M 0)), (1, .int (nI s)), (2, .int (bI g)), (4, .int (nI i))]) hx hb dX3_voters_61 rfl hl (by decide) rfl (fun ls hl => ?_)
          refine lv_iinc (v := nI (i + 1)) (lv' := [(4, .int (nI (i + 1))), (3, .int ((l_mvo Hb a s g i) + 0)), (0, .ref (M 0)), (1, .int (nI s)), (2, .int (bI g))]) hx hb dX3_voters_62 hl (k := 4) rfl (nI_add i 1) (by decide) rfl (fun ls hl => ?_)
          refine lv_goto (tgt := 5) hx hb dX3_voters_65 (by decide) ?_
          exact ih_5 (i + 1) _ _ _ (by omega) hw (by rw [show (.int (l_mvo Hb a s g (i + 1)) : Value) = .int ((l_mvo Hb a s g i) + 0) from (by first | assumption | (simp only [l_mvo, if_pos c_2, c_3, if_true, if_false, Bool.false_eq_true, Bool.true_eq_false, reduceIte, reduceCtorEq]; done) | (simp only [l_mvo, if_pos c_2, c_3, if_true, if_false, Bool.false_eq_true, Bool.true_eq_false, reduceIte, reduceCtorEq]; rfl) | rfl | (simp [l_mvo, if_pos c_2, c_3, if_true, if_false, Bool.false_eq_true, Bool.true_eq_false, reduceIte, reduceCtorEq]; done) | (simp [bI, l_mvo, c_2, c_3]; done))]; exact lv_sub hl [2, 3, 4, 1, 0] rfl)
        · have c_3 := bI_nz c_3
          refine lv_iload_n hx hb dX3_voters_36 rfl (lv_at hl 2 rfl) ?_
          refine lv_if_eq (tgt := 55) hx hb dX3_voters_37 (by decide) (fun c_4 => ?_) (fun c_4 => ?_)
          · have c_4 := bI_z c_4
            refine lv_iconst (v := 1) hx hb dX3_voters_55 (by decide) ?_
            refine lv_goto (tgt := 60) hx hb dX3_voters_56 (by decide) ?_
            refine lv_iadd hx hb dX3_voters_60 ?_
            refine lv_istore_n (lv' := [(3, .int ((l_mvo Hb a s g i) + 1)), (0, .ref (M 0)), (1, .int (nI s)), (2, .int (bI g)), (4, .int (nI i))]) hx hb dX3_voters_61 rfl hl (by decide) rfl (fun ls hl => ?_)
            refine lv_iinc (v := nI (i + 1)) (lv' := [(4, .int (nI (i + 1))), (3, .int ((l_mvo Hb a s g i) + 1)), (0, .ref (M 0)), (1, .int (nI s)), (2, .int (bI g))]) hx hb dX3_voters_62 hl (k := 4) rfl (nI_add i 1) (by decide) rfl (fun ls hl => ?_)
            refine lv_goto (tgt := 5) hx hb dX3_voters_65 (by decide) ?_
            exact ih_5 (i + 1) _ _ _ (by omega) hw (by rw [show (.int (l_mvo Hb a s g (i + 1)) : Value) = .int ((l_mvo Hb a s g i) + 1) from (by first | assumption | (simp only [l_mvo, if_pos c_2, c_3, c_4, if_true, if_false, Bool.false_eq_true, Bool.true_eq_false, reduceIte, reduceCtorEq]; done) | (simp only [l_mvo, if_pos c_2, c_3, c_4, if_true, if_false, Bool.false_eq_true, Bool.true_eq_false, reduceIte, reduceCtorEq]; rfl) | rfl | (simp [l_mvo, if_pos c_2, c_3, c_4, if_true, if_false, Bool.false_eq_true, Bool.true_eq_false, reduceIte, reduceCtorEq]; done) | (simp [bI, l_mvo, c_2, c_3, c_4]; done))]; exact lv_sub hl [2, 3, 4, 1, 0] rfl)
          · have c_4 := bI_nz c_4
            refine lv_aload_n hx hb dX3_voters_40 rfl (lv_at hl 0 rfl) ?_
            refine k_get (ci := 3) (v := .ref (M 5)) (C := RX3) (T := TX3) (N := 10) hx hb hown hK hw hts hinX3 0 rfl rfl 8 (by decide) hf23 rfl dX3_voters_41 ?_
            refine lv_iload hx hb dX3_voters_44 (lv_at hl 4 rfl) ?_
            refine lv_iconst (v := 1) hx hb dX3_voters_46 (by decide) ?_
            refine kr_i (ws' := wN E M (th, Hb, a, k)) (va_runS (As := [.int (nI i), .int 1]) (rest := [.ref (M 5), .int (l_mvo Hb a s g i)]) ⟨hx, hb, hml, hown, hts⟩ (c_X3_sailor l E i 1  _) (va_cwS 2 hts gX3_voters_X3_sailor rfl rfl rfl hd_X3_sailor ⟨Nat.le_of_ble_eq_true rfl, Nat.le_of_ble_eq_true rfl⟩) (rpS (AV := [.int (nI i), .int 1]) hw hK hG rp_74) rfl rfl hl.1 rfl (lv_room (Nat.le_of_ble_eq_true rfl)) dX3_voters_47 ⟨Nat.le_of_ble_eq_true rfl, Nat.le_of_ble_eq_true rfl⟩) hw hA rp_74 (fun H locs hw => ?_)
            refine k_ildN (i := 18 + 2 * i + 1) (f := a) hx hb hK hw 5 rfl (by omega) (by omega) dX3_voters_50 ?_
            refine lv_iconst (v := 1) hx hb dX3_voters_51 (by decide) ?_
            refine lv_icmp_ne (tgt := 59) hx hb dX3_voters_52 (by decide) (fun c_5 => ?_) (fun c_5 => ?_)
            · refine lv_iconst (v := 0) hx hb dX3_voters_59 (by decide) ?_
              refine lv_iadd hx hb dX3_voters_60 ?_
              refine lv_istore_n (lv' := [(3, .int ((l_mvo Hb a s g i) + 0)), (0, .ref (M 0)), (1, .int (nI s)), (2, .int (bI g)), (4, .int (nI i))]) hx hb dX3_voters_61 rfl hl (by decide) rfl (fun ls hl => ?_)
              refine lv_iinc (v := nI (i + 1)) (lv' := [(4, .int (nI (i + 1))), (3, .int ((l_mvo Hb a s g i) + 0)), (0, .ref (M 0)), (1, .int (nI s)), (2, .int (bI g))]) hx hb dX3_voters_62 hl (k := 4) rfl (nI_add i 1) (by decide) rfl (fun ls hl => ?_)
              refine lv_goto (tgt := 5) hx hb dX3_voters_65 (by decide) ?_
              exact ih_5 (i + 1) _ _ _ (by omega) hw (by rw [show (.int (l_mvo Hb a s g (i + 1)) : Value) = .int ((l_mvo Hb a s g i) + 0) from (by first | assumption | (simp only [l_mvo, if_pos c_2, c_3, c_4, if_neg c_5, if_true, if_false, Bool.false_eq_true, Bool.true_eq_false, reduceIte, reduceCtorEq]; done) | (simp only [l_mvo, if_pos c_2, c_3, c_4, if_neg c_5, if_true, if_false, Bool.false_eq_true, Bool.true_eq_false, reduceIte, reduceCtorEq]; rfl) | rfl | (simp [l_mvo, if_pos c_2, c_3, c_4, if_neg c_5, if_true, if_false, Bool.false_eq_true, Bool.true_eq_false, reduceIte, reduceCtorEq]; done) | (simp [bI, l_mvo, c_2, c_3, c_4, c_5]; done))]; exact lv_sub hl [2, 3, 4, 1, 0] rfl)
            · refine lv_iconst (v := 1) hx hb dX3_voters_55 (by decide) ?_
              refine lv_goto (tgt := 60) hx hb dX3_voters_56 (by decide) ?_
              refine lv_iadd hx hb dX3_voters_60 ?_
              refine lv_istore_n (lv' := [(3, .int ((l_mvo Hb a s g i) + 1)), (0, .ref (M 0)), (1, .int (nI s)), (2, .int (bI g)), (4, .int (nI i))]) hx hb dX3_voters_61 rfl hl (by decide) rfl (fun ls hl => ?_)
              refine lv_iinc (v := nI (i + 1)) (lv' := [(4, .int (nI (i + 1))), (3, .int ((l_mvo Hb a s g i) + 1)), (0, .ref (M 0)), (1, .int (nI s)), (2, .int (bI g))]) hx hb dX3_voters_62 hl (k := 4) rfl (nI_add i 1) (by decide) rfl (fun ls hl => ?_)
              refine lv_goto (tgt := 5) hx hb dX3_voters_65 (by decide) ?_
              exact ih_5 (i + 1) _ _ _ (by omega) hw (by rw [show (.int (l_mvo Hb a s g (i + 1)) : Value) = .int ((l_mvo Hb a s g i) + 1) from (by first | assumption | (simp only [l_mvo, if_pos c_2, c_3, c_4, if_pos c_5, if_true, if_false, Bool.false_eq_true, Bool.true_eq_false, reduceIte, reduceCtorEq]; done) | (simp only [l_mvo, if_pos c_2, c_3, c_4, if_pos c_5, if_true, if_false, Bool.false_eq_true, Bool.true_eq_false, reduceIte, reduceCtorEq]; rfl) | rfl | (simp [l_mvo, if_pos c_2, c_3, c_4, if_pos c_5, if_true, if_false, Bool.false_eq_true, Bool.true_eq_false, reduceIte, reduceCtorEq]; done) | (simp [bI, l_mvo, c_2, c_3, c_4, c_5]; done))]; exact lv_sub hl [2, 3, 4, 1, 0] rfl)
  exact L_5 ((n_np Hb) - 0) 0 _ _ _ (by omega) hw (lv_sub hl [2, 3, 4, 1, 0] rfl)
abbrev rm_X3_dark : Room := { frames := 2, cells := 0, slots := 0, locals := 42 }
set_option maxHeartbeats 4000000 in
set_option maxRecDepth 100000 in
theorem c_X3_dark (l : Launch) (E : Ev) (M : Nat → Nat) (th : Int32) (Hb : MH) (a k : Fn) (p : Nat) (h1 : n_ns Hb ≤ 5) (h2 : n_np Hb ≤ 16) (h3 : n_nw Hb ≤ 4) (h4 : ∀ p, p < n_np Hb → n_so Hb p < 5) (hp : p < n_np Hb) : MI l E yX3_dark wsX3_dark rm_X3_dark [.ref (M 0), .int (nI p)] (wN E M (th, Hb, a, k)) (bI (r_dark Hb a p)) (wN E M (th, Hb, a, k)) := by
  refine k_bI (cc := cX3_dark) (maxL := 2) (ret := (some .boolean)) (by decide) rfl (Nat.le_of_ble_eq_true rfl) ?_
  intro p9 e s9 m args below meth c A9 ls hC hl hw
  obtain ⟨hx, hb, hml, hr, hown, hts, hlocks, hK, hG, hA⟩ := hC
  have hf13 := hts (.fieldLink RX3 13 "SailorCandlesModel" "shipOf" "[I") (List.mem_of_getElem? (i := 1) rfl)
  have hinX3 : ∀ w ∈ wsX30, w ∈ wsX3_dark := fun w h => List.mem_cons_of_mem _ (List.mem_append_right _ h)
  have hf23 := hts (.fieldLink RX3 23 "SailorCandlesModel" "now" "[I") (List.mem_of_getElem? (i := 2) rfl)
  have hl : lv_has ls 2 [(0, .ref (M 0)), (1, .int (nI p))] := hl
  refine lv_aload_n hx hb dX3_dark_0 rfl (lv_at hl 0 rfl) ?_
  refine lv_aload_n hx hb dX3_dark_1 rfl (lv_at hl 0 rfl) ?_
  refine k_get (ci := 3) (v := .ref (M 2)) (C := RX3) (T := TX3) (N := 10) hx hb hown hK hw hts hinX3 0 rfl rfl 4 (by decide) hf13 rfl dX3_dark_2 ?_
  refine lv_iload_n hx hb dX3_dark_5 rfl (lv_at hl 1 rfl) ?_
  refine k_nldN (i := p) (f := n_so Hb) hx hb hK hw 2 rfl (by omega) (by omega) dX3_dark_6 ?_
  refine kr_i (ws' := wN E M (th, Hb, a, k)) (va_runV (As := [.int (nI (n_so Hb p))]) (rest := []) ⟨hx, hb, hml, hown, hts⟩ (c_X3_isOut l E M th Hb a k (n_so Hb p) (by omega) (by omega) (by omega) (h4) (by have := h4 p (by omega); omega) _) (cwV 1 hts gX3_dark_X3_isOut rfl rfl rfl ⟨rfl, hd_X3_isOut⟩ ⟨Nat.le_of_ble_eq_true rfl, Nat.le_of_ble_eq_true rfl⟩) (pwV (ci := 3) (q0 := 0) (C := RX3) hw hK rfl rfl rfl (rpS (AV := [.ref (M 0), .int (nI (n_so Hb p))]) hw hK hG rp_75)) rfl rfl hl.1 rfl (lv_room (Nat.le_of_ble_eq_true rfl)) dX3_dark_7 ⟨Nat.le_of_ble_eq_true rfl, Nat.le_of_ble_eq_true rfl⟩) hw hA rp_75 (fun H locs hw => ?_)
  refine lv_if_eq (tgt := 30) hx hb dX3_dark_10 (by decide) (fun c_1 => ?_) (fun c_1 => ?_)
  · have c_1 := bI_z c_1
    refine lv_iconst (v := 0) hx hb dX3_dark_30 (by decide) ?_
    exact k_iret hx hb hr hlocks hK hw rfl dX3_dark_31 (by first | assumption | (simp only [r_dark, bI_t, bI_f, c_1, if_true, if_false, Bool.false_eq_true, Bool.true_eq_false, reduceIte, reduceCtorEq]; done) | (simp only [r_dark, bI_t, bI_f, c_1, if_true, if_false, Bool.false_eq_true, Bool.true_eq_false, reduceIte, reduceCtorEq]; rfl) | rfl | (simp [r_dark, bI_t, bI_f, c_1, if_true, if_false, Bool.false_eq_true, Bool.true_eq_false, reduceIte, reduceCtorEq]; done) | (simp [bI, r_dark, bI_t, bI_f, c_1]; done)) rfl
  · have c_1 := bI_nz c_1
    refine lv_aload_n hx hb dX3_dark_13 rfl (lv_at hl 0 rfl) ?_
    refine k_get (ci := 3) (v := .ref (M 5)) (C := RX3) (T := TX3) (N := 10) hx hb hown hK hw hts hinX3 0 rfl rfl 8 (by decide) hf23 rfl dX3_dark_14 ?_
    refine lv_iload_n hx hb dX3_dark_17 rfl (lv_at hl 1 rfl) ?_
    refine lv_iconst (v := 0) hx hb dX3_dark_18 (by decide) ?_
    refine kr_i (ws' := wN E M (th, Hb, a, k)) (va_runS (As := [.int (nI p), .int 0]) (rest := [.ref (M 5)]) ⟨hx, hb, hml, hown, hts⟩ (c_X3_sailor l E p 0  _) (va_cwS 2 hts gX3_dark_X3_sailor rfl rfl rfl hd_X3_sailor ⟨Nat.le_of_ble_eq_true rfl, Nat.le_of_ble_eq_true rfl⟩) (rpS (AV := [.int (nI p), .int 0]) hw hK hG rp_74) rfl rfl hl.1 rfl (lv_room (Nat.le_of_ble_eq_true rfl)) dX3_dark_19 ⟨Nat.le_of_ble_eq_true rfl, Nat.le_of_ble_eq_true rfl⟩) hw hA rp_74 (fun H locs hw => ?_)
    refine k_ildN (i := 18 + 2 * p + 0) (f := a) hx hb hK hw 5 rfl (by omega) (by omega) dX3_dark_22 ?_
    refine lv_if_ne (tgt := 30) hx hb dX3_dark_23 (by decide) (fun c_2 => ?_) (fun c_2 => ?_)
    · refine lv_iconst (v := 0) hx hb dX3_dark_30 (by decide) ?_
      exact k_iret hx hb hr hlocks hK hw rfl dX3_dark_31 (by first | assumption | (simp only [r_dark, bI_t, bI_f, c_1, if_neg c_2, if_true, if_false, Bool.false_eq_true, Bool.true_eq_false, reduceIte, reduceCtorEq]; done) | (simp only [r_dark, bI_t, bI_f, c_1, if_neg c_2, if_true, if_false, Bool.false_eq_true, Bool.true_eq_false, reduceIte, reduceCtorEq]; rfl) | rfl | (simp [r_dark, bI_t, bI_f, c_1, if_neg c_2, if_true, if_false, Bool.false_eq_true, Bool.true_eq_false, reduceIte, reduceCtorEq]; done) | (simp [bI, r_dark, bI_t, bI_f, c_1, c_2]; done)) rfl
    · refine lv_iconst (v := 1) hx hb dX3_dark_26 (by decide) ?_
      refine lv_goto (tgt := 31) hx hb dX3_dark_27 (by decide) ?_
      exact k_iret hx hb hr hlocks hK hw rfl dX3_dark_31 (by first | assumption | (simp only [r_dark, bI_t, bI_f, c_1, if_pos c_2, if_true, if_false, Bool.false_eq_true, Bool.true_eq_false, reduceIte, reduceCtorEq]; done) | (simp only [r_dark, bI_t, bI_f, c_1, if_pos c_2, if_true, if_false, Bool.false_eq_true, Bool.true_eq_false, reduceIte, reduceCtorEq]; rfl) | rfl | (simp [r_dark, bI_t, bI_f, c_1, if_pos c_2, if_true, if_false, Bool.false_eq_true, Bool.true_eq_false, reduceIte, reduceCtorEq]; done) | (simp [bI, r_dark, bI_t, bI_f, c_1, c_2]; done)) rfl
abbrev rm_X3_allDark : Room := { frames := 3, cells := 0, slots := 0, locals := 63 }
set_option maxHeartbeats 4000000 in
set_option maxRecDepth 100000 in
theorem c_X3_allDark (l : Launch) (E : Ev) (M : Nat → Nat) (th : Int32) (Hb : MH) (a k : Fn) (h1 : n_ns Hb ≤ 5) (h2 : n_np Hb ≤ 16) (h3 : n_nw Hb ≤ 4) (h4 : ∀ p, p < n_np Hb → n_so Hb p < 5) : MI l E yX3_allDark wsX3_allDark rm_X3_allDark [.ref (M 0)] (wN E M (th, Hb, a, k)) (l_mdk Hb a (n_np Hb)) (wN E M (th, Hb, a, k)) := by
  refine k_bI (cc := cX3_allDark) (maxL := 3) (ret := (some .int)) (by decide) rfl (Nat.le_of_ble_eq_true rfl) ?_
  intro p9 e s9 m args below meth c A9 ls hC hl hw
  obtain ⟨hx, hb, hml, hr, hown, hts, hlocks, hK, hG, hA⟩ := hC
  have hf40 := hts (.fieldLink RX3 40 "SailorCandlesModel" "sailors" "I") (List.mem_of_getElem? (i := 1) rfl)
  have hinX3 : ∀ w ∈ wsX30, w ∈ wsX3_allDark := fun w h => List.mem_cons_of_mem _ (List.mem_append_right _ h)
  have hl : lv_has ls 3 [(0, .ref (M 0))] := hl
  refine lv_iconst (v := 0) hx hb dX3_allDark_0 (by decide) ?_
  refine lv_istore_n (lv' := [(1, .int 0), (0, .ref (M 0))]) hx hb dX3_allDark_1 rfl hl (by decide) rfl (fun ls hl => ?_)
  refine lv_iconst (v := 0) hx hb dX3_allDark_2 (by decide) ?_
  refine lv_istore_n (lv' := [(2, .int 0), (1, .int 0), (0, .ref (M 0))]) hx hb dX3_allDark_3 rfl hl (by decide) rfl (fun ls hl => ?_)
  have L_4 : ∀ (k9 i : Nat) (H : Heap) (locs : List Loc) (ls : Array Slot), i + k9 = (n_np Hb) → Wd E A9 s9.heap (wN E M (th, Hb, a, k)) H locs → lv_has ls 3 [(0, .ref (M 0)), (1, .int (l_mdk Hb a i)), (2, .int (nI i))] → W p9 l e rm_X3_allDark s9 m args below meth c H locs 0 0 (EndI E A9 (l_mdk Hb a (n_np Hb)) (wN E M (th, Hb, a, k)) below args s9 (rm_X3_allDark).cells (rm_X3_allDark).slots) (F0 m 4 ls []) := by
    intro k9
    induction k9 with
    | zero =>
      intro i H locs ls hi hw hl
      have hz_1 : n_np Hb = i := by omega
      refine lv_iload_n hx hb dX3_allDark_4 rfl (lv_at hl 2 rfl) ?_
      refine lv_aload_n hx hb dX3_allDark_5 rfl (lv_at hl 0 rfl) ?_
      refine k_get (ci := 3) (v := .int (nI (n_np Hb))) (C := RX3) (T := TX3) (N := 10) hx hb hown hK hw hts hinX3 0 rfl rfl 3 (by decide) hf40 rfl dX3_allDark_6 ?_
      refine lv_icmp_ge (tgt := 34) hx hb dX3_allDark_9 (by decide) (fun _ => ?_) (fun q8 => absurd (by rw [← hz_1]; exact Int32.le_refl _) q8)
      refine lv_iload_n hx hb dX3_allDark_34 rfl (lv_at hl 1 rfl) ?_
      exact k_iret hx hb hr hlocks hK hw rfl dX3_allDark_35 (by subst hz_1; first | rfl | assumption | (simp only [l_mdk, if_true, if_false, Bool.false_eq_true, Bool.true_eq_false, reduceIte, reduceCtorEq]; done) | (simp only [l_mdk, if_true, if_false, Bool.false_eq_true, Bool.true_eq_false, reduceIte, reduceCtorEq]; rfl) | (simp [l_mdk, if_true, if_false, Bool.false_eq_true, Bool.true_eq_false, reduceIte, reduceCtorEq]; done) | (simp [bI, l_mdk]; done)) rfl
    | succ k9 ih_4 =>
      intro i H locs ls hi hw hl
      have hi9 : i < n_np Hb := by omega
      refine lv_iload_n hx hb dX3_allDark_4 rfl (lv_at hl 2 rfl) ?_
      refine lv_aload_n hx hb dX3_allDark_5 rfl (lv_at hl 0 rfl) ?_
      refine k_get (ci := 3) (v := .int (nI (n_np Hb))) (C := RX3) (T := TX3) (N := 10) hx hb hown hK hw hts hinX3 0 rfl rfl 3 (by decide) hf40 rfl dX3_allDark_6 ?_
      refine lv_icmp_ge (tgt := 34) hx hb dX3_allDark_9 (by decide) (fun q8 => absurd q8 (nI_ge (a := i) (b := n_np Hb) (by omega) (by omega))) (fun _ => ?_)
      refine lv_iload_n hx hb dX3_allDark_12 rfl (lv_at hl 1 rfl) ?_
      refine lv_aload_n hx hb dX3_allDark_13 rfl (lv_at hl 0 rfl) ?_
      refine lv_iload_n hx hb dX3_allDark_14 rfl (lv_at hl 2 rfl) ?_
      refine kr_i (ws' := wN E M (th, Hb, a, k)) (va_runV (As := [.int (nI i)]) (rest := [.int (l_mdk Hb a i)]) ⟨hx, hb, hml, hown, hts⟩ (c_X3_dark l E M th Hb a k i (by omega) (by omega) (by omega) (h4) (by omega) _) (cwV 1 hts gX3_allDark_X3_dark rfl rfl rfl ⟨rfl, hd_X3_dark⟩ ⟨Nat.le_of_ble_eq_true rfl, Nat.le_of_ble_eq_true rfl⟩) (pwV (ci := 3) (q0 := 0) (C := RX3) hw hK rfl rfl rfl (rpS (AV := [.ref (M 0), .int (nI i)]) hw hK hG rp_75)) rfl rfl hl.1 rfl (lv_room (Nat.le_of_ble_eq_true rfl)) dX3_allDark_15 ⟨Nat.le_of_ble_eq_true rfl, Nat.le_of_ble_eq_true rfl⟩) hw hA rp_75 (fun H locs hw => ?_)
      refine lv_if_eq (tgt := 25) hx hb dX3_allDark_18 (by decide) (fun c_2 => ?_) (fun c_2 => ?_)
      · have c_2 := bI_z c_2
        refine lv_iconst (v := 0) hx hb dX3_allDark_25 (by decide) ?_
        refine lv_iadd hx hb dX3_allDark_26 ?_
        refine lv_istore_n (lv' := [(1, .int ((l_mdk Hb a i) + 0)), (0, .ref (M 0)), (2, .int (nI i))]) hx hb dX3_allDark_27 rfl hl (by decide) rfl (fun ls hl => ?_)
        refine lv_iinc (v := nI (i + 1)) (lv' := [(2, .int (nI (i + 1))), (1, .int ((l_mdk Hb a i) + 0)), (0, .ref (M 0))]) hx hb dX3_allDark_28 hl (k := 2) rfl (nI_add i 1) (by decide) rfl (fun ls hl => ?_)
        refine lv_goto (tgt := 4) hx hb dX3_allDark_31 (by decide) ?_
        exact ih_4 (i + 1) _ _ _ (by omega) hw (by rw [show (.int (l_mdk Hb a (i + 1)) : Value) = .int ((l_mdk Hb a i) + 0) from (by first | assumption | (simp only [l_mdk, c_2, if_true, if_false, Bool.false_eq_true, Bool.true_eq_false, reduceIte, reduceCtorEq]; done) | (simp only [l_mdk, c_2, if_true, if_false, Bool.false_eq_true, Bool.true_eq_false, reduceIte, reduceCtorEq]; rfl) | rfl | (simp [l_mdk, c_2, if_true, if_false, Bool.false_eq_true, Bool.true_eq_false, reduceIte, reduceCtorEq]; done) | (simp [bI, l_mdk, c_2]; done))]; exact lv_sub hl [2, 1, 0] rfl)
      · have c_2 := bI_nz c_2
        refine lv_iconst (v := 1) hx hb dX3_allDark_21 (by decide) ?_
        refine lv_goto (tgt := 26) hx hb dX3_allDark_22 (by decide) ?_
        refine lv_iadd hx hb dX3_allDark_26 ?_
        refine lv_istore_n (lv' := [(1, .int ((l_mdk Hb a i) + 1)), (0, .ref (M 0)), (2, .int (nI i))]) hx hb dX3_allDark_27 rfl hl (by decide) rfl (fun ls hl => ?_)
        refine lv_iinc (v := nI (i + 1)) (lv' := [(2, .int (nI (i + 1))), (1, .int ((l_mdk Hb a i) + 1)), (0, .ref (M 0))]) hx hb dX3_allDark_28 hl (k := 2) rfl (nI_add i 1) (by decide) rfl (fun ls hl => ?_)
        refine lv_goto (tgt := 4) hx hb dX3_allDark_31 (by decide) ?_
        exact ih_4 (i + 1) _ _ _ (by omega) hw (by rw [show (.int (l_mdk Hb a (i + 1)) : Value) = .int ((l_mdk Hb a i) + 1) from (by first | assumption | (simp only [l_mdk, c_2, if_true, if_false, Bool.false_eq_true, Bool.true_eq_false, reduceIte, reduceCtorEq]; done) | (simp only [l_mdk, c_2, if_true, if_false, Bool.false_eq_true, Bool.true_eq_false, reduceIte, reduceCtorEq]; rfl) | rfl | (simp [l_mdk, c_2, if_true, if_false, Bool.false_eq_true, Bool.true_eq_false, reduceIte, reduceCtorEq]; done) | (simp [bI, l_mdk, c_2]; done))]; exact lv_sub hl [2, 1, 0] rfl)
  exact L_4 ((n_np Hb) - 0) 0 _ _ _ (by omega) hw (lv_sub hl [2, 1, 0] rfl)
abbrev rm_X3_onWall : Room := { frames := 1, cells := 0, slots := 0, locals := 21 }
set_option maxHeartbeats 4000000 in
set_option maxRecDepth 100000 in
theorem c_X3_onWall (l : Launch) (E : Ev) (M : Nat → Nat) (th : Int32) (Hb : MH) (a k : Fn) (h1 : n_ns Hb ≤ 5) (h2 : n_np Hb ≤ 16) (h3 : n_nw Hb ≤ 4) (h4 : ∀ p, p < n_np Hb → n_so Hb p < 5) : MI l E yX3_onWall wsX3_onWall rm_X3_onWall [.ref (M 0)] (wN E M (th, Hb, a, k)) (l_mwl Hb a (n_np Hb)) (wN E M (th, Hb, a, k)) := by
  refine k_bI (cc := cX3_onWall) (maxL := 3) (ret := (some .int)) (by decide) rfl (Nat.le_of_ble_eq_true rfl) ?_
  intro p9 e s9 m args below meth c A9 ls hC hl hw
  obtain ⟨hx, hb, hml, hr, hown, hts, hlocks, hK, hG, hA⟩ := hC
  have hf40 := hts (.fieldLink RX3 40 "SailorCandlesModel" "sailors" "I") (List.mem_of_getElem? (i := 1) rfl)
  have hinX3 : ∀ w ∈ wsX30, w ∈ wsX3_onWall := fun w h => List.mem_cons_of_mem _ (List.mem_append_right _ h)
  have hf23 := hts (.fieldLink RX3 23 "SailorCandlesModel" "now" "[I") (List.mem_of_getElem? (i := 2) rfl)
  have hf13 := hts (.fieldLink RX3 13 "SailorCandlesModel" "shipOf" "[I") (List.mem_of_getElem? (i := 3) rfl)
  have hl : lv_has ls 3 [(0, .ref (M 0))] := hl
  refine lv_iconst (v := 0) hx hb dX3_onWall_0 (by decide) ?_
  refine lv_istore_n (lv' := [(1, .int 0), (0, .ref (M 0))]) hx hb dX3_onWall_1 rfl hl (by decide) rfl (fun ls hl => ?_)
  refine lv_iconst (v := 0) hx hb dX3_onWall_2 (by decide) ?_
  refine lv_istore_n (lv' := [(2, .int 0), (1, .int 0), (0, .ref (M 0))]) hx hb dX3_onWall_3 rfl hl (by decide) rfl (fun ls hl => ?_)
  have L_4 : ∀ (k9 i : Nat) (H : Heap) (locs : List Loc) (ls : Array Slot), i + k9 = (n_np Hb) → Wd E A9 s9.heap (wN E M (th, Hb, a, k)) H locs → lv_has ls 3 [(0, .ref (M 0)), (1, .int (l_mwl Hb a i)), (2, .int (nI i))] → W p9 l e rm_X3_onWall s9 m args below meth c H locs 0 0 (EndI E A9 (l_mwl Hb a (n_np Hb)) (wN E M (th, Hb, a, k)) below args s9 (rm_X3_onWall).cells (rm_X3_onWall).slots) (F0 m 4 ls []) := by
    intro k9
    induction k9 with
    | zero =>
      intro i H locs ls hi hw hl
      have hz_1 : n_np Hb = i := by omega
      refine lv_iload_n hx hb dX3_onWall_4 rfl (lv_at hl 2 rfl) ?_
      refine lv_aload_n hx hb dX3_onWall_5 rfl (lv_at hl 0 rfl) ?_
      refine k_get (ci := 3) (v := .int (nI (n_np Hb))) (C := RX3) (T := TX3) (N := 10) hx hb hown hK hw hts hinX3 0 rfl rfl 3 (by decide) hf40 rfl dX3_onWall_6 ?_
      refine lv_icmp_ge (tgt := 45) hx hb dX3_onWall_9 (by decide) (fun _ => ?_) (fun q8 => absurd (by rw [← hz_1]; exact Int32.le_refl _) q8)
      refine lv_iload_n hx hb dX3_onWall_45 rfl (lv_at hl 1 rfl) ?_
      exact k_iret hx hb hr hlocks hK hw rfl dX3_onWall_46 (by subst hz_1; first | rfl | assumption | (simp only [l_mwl, if_true, if_false, Bool.false_eq_true, Bool.true_eq_false, reduceIte, reduceCtorEq]; done) | (simp only [l_mwl, if_true, if_false, Bool.false_eq_true, Bool.true_eq_false, reduceIte, reduceCtorEq]; rfl) | (simp [l_mwl, if_true, if_false, Bool.false_eq_true, Bool.true_eq_false, reduceIte, reduceCtorEq]; done) | (simp [bI, l_mwl]; done)) rfl
    | succ k9 ih_4 =>
      intro i H locs ls hi hw hl
      have hi9 : i < n_np Hb := by omega
      refine lv_iload_n hx hb dX3_onWall_4 rfl (lv_at hl 2 rfl) ?_
      refine lv_aload_n hx hb dX3_onWall_5 rfl (lv_at hl 0 rfl) ?_
      refine k_get (ci := 3) (v := .int (nI (n_np Hb))) (C := RX3) (T := TX3) (N := 10) hx hb hown hK hw hts hinX3 0 rfl rfl 3 (by decide) hf40 rfl dX3_onWall_6 ?_
      refine lv_icmp_ge (tgt := 45) hx hb dX3_onWall_9 (by decide) (fun q8 => absurd q8 (nI_ge (a := i) (b := n_np Hb) (by omega) (by omega))) (fun _ => ?_)
      refine lv_iload_n hx hb dX3_onWall_12 rfl (lv_at hl 1 rfl) ?_
      refine lv_aload_n hx hb dX3_onWall_13 rfl (lv_at hl 0 rfl) ?_
      refine k_get (ci := 3) (v := .ref (M 5)) (C := RX3) (T := TX3) (N := 10) hx hb hown hK hw hts hinX3 0 rfl rfl 8 (by decide) hf23 rfl dX3_onWall_14 ?_
      refine lv_aload_n hx hb dX3_onWall_17 rfl (lv_at hl 0 rfl) ?_
      refine k_get (ci := 3) (v := .ref (M 2)) (C := RX3) (T := TX3) (N := 10) hx hb hown hK hw hts hinX3 0 rfl rfl 4 (by decide) hf13 rfl dX3_onWall_18 ?_
      refine lv_iload_n hx hb dX3_onWall_21 rfl (lv_at hl 2 rfl) ?_
      refine k_nldN (i := i) (f := n_so Hb) hx hb hK hw 2 rfl (by omega) (by omega) dX3_onWall_22 ?_
      refine lv_iconst (v := 0) hx hb dX3_onWall_23 (by decide) ?_
      refine kr_i (ws' := wN E M (th, Hb, a, k)) (va_runS (As := [.int (nI (n_so Hb i)), .int 0]) (rest := [.ref (M 5), .int (l_mwl Hb a i)]) ⟨hx, hb, hml, hown, hts⟩ (c_X3_ship l E (n_so Hb i) 0  _) (va_cwS 2 hts gX3_onWall_X3_ship rfl rfl rfl hd_X3_ship ⟨Nat.le_of_ble_eq_true rfl, Nat.le_of_ble_eq_true rfl⟩) (rpS (AV := [.int (nI (n_so Hb i)), .int 0]) hw hK hG rp_74) rfl rfl hl.1 rfl (lv_room (Nat.le_of_ble_eq_true rfl)) dX3_onWall_24 ⟨Nat.le_of_ble_eq_true rfl, Nat.le_of_ble_eq_true rfl⟩) hw hA rp_74 (fun H locs hw => ?_)
      refine k_ildN (i := 3 + 3 * (n_so Hb i) + 0) (f := a) hx hb hK hw 5 rfl (by have := h4 i (by omega); omega) (by omega) dX3_onWall_27 ?_
      refine lv_iconst (v := 2) hx hb dX3_onWall_28 (by decide) ?_
      refine lv_icmp_ne (tgt := 36) hx hb dX3_onWall_29 (by decide) (fun c_2 => ?_) (fun c_2 => ?_)
      · refine lv_iconst (v := 0) hx hb dX3_onWall_36 (by decide) ?_
        refine lv_iadd hx hb dX3_onWall_37 ?_
        refine lv_istore_n (lv' := [(1, .int ((l_mwl Hb a i) + 0)), (0, .ref (M 0)), (2, .int (nI i))]) hx hb dX3_onWall_38 rfl hl (by decide) rfl (fun ls hl => ?_)
        refine lv_iinc (v := nI (i + 1)) (lv' := [(2, .int (nI (i + 1))), (1, .int ((l_mwl Hb a i) + 0)), (0, .ref (M 0))]) hx hb dX3_onWall_39 hl (k := 2) rfl (nI_add i 1) (by decide) rfl (fun ls hl => ?_)
        refine lv_goto (tgt := 4) hx hb dX3_onWall_42 (by decide) ?_
        exact ih_4 (i + 1) _ _ _ (by omega) hw (by rw [show (.int (l_mwl Hb a (i + 1)) : Value) = .int ((l_mwl Hb a i) + 0) from (by first | assumption | (simp only [l_mwl, if_neg c_2, if_true, if_false, Bool.false_eq_true, Bool.true_eq_false, reduceIte, reduceCtorEq]; done) | (simp only [l_mwl, if_neg c_2, if_true, if_false, Bool.false_eq_true, Bool.true_eq_false, reduceIte, reduceCtorEq]; rfl) | rfl | (simp [l_mwl, if_neg c_2, if_true, if_false, Bool.false_eq_true, Bool.true_eq_false, reduceIte, reduceCtorEq]; done) | (simp [bI, l_mwl, c_2]; done))]; exact lv_sub hl [2, 1, 0] rfl)
      · refine lv_iconst (v := 1) hx hb dX3_onWall_32 (by decide) ?_
        refine lv_goto (tgt := 37) hx hb dX3_onWall_33 (by decide) ?_
        refine lv_iadd hx hb dX3_onWall_37 ?_
        refine lv_istore_n (lv' := [(1, .int ((l_mwl Hb a i) + 1)), (0, .ref (M 0)), (2, .int (nI i))]) hx hb dX3_onWall_38 rfl hl (by decide) rfl (fun ls hl => ?_)
        refine lv_iinc (v := nI (i + 1)) (lv' := [(2, .int (nI (i + 1))), (1, .int ((l_mwl Hb a i) + 1)), (0, .ref (M 0))]) hx hb dX3_onWall_39 hl (k := 2) rfl (nI_add i 1) (by decide) rfl (fun ls hl => ?_)
        refine lv_goto (tgt := 4) hx hb dX3_onWall_42 (by decide) ?_
        exact ih_4 (i + 1) _ _ _ (by omega) hw (by rw [show (.int (l_mwl Hb a (i + 1)) : Value) = .int ((l_mwl Hb a i) + 1) from (by first | assumption | (simp only [l_mwl, if_pos c_2, if_true, if_false, Bool.false_eq_true, Bool.true_eq_false, reduceIte, reduceCtorEq]; done) | (simp only [l_mwl, if_pos c_2, if_true, if_false, Bool.false_eq_true, Bool.true_eq_false, reduceIte, reduceCtorEq]; rfl) | rfl | (simp [l_mwl, if_pos c_2, if_true, if_false, Bool.false_eq_true, Bool.true_eq_false, reduceIte, reduceCtorEq]; done) | (simp [bI, l_mwl, c_2]; done))]; exact lv_sub hl [2, 1, 0] rfl)
  exact L_4 ((n_np Hb) - 0) 0 _ _ _ (by omega) hw (lv_sub hl [2, 1, 0] rfl)
abbrev rm_X3_lights : Room := { frames := 1, cells := 0, slots := 0, locals := 21 }
set_option maxHeartbeats 4000000 in
set_option maxRecDepth 100000 in
theorem c_X3_lights (l : Launch) (E : Ev) (M : Nat → Nat) (th : Int32) (Hb : MH) (a k : Fn) (p : Nat) (h1 : n_ns Hb ≤ 5) (h2 : n_np Hb ≤ 16) (h3 : n_nw Hb ≤ 4) (h4 : ∀ p, p < n_np Hb → n_so Hb p < 5) (hp : p < n_np Hb) : MI l E yX3_lights wsX3_lights rm_X3_lights [.ref (M 0), .int (nI p)] (wN E M (th, Hb, a, k)) (r_litN a) (wN E M (th, Hb, r_lit a p, k)) := by
  refine k_bI (cc := cX3_lights) (maxL := 2) (ret := (some .int)) (by decide) rfl (Nat.le_of_ble_eq_true rfl) ?_
  intro p9 e s9 m args below meth c A9 ls hC hl hw
  obtain ⟨hx, hb, hml, hr, hown, hts, hlocks, hK, hG, hA⟩ := hC
  have hf23 := hts (.fieldLink RX3 23 "SailorCandlesModel" "now" "[I") (List.mem_of_getElem? (i := 1) rfl)
  have hinX3 : ∀ w ∈ wsX30, w ∈ wsX3_lights := fun w h => List.mem_cons_of_mem _ (List.mem_append_right _ h)
  have hl : lv_has ls 2 [(0, .ref (M 0)), (1, .int (nI p))] := hl
  refine lv_aload_n hx hb dX3_lights_0 rfl (lv_at hl 0 rfl) ?_
  refine k_get (ci := 3) (v := .ref (M 5)) (C := RX3) (T := TX3) (N := 10) hx hb hown hK hw hts hinX3 0 rfl rfl 8 (by decide) hf23 rfl dX3_lights_1 ?_
  refine lv_iconst (v := 1) hx hb dX3_lights_4 (by decide) ?_
  refine k_ildN (i := 1) (f := a) hx hb hK hw 5 rfl (by omega) (by omega) dX3_lights_5 ?_
  refine lv_bipush (v := 12) hx hb dX3_lights_6 (by decide) ?_
  refine lv_icmp_ge (tgt := 13) hx hb dX3_lights_8 (by decide) (fun c_1 => ?_) (fun c_1 => ?_)
  · refine lv_aload_n hx hb dX3_lights_13 rfl (lv_at hl 0 rfl) ?_
    refine k_get (ci := 3) (v := .ref (M 5)) (C := RX3) (T := TX3) (N := 10) hx hb hown hK hw hts hinX3 0 rfl rfl 8 (by decide) hf23 rfl dX3_lights_14 ?_
    refine lv_iconst (v := 1) hx hb dX3_lights_17 (by decide) ?_
    refine lv_dup2_11 hx hb dX3_lights_18 rfl rfl ?_
    refine k_ildN (i := 1) (f := a) hx hb hK hw 5 rfl (by omega) (by omega) dX3_lights_19 ?_
    refine lv_bipush (v := 12) hx hb dX3_lights_20 (by decide) ?_
    refine lv_isub hx hb dX3_lights_22 ?_
    refine k_istN (i := 1) (ws' := wN E M (th, Hb, upd a 1 ((a 1) - 12), k)) hx hb hK hw 5 rfl (by omega) (by omega) dX3_lights_23 rfl (fun H locs hw => ?_)
    refine lv_aload_n hx hb dX3_lights_24 rfl (lv_at hl 0 rfl) ?_
    refine k_get (ci := 3) (v := .ref (M 5)) (C := RX3) (T := TX3) (N := 10) hx hb hown hK hw hts hinX3 0 rfl rfl 8 (by decide) hf23 rfl dX3_lights_25 ?_
    refine lv_iload_n hx hb dX3_lights_28 rfl (lv_at hl 1 rfl) ?_
    refine lv_iconst (v := 0) hx hb dX3_lights_29 (by decide) ?_
    refine kr_i (ws' := wN E M (th, Hb, upd a 1 ((a 1) - 12), k)) (va_runS (As := [.int (nI p), .int 0]) (rest := [.ref (M 5)]) ⟨hx, hb, hml, hown, hts⟩ (c_X3_sailor l E p 0  _) (va_cwS 2 hts gX3_lights_X3_sailor rfl rfl rfl hd_X3_sailor ⟨Nat.le_of_ble_eq_true rfl, Nat.le_of_ble_eq_true rfl⟩) (rpS (AV := [.int (nI p), .int 0]) hw hK hG rp_74) rfl rfl hl.1 rfl (lv_room (Nat.le_of_ble_eq_true rfl)) dX3_lights_30 ⟨Nat.le_of_ble_eq_true rfl, Nat.le_of_ble_eq_true rfl⟩) hw hA rp_74 (fun H locs hw => ?_)
    refine lv_bipush (v := 12) hx hb dX3_lights_33 (by decide) ?_
    refine k_istN (i := 18 + 2 * p + 0) (ws' := wN E M (th, Hb, upd (upd a 1 ((a 1) - 12)) (18 + 2 * p + 0) 12, k)) hx hb hK hw 5 rfl (by omega) (by omega) dX3_lights_35 rfl (fun H locs hw => ?_)
    refine lv_iconst (v := 1) hx hb dX3_lights_36 (by decide) ?_
    exact k_iret hx hb hr hlocks hK hw rfl dX3_lights_37 (by first | assumption | (simp only [r_lit, r_litN, if_pos c_1, if_true, if_false, Bool.false_eq_true, Bool.true_eq_false, reduceIte, reduceCtorEq]; done) | (simp only [r_lit, r_litN, if_pos c_1, if_true, if_false, Bool.false_eq_true, Bool.true_eq_false, reduceIte, reduceCtorEq]; rfl) | rfl | (simp [r_lit, r_litN, if_pos c_1, if_true, if_false, Bool.false_eq_true, Bool.true_eq_false, reduceIte, reduceCtorEq]; done) | (simp [bI, r_lit, r_litN, c_1]; done)) (by first | assumption | (simp only [r_lit, r_litN, if_pos c_1, if_true, if_false, Bool.false_eq_true, Bool.true_eq_false, reduceIte, reduceCtorEq]; done) | (simp only [r_lit, r_litN, if_pos c_1, if_true, if_false, Bool.false_eq_true, Bool.true_eq_false, reduceIte, reduceCtorEq]; rfl) | rfl | (simp [r_lit, r_litN, if_pos c_1, if_true, if_false, Bool.false_eq_true, Bool.true_eq_false, reduceIte, reduceCtorEq]; done) | (simp [bI, r_lit, r_litN, c_1]; done))
  · refine lv_iconst (v := 0) hx hb dX3_lights_11 (by decide) ?_
    exact k_iret hx hb hr hlocks hK hw rfl dX3_lights_12 (by first | assumption | (simp only [r_lit, r_litN, if_neg c_1, if_true, if_false, Bool.false_eq_true, Bool.true_eq_false, reduceIte, reduceCtorEq]; done) | (simp only [r_lit, r_litN, if_neg c_1, if_true, if_false, Bool.false_eq_true, Bool.true_eq_false, reduceIte, reduceCtorEq]; rfl) | rfl | (simp [r_lit, r_litN, if_neg c_1, if_true, if_false, Bool.false_eq_true, Bool.true_eq_false, reduceIte, reduceCtorEq]; done) | (simp [bI, r_lit, r_litN, c_1]; done)) (by first | assumption | (simp only [r_lit, r_litN, if_neg c_1, if_true, if_false, Bool.false_eq_true, Bool.true_eq_false, reduceIte, reduceCtorEq]; done) | (simp only [r_lit, r_litN, if_neg c_1, if_true, if_false, Bool.false_eq_true, Bool.true_eq_false, reduceIte, reduceCtorEq]; rfl) | rfl | (simp [r_lit, r_litN, if_neg c_1, if_true, if_false, Bool.false_eq_true, Bool.true_eq_false, reduceIte, reduceCtorEq]; done) | (simp [bI, r_lit, r_litN, c_1]; done))
abbrev rm_X3_end : Room := { frames := 1, cells := 0, slots := 0, locals := 21 }
set_option maxHeartbeats 4000000 in
set_option maxRecDepth 100000 in
theorem c_X3_end (l : Launch) (E : Ev) (M : Nat → Nat) (th : Int32) (Hb : MH) (a k : Fn) (s : Nat) (h1 : n_ns Hb ≤ 5) (h2 : n_np Hb ≤ 16) (h3 : n_nw Hb ≤ 4) (h4 : ∀ p, p < n_np Hb → n_so Hb p < 5) (hs : s < 5) : MV l E yX3_end wsX3_end rm_X3_end [.ref (M 0), .int (nI s)] (wN E M (th, Hb, a, k)) (wN E M (th, Hb, r_end Hb a s, k)) := by
  refine k_bV (cc := cX3_end) (maxL := 3) (ret := none) (by decide) rfl (Nat.le_of_ble_eq_true rfl) ?_
  intro p9 e s9 m args below meth c A9 ls hC hl hw
  obtain ⟨hx, hb, hml, hr, hown, hts, hlocks, hK, hG, hA⟩ := hC
  have hf40 := hts (.fieldLink RX3 40 "SailorCandlesModel" "sailors" "I") (List.mem_of_getElem? (i := 1) rfl)
  have hinX3 : ∀ w ∈ wsX30, w ∈ wsX3_end := fun w h => List.mem_cons_of_mem _ (List.mem_append_right _ h)
  have hf23 := hts (.fieldLink RX3 23 "SailorCandlesModel" "now" "[I") (List.mem_of_getElem? (i := 3) rfl)
  have hf43 := hts (.fieldLink RX3 43 "SailorCandlesModel" "watchers" "I") (List.mem_of_getElem? (i := 4) rfl)
  have hf13 := hts (.fieldLink RX3 13 "SailorCandlesModel" "shipOf" "[I") (List.mem_of_getElem? (i := 2) rfl)
  have hl : lv_has ls 3 [(0, .ref (M 0)), (1, .int (nI s))] := hl
  refine lv_iconst (v := 0) hx hb dX3_end_0 (by decide) ?_
  refine lv_istore_n (lv' := [(2, .int 0), (0, .ref (M 0)), (1, .int (nI s))]) hx hb dX3_end_1 rfl hl (by decide) rfl (fun ls hl => ?_)
  have L_2 : ∀ (k9 i : Nat) (H : Heap) (locs : List Loc) (ls : Array Slot), i + k9 = (n_np Hb) → Wd E A9 s9.heap (wN E M (th, Hb, l_mend1 Hb s a i, k)) H locs → lv_has ls 3 [(0, .ref (M 0)), (1, .int (nI s)), (2, .int (nI i))] → W p9 l e rm_X3_end s9 m args below meth c H locs 0 0 (EndV E A9 (wN E M (th, Hb, r_end Hb a s, k)) below args s9 (rm_X3_end).cells (rm_X3_end).slots) (F0 m 2 ls []) := by
    intro k9
    induction k9 with
    | zero =>
      intro i H locs ls hi hw hl
      have hz_1 : n_np Hb = i := by omega
      refine lv_iload_n hx hb dX3_end_2 rfl (lv_at hl 2 rfl) ?_
      refine lv_aload_n hx hb dX3_end_3 rfl (lv_at hl 0 rfl) ?_
      refine k_get (ci := 3) (v := .int (nI (n_np Hb))) (C := RX3) (T := TX3) (N := 10) hx hb hown hK hw hts hinX3 0 rfl rfl 3 (by decide) hf40 rfl dX3_end_4 ?_
      refine lv_icmp_ge (tgt := 59) hx hb dX3_end_7 (by decide) (fun _ => ?_) (fun q8 => absurd (by rw [← hz_1]; exact Int32.le_refl _) q8)
      refine lv_aload_n hx hb dX3_end_59 rfl (lv_at hl 0 rfl) ?_
      refine k_get (ci := 3) (v := .ref (M 5)) (C := RX3) (T := TX3) (N := 10) hx hb hown hK hw hts hinX3 0 rfl rfl 8 (by decide) hf23 rfl dX3_end_60 ?_
      refine lv_iload_n hx hb dX3_end_63 rfl (lv_at hl 1 rfl) ?_
      refine lv_iconst (v := 2) hx hb dX3_end_64 (by decide) ?_
      refine kr_i (ws' := wN E M (th, Hb, l_mend1 Hb s a i, k)) (va_runS (As := [.int (nI s), .int 2]) (rest := [.ref (M 5)]) ⟨hx, hb, hml, hown, hts⟩ (c_X3_ship l E s 2  _) (va_cwS 2 hts gX3_end_X3_ship rfl rfl rfl hd_X3_ship ⟨Nat.le_of_ble_eq_true rfl, Nat.le_of_ble_eq_true rfl⟩) (rpS (AV := [.int (nI s), .int 2]) hw hK hG rp_74) rfl rfl hl.1 rfl (lv_room (Nat.le_of_ble_eq_true rfl)) dX3_end_65 ⟨Nat.le_of_ble_eq_true rfl, Nat.le_of_ble_eq_true rfl⟩) hw hA rp_74 (fun H locs hw => ?_)
      refine lv_iconst (v := 0) hx hb dX3_end_68 (by decide) ?_
      refine k_istN (i := 3 + 3 * s + 2) (ws' := wN E M (th, Hb, upd (l_mend1 Hb s a i) (3 + 3 * s + 2) 0, k)) hx hb hK hw 5 rfl (by omega) (by omega) dX3_end_69 rfl (fun H locs hw => ?_)
      refine lv_iconst (v := 0) hx hb dX3_end_70 (by decide) ?_
      refine lv_istore_n (lv' := [(2, .int 0), (0, .ref (M 0)), (1, .int (nI s))]) hx hb dX3_end_71 rfl hl (by decide) rfl (fun ls hl => ?_)
      have L_72 : ∀ (k9 j : Nat) (H : Heap) (locs : List Loc) (ls : Array Slot), j + k9 = (n_nw Hb) → Wd E A9 s9.heap (wN E M (th, Hb, l_mend2 s ((upd (l_mend1 Hb s a i) (3 + 3 * s + 2) 0)) j, k)) H locs → lv_has ls 3 [(0, .ref (M 0)), (1, .int (nI s)), (2, .int (nI j))] → W p9 l e rm_X3_end s9 m args below meth c H locs 0 0 (EndV E A9 (wN E M (th, Hb, r_end Hb a s, k)) below args s9 (rm_X3_end).cells (rm_X3_end).slots) (F0 m 72 ls []) := by
        intro k9
        induction k9 with
        | zero =>
          intro j H locs ls hi hw hl
          have hz_2 : n_nw Hb = j := by omega
          refine lv_iload_n hx hb dX3_end_72 rfl (lv_at hl 2 rfl) ?_
          refine lv_aload_n hx hb dX3_end_73 rfl (lv_at hl 0 rfl) ?_
          refine k_get (ci := 3) (v := .int (nI (n_nw Hb))) (C := RX3) (T := TX3) (N := 10) hx hb hown hK hw hts hinX3 0 rfl rfl 7 (by decide) hf43 rfl dX3_end_74 ?_
          refine lv_icmp_ge (tgt := 97) hx hb dX3_end_77 (by decide) (fun _ => ?_) (fun q8 => absurd (by rw [← hz_2]; exact Int32.le_refl _) q8)
          exact k_vret hx hb hr hlocks hK hw dX3_end_97 (by subst hz_2 hz_1; first | rfl | assumption | (simp only [l_mend1, l_mend2, r_end, if_true, if_false, Bool.false_eq_true, Bool.true_eq_false, reduceIte, reduceCtorEq]; done) | (simp only [l_mend1, l_mend2, r_end, if_true, if_false, Bool.false_eq_true, Bool.true_eq_false, reduceIte, reduceCtorEq]; rfl) | (simp [l_mend1, l_mend2, r_end, if_true, if_false, Bool.false_eq_true, Bool.true_eq_false, reduceIte, reduceCtorEq]; done) | (simp [bI, l_mend1, l_mend2, r_end]; done))
        | succ k9 ih_72 =>
          intro j H locs ls hi hw hl
          have hi9 : j < n_nw Hb := by omega
          refine lv_iload_n hx hb dX3_end_72 rfl (lv_at hl 2 rfl) ?_
          refine lv_aload_n hx hb dX3_end_73 rfl (lv_at hl 0 rfl) ?_
          refine k_get (ci := 3) (v := .int (nI (n_nw Hb))) (C := RX3) (T := TX3) (N := 10) hx hb hown hK hw hts hinX3 0 rfl rfl 7 (by decide) hf43 rfl dX3_end_74 ?_
          refine lv_icmp_ge (tgt := 97) hx hb dX3_end_77 (by decide) (fun q8 => absurd q8 (nI_ge (a := j) (b := n_nw Hb) (by omega) (by omega))) (fun _ => ?_)
          refine lv_aload_n hx hb dX3_end_80 rfl (lv_at hl 0 rfl) ?_
          refine k_get (ci := 3) (v := .ref (M 5)) (C := RX3) (T := TX3) (N := 10) hx hb hown hK hw hts hinX3 0 rfl rfl 8 (by decide) hf23 rfl dX3_end_81 ?_
          refine lv_iload_n hx hb dX3_end_84 rfl (lv_at hl 2 rfl) ?_
          refine lv_iload_n hx hb dX3_end_85 rfl (lv_at hl 1 rfl) ?_
          refine kr_i (ws' := wN E M (th, Hb, l_mend2 s ((upd (l_mend1 Hb s a i) (3 + 3 * s + 2) 0)) j, k)) (va_runS (As := [.int (nI j), .int (nI s)]) (rest := [.ref (M 5)]) ⟨hx, hb, hml, hown, hts⟩ (c_X3_sighting l E j s  _) (va_cwS 2 hts gX3_end_X3_sighting rfl rfl rfl hd_X3_sighting ⟨Nat.le_of_ble_eq_true rfl, Nat.le_of_ble_eq_true rfl⟩) (rpS (AV := [.int (nI j), .int (nI s)]) hw hK hG rp_74) rfl rfl hl.1 rfl (lv_room (Nat.le_of_ble_eq_true rfl)) dX3_end_86 ⟨Nat.le_of_ble_eq_true rfl, Nat.le_of_ble_eq_true rfl⟩) hw hA rp_74 (fun H locs hw => ?_)
          refine lv_iconst (v := (-1)) hx hb dX3_end_89 (by decide) ?_
          refine k_istN (i := 54 + 5 * j + s) (ws' := wN E M (th, Hb, upd (l_mend2 s ((upd (l_mend1 Hb s a i) (3 + 3 * s + 2) 0)) j) (54 + 5 * j + s) (-1), k)) hx hb hK hw 5 rfl (by omega) (by omega) dX3_end_90 rfl (fun H locs hw => ?_)
          refine lv_iinc (v := nI (j + 1)) (lv' := [(2, .int (nI (j + 1))), (0, .ref (M 0)), (1, .int (nI s))]) hx hb dX3_end_91 hl (k := 2) rfl (nI_add j 1) (by decide) rfl (fun ls hl => ?_)
          refine lv_goto (tgt := 72) hx hb dX3_end_94 (by decide) ?_
          exact ih_72 (j + 1) _ _ _ (by omega) (hw.to (by subst hz_1; first | rfl | assumption | (simp only [l_mend1, l_mend2, r_end, if_true, if_false, Bool.false_eq_true, Bool.true_eq_false, reduceIte, reduceCtorEq]; done) | (simp only [l_mend1, l_mend2, r_end, if_true, if_false, Bool.false_eq_true, Bool.true_eq_false, reduceIte, reduceCtorEq]; rfl) | (simp [l_mend1, l_mend2, r_end, if_true, if_false, Bool.false_eq_true, Bool.true_eq_false, reduceIte, reduceCtorEq]; done) | (simp [bI, l_mend1, l_mend2, r_end]; done))) (lv_sub hl [1, 2, 0] rfl)
      exact L_72 ((n_nw Hb) - 0) 0 _ _ _ (by omega) hw (lv_sub hl [1, 2, 0] rfl)
    | succ k9 ih_2 =>
      intro i H locs ls hi hw hl
      have hi9 : i < n_np Hb := by omega
      refine lv_iload_n hx hb dX3_end_2 rfl (lv_at hl 2 rfl) ?_
      refine lv_aload_n hx hb dX3_end_3 rfl (lv_at hl 0 rfl) ?_
      refine k_get (ci := 3) (v := .int (nI (n_np Hb))) (C := RX3) (T := TX3) (N := 10) hx hb hown hK hw hts hinX3 0 rfl rfl 3 (by decide) hf40 rfl dX3_end_4 ?_
      refine lv_icmp_ge (tgt := 59) hx hb dX3_end_7 (by decide) (fun q8 => absurd q8 (nI_ge (a := i) (b := n_np Hb) (by omega) (by omega))) (fun _ => ?_)
      refine lv_aload_n hx hb dX3_end_10 rfl (lv_at hl 0 rfl) ?_
      refine k_get (ci := 3) (v := .ref (M 2)) (C := RX3) (T := TX3) (N := 10) hx hb hown hK hw hts hinX3 0 rfl rfl 4 (by decide) hf13 rfl dX3_end_11 ?_
      refine lv_iload_n hx hb dX3_end_14 rfl (lv_at hl 2 rfl) ?_
      refine k_nldN (i := i) (f := n_so Hb) hx hb hK hw 2 rfl (by omega) (by omega) dX3_end_15 ?_
      refine lv_iload_n hx hb dX3_end_16 rfl (lv_at hl 1 rfl) ?_
      refine lv_icmp_eq (tgt := 23) hx hb dX3_end_17 (by decide) (fun c_3 => ?_) (fun c_3 => ?_)
      · refine lv_aload_n hx hb dX3_end_23 rfl (lv_at hl 0 rfl) ?_
        refine k_get (ci := 3) (v := .ref (M 5)) (C := RX3) (T := TX3) (N := 10) hx hb hown hK hw hts hinX3 0 rfl rfl 8 (by decide) hf23 rfl dX3_end_24 ?_
        refine lv_iconst (v := 1) hx hb dX3_end_27 (by decide) ?_
        refine lv_dup2_11 hx hb dX3_end_28 rfl rfl ?_
        refine k_ildN (i := 1) (f := l_mend1 Hb s a i) hx hb hK hw 5 rfl (by omega) (by omega) dX3_end_29 ?_
        refine lv_aload_n hx hb dX3_end_30 rfl (lv_at hl 0 rfl) ?_
        refine k_get (ci := 3) (v := .ref (M 5)) (C := RX3) (T := TX3) (N := 10) hx hb hown hK hw hts hinX3 0 rfl rfl 8 (by decide) hf23 rfl dX3_end_31 ?_
        refine lv_iload_n hx hb dX3_end_34 rfl (lv_at hl 2 rfl) ?_
        refine lv_iconst (v := 0) hx hb dX3_end_35 (by decide) ?_
        refine kr_i (ws' := wN E M (th, Hb, l_mend1 Hb s a i, k)) (va_runS (As := [.int (nI i), .int 0]) (rest := [.ref (M 5), .int ((l_mend1 Hb s a i) 1), .int 1, .ref (M 5)]) ⟨hx, hb, hml, hown, hts⟩ (c_X3_sailor l E i 0  _) (va_cwS 2 hts gX3_end_X3_sailor rfl rfl rfl hd_X3_sailor ⟨Nat.le_of_ble_eq_true rfl, Nat.le_of_ble_eq_true rfl⟩) (rpS (AV := [.int (nI i), .int 0]) hw hK hG rp_74) rfl rfl hl.1 rfl (lv_room (Nat.le_of_ble_eq_true rfl)) dX3_end_36 ⟨Nat.le_of_ble_eq_true rfl, Nat.le_of_ble_eq_true rfl⟩) hw hA rp_74 (fun H locs hw => ?_)
        refine k_ildN (i := 18 + 2 * i + 0) (f := l_mend1 Hb s a i) hx hb hK hw 5 rfl (by omega) (by omega) dX3_end_39 ?_
        refine lv_iadd hx hb dX3_end_40 ?_
        refine k_istN (i := 1) (ws' := wN E M (th, Hb, upd (l_mend1 Hb s a i) 1 (((l_mend1 Hb s a i) 1) + ((l_mend1 Hb s a i) (18 + 2 * i + 0))), k)) hx hb hK hw 5 rfl (by omega) (by omega) dX3_end_41 rfl (fun H locs hw => ?_)
        refine lv_aload_n hx hb dX3_end_42 rfl (lv_at hl 0 rfl) ?_
        refine k_get (ci := 3) (v := .ref (M 5)) (C := RX3) (T := TX3) (N := 10) hx hb hown hK hw hts hinX3 0 rfl rfl 8 (by decide) hf23 rfl dX3_end_43 ?_
        refine lv_iload_n hx hb dX3_end_46 rfl (lv_at hl 2 rfl) ?_
        refine lv_iconst (v := 0) hx hb dX3_end_47 (by decide) ?_
        refine kr_i (ws' := wN E M (th, Hb, upd (l_mend1 Hb s a i) 1 (((l_mend1 Hb s a i) 1) + ((l_mend1 Hb s a i) (18 + 2 * i + 0))), k)) (va_runS (As := [.int (nI i), .int 0]) (rest := [.ref (M 5)]) ⟨hx, hb, hml, hown, hts⟩ (c_X3_sailor l E i 0  _) (va_cwS 2 hts gX3_end_X3_sailor rfl rfl rfl hd_X3_sailor ⟨Nat.le_of_ble_eq_true rfl, Nat.le_of_ble_eq_true rfl⟩) (rpS (AV := [.int (nI i), .int 0]) hw hK hG rp_74) rfl rfl hl.1 rfl (lv_room (Nat.le_of_ble_eq_true rfl)) dX3_end_48 ⟨Nat.le_of_ble_eq_true rfl, Nat.le_of_ble_eq_true rfl⟩) hw hA rp_74 (fun H locs hw => ?_)
        refine lv_iconst (v := 0) hx hb dX3_end_51 (by decide) ?_
        refine k_istN (i := 18 + 2 * i + 0) (ws' := wN E M (th, Hb, upd (upd (l_mend1 Hb s a i) 1 (((l_mend1 Hb s a i) 1) + ((l_mend1 Hb s a i) (18 + 2 * i + 0)))) (18 + 2 * i + 0) 0, k)) hx hb hK hw 5 rfl (by omega) (by omega) dX3_end_52 rfl (fun H locs hw => ?_)
        refine lv_iinc (v := nI (i + 1)) (lv' := [(2, .int (nI (i + 1))), (0, .ref (M 0)), (1, .int (nI s))]) hx hb dX3_end_53 hl (k := 2) rfl (nI_add i 1) (by decide) rfl (fun ls hl => ?_)
        refine lv_goto (tgt := 2) hx hb dX3_end_56 (by decide) ?_
        exact ih_2 (i + 1) _ _ _ (by omega) (hw.to (by first | assumption | (simp only [l_mend1, l_mend2, r_end, if_pos c_3, if_true, if_false, Bool.false_eq_true, Bool.true_eq_false, reduceIte, reduceCtorEq]; done) | (simp only [l_mend1, l_mend2, r_end, if_pos c_3, if_true, if_false, Bool.false_eq_true, Bool.true_eq_false, reduceIte, reduceCtorEq]; rfl) | rfl | (simp [l_mend1, l_mend2, r_end, if_pos c_3, if_true, if_false, Bool.false_eq_true, Bool.true_eq_false, reduceIte, reduceCtorEq]; done) | (simp [bI, l_mend1, l_mend2, r_end, c_3]; done))) (lv_sub hl [1, 2, 0] rfl)
      · refine lv_goto (tgt := 53) hx hb dX3_end_20 (by decide) ?_
        refine lv_iinc (v := nI (i + 1)) (lv' := [(2, .int (nI (i + 1))), (0, .ref (M 0)), (1, .int (nI s))]) hx hb dX3_end_53 hl (k := 2) rfl (nI_add i 1) (by decide) rfl (fun ls hl => ?_)
        refine lv_goto (tgt := 2) hx hb dX3_end_56 (by decide) ?_
        exact ih_2 (i + 1) _ _ _ (by omega) (hw.to (by first | assumption | (simp only [l_mend1, l_mend2, r_end, if_neg c_3, if_true, if_false, Bool.false_eq_true, Bool.true_eq_false, reduceIte, reduceCtorEq]; done) | (simp only [l_mend1, l_mend2, r_end, if_neg c_3, if_true, if_false, Bool.false_eq_true, Bool.true_eq_false, reduceIte, reduceCtorEq]; rfl) | rfl | (simp [l_mend1, l_mend2, r_end, if_neg c_3, if_true, if_false, Bool.false_eq_true, Bool.true_eq_false, reduceIte, reduceCtorEq]; done) | (simp [bI, l_mend1, l_mend2, r_end, c_3]; done))) (lv_sub hl [1, 2, 0] rfl)
  exact L_2 ((n_np Hb) - 0) 0 _ _ _ (by omega) hw (lv_sub hl [1, 2, 0] rfl)
abbrev rm_X3_getOlder : Room := { frames := 1, cells := 0, slots := 0, locals := 21 }
set_option maxHeartbeats 4000000 in
set_option maxRecDepth 100000 in
theorem c_X3_getOlder (l : Launch) (E : Ev) (M : Nat → Nat) (th : Int32) (Hb : MH) (a k : Fn) (h1 : n_ns Hb ≤ 5) (h2 : n_np Hb ≤ 16) (h3 : n_nw Hb ≤ 4) (h4 : ∀ p, p < n_np Hb → n_so Hb p < 5) : MV l E yX3_getOlder wsX3_getOlder rm_X3_getOlder [.ref (M 0)] (wN E M (th, Hb, a, k)) (wN E M (th, Hb, l_old Hb a (n_nw Hb), k)) := by
  refine k_bV (cc := cX3_getOlder) (maxL := 4) (ret := none) (by decide) rfl (Nat.le_of_ble_eq_true rfl) ?_
  intro p9 e s9 m args below meth c A9 ls hC hl hw
  obtain ⟨hx, hb, hml, hr, hown, hts, hlocks, hK, hG, hA⟩ := hC
  have hf43 := hts (.fieldLink RX3 43 "SailorCandlesModel" "watchers" "I") (List.mem_of_getElem? (i := 1) rfl)
  have hinX3 : ∀ w ∈ wsX30, w ∈ wsX3_getOlder := fun w h => List.mem_cons_of_mem _ (List.mem_append_right _ h)
  have hf33 := hts (.fieldLink RX3 33 "SailorCandlesModel" "ships" "I") (List.mem_of_getElem? (i := 2) rfl)
  have hf23 := hts (.fieldLink RX3 23 "SailorCandlesModel" "now" "[I") (List.mem_of_getElem? (i := 3) rfl)
  have hq4 := hts (.methodLink RX3 69 Lib.Math.max.name) (List.mem_of_getElem? (i := 4) rfl)
  have hq5 := hts (.static Lib.Math.max.name) (List.mem_of_getElem? (i := 5) rfl)
  have hq6 := hts (.initialized "java/lang/Math") (List.mem_of_getElem? (i := 6) rfl)
  have hq7 := hts (.code Lib.Math.max.name Lib.Math.max.code 2 (some .int)) (List.mem_of_getElem? (i := 7) rfl)
  have hl : lv_has ls 4 [(0, .ref (M 0))] := hl
  refine lv_iconst (v := 0) hx hb dX3_getOlder_0 (by decide) ?_
  refine lv_istore_n (lv' := [(1, .int 0), (0, .ref (M 0))]) hx hb dX3_getOlder_1 rfl hl (by decide) rfl (fun ls hl => ?_)
  have L_2 : ∀ (k9 i : Nat) (H : Heap) (locs : List Loc) (ls : Array Slot), i + k9 = (n_nw Hb) → Wd E A9 s9.heap (wN E M (th, Hb, l_old Hb a i, k)) H locs → lv_has ls 4 [(0, .ref (M 0)), (1, .int (nI i))] → W p9 l e rm_X3_getOlder s9 m args below meth c H locs 0 0 (EndV E A9 (wN E M (th, Hb, l_old Hb a (n_nw Hb), k)) below args s9 (rm_X3_getOlder).cells (rm_X3_getOlder).slots) (F0 m 2 ls []) := by
    intro k9
    induction k9 with
    | zero =>
      intro i H locs ls hi hw hl
      have hz_1 : n_nw Hb = i := by omega
      refine lv_iload_n hx hb dX3_getOlder_2 rfl (lv_at hl 1 rfl) ?_
      refine lv_aload_n hx hb dX3_getOlder_3 rfl (lv_at hl 0 rfl) ?_
      refine k_get (ci := 3) (v := .int (nI (n_nw Hb))) (C := RX3) (T := TX3) (N := 10) hx hb hown hK hw hts hinX3 0 rfl rfl 7 (by decide) hf43 rfl dX3_getOlder_4 ?_
      refine lv_icmp_ge (tgt := 105) hx hb dX3_getOlder_7 (by decide) (fun _ => ?_) (fun q8 => absurd (by rw [← hz_1]; exact Int32.le_refl _) q8)
      exact k_vret hx hb hr hlocks hK hw dX3_getOlder_105 (by subst hz_1; first | rfl | assumption | (simp only [l_old, l_old1, if_true, if_false, Bool.false_eq_true, Bool.true_eq_false, reduceIte, reduceCtorEq]; done) | (simp only [l_old, l_old1, if_true, if_false, Bool.false_eq_true, Bool.true_eq_false, reduceIte, reduceCtorEq]; rfl) | (simp [l_old, l_old1, if_true, if_false, Bool.false_eq_true, Bool.true_eq_false, reduceIte, reduceCtorEq]; done) | (simp [bI, l_old, l_old1]; done))
    | succ k9 ih_2 =>
      intro i H locs ls hi hw hl
      have hi9 : i < n_nw Hb := by omega
      refine lv_iload_n hx hb dX3_getOlder_2 rfl (lv_at hl 1 rfl) ?_
      refine lv_aload_n hx hb dX3_getOlder_3 rfl (lv_at hl 0 rfl) ?_
      refine k_get (ci := 3) (v := .int (nI (n_nw Hb))) (C := RX3) (T := TX3) (N := 10) hx hb hown hK hw hts hinX3 0 rfl rfl 7 (by decide) hf43 rfl dX3_getOlder_4 ?_
      refine lv_icmp_ge (tgt := 105) hx hb dX3_getOlder_7 (by decide) (fun q8 => absurd q8 (nI_ge (a := i) (b := n_nw Hb) (by omega) (by omega))) (fun _ => ?_)
      refine lv_iconst (v := 0) hx hb dX3_getOlder_10 (by decide) ?_
      refine lv_istore_n (lv' := [(2, .int 0), (0, .ref (M 0)), (1, .int (nI i))]) hx hb dX3_getOlder_11 rfl hl (by decide) rfl (fun ls hl => ?_)
      have L_12 : ∀ (k9 j : Nat) (H : Heap) (locs : List Loc) (ls : Array Slot), j + k9 = (n_ns Hb) → Wd E A9 s9.heap (wN E M (th, Hb, l_old1 ((l_old Hb a i)) i j, k)) H locs → lv_has ls 4 [(0, .ref (M 0)), (1, .int (nI i)), (2, .int (nI j))] → W p9 l e rm_X3_getOlder s9 m args below meth c H locs 0 0 (EndV E A9 (wN E M (th, Hb, l_old Hb a (n_nw Hb), k)) below args s9 (rm_X3_getOlder).cells (rm_X3_getOlder).slots) (F0 m 12 ls []) := by
        intro k9
        induction k9 with
        | zero =>
          intro j H locs ls hi hw hl
          have hz_2 : n_ns Hb = j := by omega
          refine lv_iload_n hx hb dX3_getOlder_12 rfl (lv_at hl 2 rfl) ?_
          refine lv_aload_n hx hb dX3_getOlder_13 rfl (lv_at hl 0 rfl) ?_
          refine k_get (ci := 3) (v := .int (nI (n_ns Hb))) (C := RX3) (T := TX3) (N := 10) hx hb hown hK hw hts hinX3 0 rfl rfl 1 (by decide) hf33 rfl dX3_getOlder_14 ?_
          refine lv_icmp_ge (tgt := 99) hx hb dX3_getOlder_17 (by decide) (fun _ => ?_) (fun q8 => absurd (by rw [← hz_2]; exact Int32.le_refl _) q8)
          refine lv_iinc (v := nI (i + 1)) (lv' := [(1, .int (nI (i + 1))), (0, .ref (M 0)), (2, .int (nI j))]) hx hb dX3_getOlder_99 hl (k := 1) rfl (nI_add i 1) (by decide) rfl (fun ls hl => ?_)
          refine lv_goto (tgt := 2) hx hb dX3_getOlder_102 (by decide) ?_
          exact ih_2 (i + 1) _ _ _ (by omega) (hw.to (by subst hz_2; first | rfl | assumption | (simp only [l_old, l_old1, if_true, if_false, Bool.false_eq_true, Bool.true_eq_false, reduceIte, reduceCtorEq]; done) | (simp only [l_old, l_old1, if_true, if_false, Bool.false_eq_true, Bool.true_eq_false, reduceIte, reduceCtorEq]; rfl) | (simp [l_old, l_old1, if_true, if_false, Bool.false_eq_true, Bool.true_eq_false, reduceIte, reduceCtorEq]; done) | (simp [bI, l_old, l_old1]; done))) (lv_sub hl [1, 0] rfl)
        | succ k9 ih_12 =>
          intro j H locs ls hi hw hl
          have hi9 : j < n_ns Hb := by omega
          refine lv_iload_n hx hb dX3_getOlder_12 rfl (lv_at hl 2 rfl) ?_
          refine lv_aload_n hx hb dX3_getOlder_13 rfl (lv_at hl 0 rfl) ?_
          refine k_get (ci := 3) (v := .int (nI (n_ns Hb))) (C := RX3) (T := TX3) (N := 10) hx hb hown hK hw hts hinX3 0 rfl rfl 1 (by decide) hf33 rfl dX3_getOlder_14 ?_
          refine lv_icmp_ge (tgt := 99) hx hb dX3_getOlder_17 (by decide) (fun q8 => absurd q8 (nI_ge (a := j) (b := n_ns Hb) (by omega) (by omega))) (fun _ => ?_)
          refine lv_iload_n hx hb dX3_getOlder_20 rfl (lv_at hl 1 rfl) ?_
          refine lv_iload_n hx hb dX3_getOlder_21 rfl (lv_at hl 2 rfl) ?_
          refine kr_i (ws' := wN E M (th, Hb, l_old1 ((l_old Hb a i)) i j, k)) (va_runS (As := [.int (nI i), .int (nI j)]) (rest := []) ⟨hx, hb, hml, hown, hts⟩ (c_X3_sighting l E i j  _) (va_cwS 2 hts gX3_getOlder_X3_sighting rfl rfl rfl hd_X3_sighting ⟨Nat.le_of_ble_eq_true rfl, Nat.le_of_ble_eq_true rfl⟩) (rpS (AV := [.int (nI i), .int (nI j)]) hw hK hG rp_74) rfl rfl hl.1 rfl (lv_room (Nat.le_of_ble_eq_true rfl)) dX3_getOlder_22 ⟨Nat.le_of_ble_eq_true rfl, Nat.le_of_ble_eq_true rfl⟩) hw hA rp_74 (fun H locs hw => ?_)
          refine lv_istore_n (lv' := [(3, .int (nI (54 + 5 * i + j))), (0, .ref (M 0)), (1, .int (nI i)), (2, .int (nI j))]) hx hb dX3_getOlder_25 rfl hl (by decide) rfl (fun ls hl => ?_)
          refine lv_aload_n hx hb dX3_getOlder_26 rfl (lv_at hl 1 rfl) ?_
          refine k_get (ci := 3) (v := .ref (M 5)) (C := RX3) (T := TX3) (N := 10) hx hb hown hK hw hts hinX3 0 rfl rfl 8 (by decide) hf23 rfl dX3_getOlder_27 ?_
          refine lv_iload_n hx hb dX3_getOlder_30 rfl (lv_at hl 0 rfl) ?_
          refine k_ildN (i := 54 + 5 * i + j) (f := l_old1 ((l_old Hb a i)) i j) hx hb hK hw 5 rfl (by omega) (by omega) dX3_getOlder_31 ?_
          refine lv_iconst (v := (-1)) hx hb dX3_getOlder_32 (by decide) ?_
          refine lv_icmp_ne (tgt := 39) hx hb dX3_getOlder_33 (by decide) (fun c_3 => ?_) (fun c_3 => ?_)
          · refine lv_aload_n hx hb dX3_getOlder_39 rfl (lv_at hl 1 rfl) ?_
            refine k_get (ci := 3) (v := .ref (M 5)) (C := RX3) (T := TX3) (N := 10) hx hb hown hK hw hts hinX3 0 rfl rfl 8 (by decide) hf23 rfl dX3_getOlder_40 ?_
            refine lv_iload_n hx hb dX3_getOlder_43 rfl (lv_at hl 0 rfl) ?_
            refine lv_dup2_11 hx hb dX3_getOlder_44 rfl rfl ?_
            refine k_ildN (i := 54 + 5 * i + j) (f := l_old1 ((l_old Hb a i)) i j) hx hb hK hw 5 rfl (by omega) (by omega) dX3_getOlder_45 ?_
            refine lv_iconst (v := 1) hx hb dX3_getOlder_46 (by decide) ?_
            refine lv_iadd hx hb dX3_getOlder_47 ?_
            refine k_istN (i := 54 + 5 * i + j) (ws' := wN E M (th, Hb, upd (l_old1 ((l_old Hb a i)) i j) (54 + 5 * i + j) (((l_old1 ((l_old Hb a i)) i j) (54 + 5 * i + j)) + 1), k)) hx hb hK hw 5 rfl (by omega) (by omega) dX3_getOlder_48 rfl (fun H locs hw => ?_)
            refine lv_aload_n hx hb dX3_getOlder_49 rfl (lv_at hl 1 rfl) ?_
            refine k_get (ci := 3) (v := .ref (M 5)) (C := RX3) (T := TX3) (N := 10) hx hb hown hK hw hts hinX3 0 rfl rfl 8 (by decide) hf23 rfl dX3_getOlder_50 ?_
            refine lv_iload_n hx hb dX3_getOlder_53 rfl (lv_at hl 0 rfl) ?_
            refine k_ildN (i := 54 + 5 * i + j) (f := upd (l_old1 ((l_old Hb a i)) i j) (54 + 5 * i + j) (((l_old1 ((l_old Hb a i)) i j) (54 + 5 * i + j)) + 1)) hx hb hK hw 5 rfl (by omega) (by omega) dX3_getOlder_54 ?_
            refine lv_iconst (v := 3) hx hb dX3_getOlder_55 (by decide) ?_
            refine lv_icmp_ge (tgt := 62) hx hb dX3_getOlder_56 (by decide) (fun c_4 => ?_) (fun c_4 => ?_)
            · refine lv_aload_n hx hb dX3_getOlder_62 rfl (lv_at hl 1 rfl) ?_
              refine k_get (ci := 3) (v := .ref (M 5)) (C := RX3) (T := TX3) (N := 10) hx hb hown hK hw hts hinX3 0 rfl rfl 8 (by decide) hf23 rfl dX3_getOlder_63 ?_
              refine lv_iload_n hx hb dX3_getOlder_66 rfl (lv_at hl 0 rfl) ?_
              refine lv_iconst (v := (-1)) hx hb dX3_getOlder_67 (by decide) ?_
              refine k_istN (i := 54 + 5 * i + j) (ws' := wN E M (th, Hb, upd (upd (l_old1 ((l_old Hb a i)) i j) (54 + 5 * i + j) (((l_old1 ((l_old Hb a i)) i j) (54 + 5 * i + j)) + 1)) (54 + 5 * i + j) (-1), k)) hx hb hK hw 5 rfl (by omega) (by omega) dX3_getOlder_68 rfl (fun H locs hw => ?_)
              refine lv_aload_n hx hb dX3_getOlder_69 rfl (lv_at hl 1 rfl) ?_
              refine k_get (ci := 3) (v := .ref (M 5)) (C := RX3) (T := TX3) (N := 10) hx hb hown hK hw hts hinX3 0 rfl rfl 8 (by decide) hf23 rfl dX3_getOlder_70 ?_
              refine lv_bipush (v := 50) hx hb dX3_getOlder_73 (by decide) ?_
              refine lv_iload_n hx hb dX3_getOlder_75 rfl (lv_at hl 2 rfl) ?_
              refine k_iaddN (a := 50) (b := i) hx hb dX3_getOlder_76 ?_
              refine lv_iconst (v := 0) hx hb dX3_getOlder_77 (by decide) ?_
              refine lv_aload_n hx hb dX3_getOlder_78 rfl (lv_at hl 1 rfl) ?_
              refine k_get (ci := 3) (v := .ref (M 5)) (C := RX3) (T := TX3) (N := 10) hx hb hown hK hw hts hinX3 0 rfl rfl 8 (by decide) hf23 rfl dX3_getOlder_79 ?_
              refine lv_bipush (v := 50) hx hb dX3_getOlder_82 (by decide) ?_
              refine lv_iload_n hx hb dX3_getOlder_84 rfl (lv_at hl 2 rfl) ?_
              refine k_iaddN (a := 50) (b := i) hx hb dX3_getOlder_85 ?_
              refine k_ildN (i := 50 + i) (f := upd (upd (l_old1 ((l_old Hb a i)) i j) (54 + 5 * i + j) (((l_old1 ((l_old Hb a i)) i j) (54 + 5 * i + j)) + 1)) (54 + 5 * i + j) (-1)) hx hb hK hw 5 rfl (by omega) (by omega) dX3_getOlder_86 ?_
              refine lv_iconst (v := 2) hx hb dX3_getOlder_87 (by decide) ?_
              refine lv_isub hx hb dX3_getOlder_88 ?_
              refine va_mmax hx hb (by rw [hml]; exact hl.1.symm) hown hq4 hq5 hq6 hq7 (Nat.le_of_ble_eq_true rfl) (Nat.le_of_ble_eq_true rfl) (Nat.le_of_ble_eq_true rfl) (Nat.le_of_ble_eq_true rfl) dX3_getOlder_89 ?_
              refine k_istN (i := 50 + i) (ws' := wN E M (th, Hb, upd (upd (upd (l_old1 ((l_old Hb a i)) i j) (54 + 5 * i + j) (((l_old1 ((l_old Hb a i)) i j) (54 + 5 * i + j)) + 1)) (54 + 5 * i + j) (-1)) (50 + i) (if 0 < (((upd (upd (l_old1 ((l_old Hb a i)) i j) (54 + 5 * i + j) (((l_old1 ((l_old Hb a i)) i j) (54 + 5 * i + j)) + 1)) (54 + 5 * i + j) (-1)) (50 + i)) - 2) then ((upd (upd (l_old1 ((l_old Hb a i)) i j) (54 + 5 * i + j) (((l_old1 ((l_old Hb a i)) i j) (54 + 5 * i + j)) + 1)) (54 + 5 * i + j) (-1)) (50 + i)) - 2 else 0), k)) hx hb hK hw 5 rfl (by omega) (by omega) dX3_getOlder_92 rfl (fun H locs hw => ?_)
              refine lv_iinc (v := nI (j + 1)) (lv' := [(2, .int (nI (j + 1))), (3, .int (nI (54 + 5 * i + j))), (0, .ref (M 0)), (1, .int (nI i))]) hx hb dX3_getOlder_93 hl (k := 3) rfl (nI_add j 1) (by decide) rfl (fun ls hl => ?_)
              refine lv_goto (tgt := 12) hx hb dX3_getOlder_96 (by decide) ?_
              exact ih_12 (j + 1) _ _ _ (by omega) (hw.to (by first | assumption | (simp only [l_old, l_old1, if_neg c_3, if_pos c_4, if_true, if_false, Bool.false_eq_true, Bool.true_eq_false, reduceIte, reduceCtorEq]; done) | (simp only [l_old, l_old1, if_neg c_3, if_pos c_4, if_true, if_false, Bool.false_eq_true, Bool.true_eq_false, reduceIte, reduceCtorEq]; rfl) | rfl | (simp [l_old, l_old1, if_neg c_3, if_pos c_4, if_true, if_false, Bool.false_eq_true, Bool.true_eq_false, reduceIte, reduceCtorEq]; done) | (simp [bI, l_old, l_old1, c_3, c_4]; done))) (lv_sub hl [2, 3, 0] rfl)
            · refine lv_goto (tgt := 93) hx hb dX3_getOlder_59 (by decide) ?_
              refine lv_iinc (v := nI (j + 1)) (lv' := [(2, .int (nI (j + 1))), (3, .int (nI (54 + 5 * i + j))), (0, .ref (M 0)), (1, .int (nI i))]) hx hb dX3_getOlder_93 hl (k := 3) rfl (nI_add j 1) (by decide) rfl (fun ls hl => ?_)
              refine lv_goto (tgt := 12) hx hb dX3_getOlder_96 (by decide) ?_
              exact ih_12 (j + 1) _ _ _ (by omega) (hw.to (by first | assumption | (simp only [l_old, l_old1, if_neg c_3, if_neg c_4, if_true, if_false, Bool.false_eq_true, Bool.true_eq_false, reduceIte, reduceCtorEq]; done) | (simp only [l_old, l_old1, if_neg c_3, if_neg c_4, if_true, if_false, Bool.false_eq_true, Bool.true_eq_false, reduceIte, reduceCtorEq]; rfl) | rfl | (simp [l_old, l_old1, if_neg c_3, if_neg c_4, if_true, if_false, Bool.false_eq_true, Bool.true_eq_false, reduceIte, reduceCtorEq]; done) | (simp [bI, l_old, l_old1, c_3, c_4]; done))) (lv_sub hl [2, 3, 0] rfl)
          · refine lv_goto (tgt := 93) hx hb dX3_getOlder_36 (by decide) ?_
            refine lv_iinc (v := nI (j + 1)) (lv' := [(2, .int (nI (j + 1))), (3, .int (nI (54 + 5 * i + j))), (0, .ref (M 0)), (1, .int (nI i))]) hx hb dX3_getOlder_93 hl (k := 3) rfl (nI_add j 1) (by decide) rfl (fun ls hl => ?_)
            refine lv_goto (tgt := 12) hx hb dX3_getOlder_96 (by decide) ?_
            exact ih_12 (j + 1) _ _ _ (by omega) (hw.to (by first | assumption | (simp only [l_old, l_old1, if_pos c_3, if_true, if_false, Bool.false_eq_true, Bool.true_eq_false, reduceIte, reduceCtorEq]; done) | (simp only [l_old, l_old1, if_pos c_3, if_true, if_false, Bool.false_eq_true, Bool.true_eq_false, reduceIte, reduceCtorEq]; rfl) | rfl | (simp [l_old, l_old1, if_pos c_3, if_true, if_false, Bool.false_eq_true, Bool.true_eq_false, reduceIte, reduceCtorEq]; done) | (simp [bI, l_old, l_old1, c_3]; done))) (lv_sub hl [2, 3, 0] rfl)
      exact L_12 ((n_ns Hb) - 0) 0 _ _ _ (by omega) hw (lv_sub hl [1, 2, 0] rfl)
  exact L_2 ((n_nw Hb) - 0) 0 _ _ _ (by omega) hw (lv_sub hl [1, 0] rfl)
abbrev rm_X3_burn : Room := { frames := 2, cells := 0, slots := 0, locals := 42 }
set_option maxHeartbeats 4000000 in
set_option maxRecDepth 100000 in
theorem c_X3_burn (l : Launch) (E : Ev) (M : Nat → Nat) (th : Int32) (Hb : MH) (a k : Fn) (p : Nat) (h1 : n_ns Hb ≤ 5) (h2 : n_np Hb ≤ 16) (h3 : n_nw Hb ≤ 4) (h4 : ∀ p, p < n_np Hb → n_so Hb p < 5) (hp : p < n_np Hb) : MI l E yX3_burn wsX3_burn rm_X3_burn [.ref (M 0), .int (nI p)] (wN E M (th, Hb, a, k)) (r_burnN Hb a p) (wN E M (th, Hb, r_burn Hb a p, k)) := by
  refine k_bI (cc := cX3_burn) (maxL := 3) (ret := (some .int)) (by decide) rfl (Nat.le_of_ble_eq_true rfl) ?_
  intro p9 e s9 m args below meth c A9 ls hC hl hw
  obtain ⟨hx, hb, hml, hr, hown, hts, hlocks, hK, hG, hA⟩ := hC
  have hf13 := hts (.fieldLink RX3 13 "SailorCandlesModel" "shipOf" "[I") (List.mem_of_getElem? (i := 1) rfl)
  have hinX3 : ∀ w ∈ wsX30, w ∈ wsX3_burn := fun w h => List.mem_cons_of_mem _ (List.mem_append_right _ h)
  have hf23 := hts (.fieldLink RX3 23 "SailorCandlesModel" "now" "[I") (List.mem_of_getElem? (i := 2) rfl)
  have hf16 := hts (.fieldLink RX3 16 "SailorCandlesModel" "mastOf" "[I") (List.mem_of_getElem? (i := 3) rfl)
  have hq4 := hts (.methodLink RX3 69 Lib.Math.max.name) (List.mem_of_getElem? (i := 4) rfl)
  have hq5 := hts (.static Lib.Math.max.name) (List.mem_of_getElem? (i := 5) rfl)
  have hq6 := hts (.initialized "java/lang/Math") (List.mem_of_getElem? (i := 6) rfl)
  have hq7 := hts (.code Lib.Math.max.name Lib.Math.max.code 2 (some .int)) (List.mem_of_getElem? (i := 7) rfl)
  have hl : lv_has ls 3 [(0, .ref (M 0)), (1, .int (nI p))] := hl
  refine lv_aload_n hx hb dX3_burn_0 rfl (lv_at hl 0 rfl) ?_
  refine lv_aload_n hx hb dX3_burn_1 rfl (lv_at hl 0 rfl) ?_
  refine k_get (ci := 3) (v := .ref (M 2)) (C := RX3) (T := TX3) (N := 10) hx hb hown hK hw hts hinX3 0 rfl rfl 4 (by decide) hf13 rfl dX3_burn_2 ?_
  refine lv_iload_n hx hb dX3_burn_5 rfl (lv_at hl 1 rfl) ?_
  refine k_nldN (i := p) (f := n_so Hb) hx hb hK hw 2 rfl (by omega) (by omega) dX3_burn_6 ?_
  refine kr_i (ws' := wN E M (th, Hb, a, k)) (va_runV (As := [.int (nI (n_so Hb p))]) (rest := []) ⟨hx, hb, hml, hown, hts⟩ (c_X3_isOut l E M th Hb a k (n_so Hb p) (by omega) (by omega) (by omega) (h4) (by have := h4 p (by omega); omega) _) (cwV 1 hts gX3_burn_X3_isOut rfl rfl rfl ⟨rfl, hd_X3_isOut⟩ ⟨Nat.le_of_ble_eq_true rfl, Nat.le_of_ble_eq_true rfl⟩) (pwV (ci := 3) (q0 := 0) (C := RX3) hw hK rfl rfl rfl (rpS (AV := [.ref (M 0), .int (nI (n_so Hb p))]) hw hK hG rp_75)) rfl rfl hl.1 rfl (lv_room (Nat.le_of_ble_eq_true rfl)) dX3_burn_7 ⟨Nat.le_of_ble_eq_true rfl, Nat.le_of_ble_eq_true rfl⟩) hw hA rp_75 (fun H locs hw => ?_)
  refine lv_if_eq (tgt := 32) hx hb dX3_burn_10 (by decide) (fun c_1 => ?_) (fun c_1 => ?_)
  · have c_1 := bI_z c_1
    refine lv_iconst (v := 0) hx hb dX3_burn_32 (by decide) ?_
    exact k_iret hx hb hr hlocks hK hw rfl dX3_burn_33 (by first | assumption | (simp only [r_burn, r_burnN, c_1, if_true, if_false, Bool.false_eq_true, Bool.true_eq_false, reduceIte, reduceCtorEq]; done) | (simp only [r_burn, r_burnN, c_1, if_true, if_false, Bool.false_eq_true, Bool.true_eq_false, reduceIte, reduceCtorEq]; rfl) | rfl | (simp [r_burn, r_burnN, c_1, if_true, if_false, Bool.false_eq_true, Bool.true_eq_false, reduceIte, reduceCtorEq]; done) | (simp [bI, r_burn, r_burnN, c_1]; done)) (by first | assumption | (simp only [r_burn, r_burnN, c_1, if_true, if_false, Bool.false_eq_true, Bool.true_eq_false, reduceIte, reduceCtorEq]; done) | (simp only [r_burn, r_burnN, c_1, if_true, if_false, Bool.false_eq_true, Bool.true_eq_false, reduceIte, reduceCtorEq]; rfl) | rfl | (simp [r_burn, r_burnN, c_1, if_true, if_false, Bool.false_eq_true, Bool.true_eq_false, reduceIte, reduceCtorEq]; done) | (simp [bI, r_burn, r_burnN, c_1]; done))
  · have c_1 := bI_nz c_1
    refine lv_aload_n hx hb dX3_burn_13 rfl (lv_at hl 0 rfl) ?_
    refine k_get (ci := 3) (v := .ref (M 5)) (C := RX3) (T := TX3) (N := 10) hx hb hown hK hw hts hinX3 0 rfl rfl 8 (by decide) hf23 rfl dX3_burn_14 ?_
    refine lv_aload_n hx hb dX3_burn_17 rfl (lv_at hl 0 rfl) ?_
    refine k_get (ci := 3) (v := .ref (M 2)) (C := RX3) (T := TX3) (N := 10) hx hb hown hK hw hts hinX3 0 rfl rfl 4 (by decide) hf13 rfl dX3_burn_18 ?_
    refine lv_iload_n hx hb dX3_burn_21 rfl (lv_at hl 1 rfl) ?_
    refine k_nldN (i := p) (f := n_so Hb) hx hb hK hw 2 rfl (by omega) (by omega) dX3_burn_22 ?_
    refine lv_iconst (v := 2) hx hb dX3_burn_23 (by decide) ?_
    refine kr_i (ws' := wN E M (th, Hb, a, k)) (va_runS (As := [.int (nI (n_so Hb p)), .int 2]) (rest := [.ref (M 5)]) ⟨hx, hb, hml, hown, hts⟩ (c_X3_ship l E (n_so Hb p) 2  _) (va_cwS 2 hts gX3_burn_X3_ship rfl rfl rfl hd_X3_ship ⟨Nat.le_of_ble_eq_true rfl, Nat.le_of_ble_eq_true rfl⟩) (rpS (AV := [.int (nI (n_so Hb p)), .int 2]) hw hK hG rp_74) rfl rfl hl.1 rfl (lv_room (Nat.le_of_ble_eq_true rfl)) dX3_burn_24 ⟨Nat.le_of_ble_eq_true rfl, Nat.le_of_ble_eq_true rfl⟩) hw hA rp_74 (fun H locs hw => ?_)
    refine k_ildN (i := 3 + 3 * (n_so Hb p) + 2) (f := a) hx hb hK hw 5 rfl (by have := h4 p (by omega); omega) (by omega) dX3_burn_27 ?_
    refine lv_iconst (v := 1) hx hb dX3_burn_28 (by decide) ?_
    refine lv_icmp_ne (tgt := 34) hx hb dX3_burn_29 (by decide) (fun c_2 => ?_) (fun c_2 => ?_)
    · refine lv_iload_n hx hb dX3_burn_34 rfl (lv_at hl 1 rfl) ?_
      refine lv_iconst (v := 0) hx hb dX3_burn_35 (by decide) ?_
      refine kr_i (ws' := wN E M (th, Hb, a, k)) (va_runS (As := [.int (nI p), .int 0]) (rest := []) ⟨hx, hb, hml, hown, hts⟩ (c_X3_sailor l E p 0  _) (va_cwS 2 hts gX3_burn_X3_sailor rfl rfl rfl hd_X3_sailor ⟨Nat.le_of_ble_eq_true rfl, Nat.le_of_ble_eq_true rfl⟩) (rpS (AV := [.int (nI p), .int 0]) hw hK hG rp_74) rfl rfl hl.1 rfl (lv_room (Nat.le_of_ble_eq_true rfl)) dX3_burn_36 ⟨Nat.le_of_ble_eq_true rfl, Nat.le_of_ble_eq_true rfl⟩) hw hA rp_74 (fun H locs hw => ?_)
      refine lv_istore_n (lv' := [(2, .int (nI (18 + 2 * p + 0))), (0, .ref (M 0)), (1, .int (nI p))]) hx hb dX3_burn_39 rfl hl (by decide) rfl (fun ls hl => ?_)
      refine lv_aload_n hx hb dX3_burn_40 rfl (lv_at hl 1 rfl) ?_
      refine k_get (ci := 3) (v := .ref (M 5)) (C := RX3) (T := TX3) (N := 10) hx hb hown hK hw hts hinX3 0 rfl rfl 8 (by decide) hf23 rfl dX3_burn_41 ?_
      refine lv_iload_n hx hb dX3_burn_44 rfl (lv_at hl 0 rfl) ?_
      refine lv_iconst (v := 0) hx hb dX3_burn_45 (by decide) ?_
      refine lv_aload_n hx hb dX3_burn_46 rfl (lv_at hl 1 rfl) ?_
      refine k_get (ci := 3) (v := .ref (M 5)) (C := RX3) (T := TX3) (N := 10) hx hb hown hK hw hts hinX3 0 rfl rfl 8 (by decide) hf23 rfl dX3_burn_47 ?_
      refine lv_iload_n hx hb dX3_burn_50 rfl (lv_at hl 0 rfl) ?_
      refine k_ildN (i := 18 + 2 * p + 0) (f := a) hx hb hK hw 5 rfl (by omega) (by omega) dX3_burn_51 ?_
      refine lv_iconst (v := 1) hx hb dX3_burn_52 (by decide) ?_
      refine lv_isub hx hb dX3_burn_53 ?_
      refine lv_aload_n hx hb dX3_burn_54 rfl (lv_at hl 1 rfl) ?_
      refine k_get (ci := 3) (v := .ref (M 3)) (C := RX3) (T := TX3) (N := 10) hx hb hown hK hw hts hinX3 0 rfl rfl 5 (by decide) hf16 rfl dX3_burn_55 ?_
      refine lv_iload_n hx hb dX3_burn_58 rfl (lv_at hl 2 rfl) ?_
      refine k_ildN (i := p) (f := n_mo Hb) hx hb hK hw 3 rfl (by omega) (by omega) dX3_burn_59 ?_
      refine lv_isub hx hb dX3_burn_60 ?_
      refine va_mmax hx hb (by rw [hml]; exact hl.1.symm) hown hq4 hq5 hq6 hq7 (Nat.le_of_ble_eq_true rfl) (Nat.le_of_ble_eq_true rfl) (Nat.le_of_ble_eq_true rfl) (Nat.le_of_ble_eq_true rfl) dX3_burn_61 ?_
      refine k_istN (i := 18 + 2 * p + 0) (ws' := wN E M (th, Hb, upd a (18 + 2 * p + 0) (if 0 < (((a (18 + 2 * p + 0)) - 1) - (n_mo Hb p)) then ((a (18 + 2 * p + 0)) - 1) - (n_mo Hb p) else 0), k)) hx hb hK hw 5 rfl (by omega) (by omega) dX3_burn_64 rfl (fun H locs hw => ?_)
      refine lv_aload_n hx hb dX3_burn_65 rfl (lv_at hl 1 rfl) ?_
      refine k_get (ci := 3) (v := .ref (M 5)) (C := RX3) (T := TX3) (N := 10) hx hb hown hK hw hts hinX3 0 rfl rfl 8 (by decide) hf23 rfl dX3_burn_66 ?_
      refine lv_iload_n hx hb dX3_burn_69 rfl (lv_at hl 0 rfl) ?_
      refine k_ildN (i := 18 + 2 * p + 0) (f := upd a (18 + 2 * p + 0) (if 0 < (((a (18 + 2 * p + 0)) - 1) - (n_mo Hb p)) then ((a (18 + 2 * p + 0)) - 1) - (n_mo Hb p) else 0)) hx hb hK hw 5 rfl (by omega) (by omega) dX3_burn_70 ?_
      refine lv_if_ne (tgt := 82) hx hb dX3_burn_71 (by decide) (fun c_3 => ?_) (fun c_3 => ?_)
      · refine lv_iconst (v := 0) hx hb dX3_burn_82 (by decide) ?_
        exact k_iret hx hb hr hlocks hK hw rfl dX3_burn_83 (by first | assumption | (simp only [r_burn, r_burnN, c_1, if_neg c_2, if_neg c_3, if_true, if_false, Bool.false_eq_true, Bool.true_eq_false, reduceIte, reduceCtorEq]; done) | (simp only [r_burn, r_burnN, c_1, if_neg c_2, if_neg c_3, if_true, if_false, Bool.false_eq_true, Bool.true_eq_false, reduceIte, reduceCtorEq]; rfl) | rfl | (simp [r_burn, r_burnN, c_1, if_neg c_2, if_neg c_3, if_true, if_false, Bool.false_eq_true, Bool.true_eq_false, reduceIte, reduceCtorEq]; done) | (simp [bI, r_burn, r_burnN, c_1, c_2, c_3]; done)) (by first | assumption | (simp only [r_burn, r_burnN, c_1, if_neg c_2, if_neg c_3, if_true, if_false, Bool.false_eq_true, Bool.true_eq_false, reduceIte, reduceCtorEq]; done) | (simp only [r_burn, r_burnN, c_1, if_neg c_2, if_neg c_3, if_true, if_false, Bool.false_eq_true, Bool.true_eq_false, reduceIte, reduceCtorEq]; rfl) | rfl | (simp [r_burn, r_burnN, c_1, if_neg c_2, if_neg c_3, if_true, if_false, Bool.false_eq_true, Bool.true_eq_false, reduceIte, reduceCtorEq]; done) | (simp [bI, r_burn, r_burnN, c_1, c_2, c_3]; done))
      · refine lv_aload_n hx hb dX3_burn_74 rfl (lv_at hl 1 rfl) ?_
        refine lv_iload_n hx hb dX3_burn_75 rfl (lv_at hl 2 rfl) ?_
        refine kr_i (ws' := wN E M (th, Hb, r_lit (upd a (18 + 2 * p + 0) (if 0 < (((a (18 + 2 * p + 0)) - 1) - (n_mo Hb p)) then ((a (18 + 2 * p + 0)) - 1) - (n_mo Hb p) else 0)) p, k)) (va_runV (As := [.int (nI p)]) (rest := []) ⟨hx, hb, hml, hown, hts⟩ (c_X3_lights l E M th Hb (upd a (18 + 2 * p + 0) (if 0 < (((a (18 + 2 * p + 0)) - 1) - (n_mo Hb p)) then ((a (18 + 2 * p + 0)) - 1) - (n_mo Hb p) else 0)) k p (by omega) (by omega) (by omega) (h4) (by omega) _) (cwV 1 hts gX3_burn_X3_lights rfl rfl rfl ⟨rfl, hd_X3_lights⟩ ⟨Nat.le_of_ble_eq_true rfl, Nat.le_of_ble_eq_true rfl⟩) (pwV (ci := 3) (q0 := 0) (C := RX3) hw hK rfl rfl rfl (rpS (AV := [.ref (M 0), .int (nI p)]) hw hK hG rp_75)) rfl rfl hl.1 rfl (lv_room (Nat.le_of_ble_eq_true rfl)) dX3_burn_76 ⟨Nat.le_of_ble_eq_true rfl, Nat.le_of_ble_eq_true rfl⟩) hw hA rp_76 (fun H locs hw => ?_)
        refine lv_goto (tgt := 83) hx hb dX3_burn_79 (by decide) ?_
        exact k_iret hx hb hr hlocks hK hw rfl dX3_burn_83 (by first | assumption | (simp only [r_burn, r_burnN, c_1, if_neg c_2, if_pos c_3, if_true, if_false, Bool.false_eq_true, Bool.true_eq_false, reduceIte, reduceCtorEq]; done) | (simp only [r_burn, r_burnN, c_1, if_neg c_2, if_pos c_3, if_true, if_false, Bool.false_eq_true, Bool.true_eq_false, reduceIte, reduceCtorEq]; rfl) | rfl | (simp [r_burn, r_burnN, c_1, if_neg c_2, if_pos c_3, if_true, if_false, Bool.false_eq_true, Bool.true_eq_false, reduceIte, reduceCtorEq]; done) | (simp [bI, r_burn, r_burnN, c_1, c_2, c_3]; done)) (by first | assumption | (simp only [r_burn, r_burnN, c_1, if_neg c_2, if_pos c_3, if_true, if_false, Bool.false_eq_true, Bool.true_eq_false, reduceIte, reduceCtorEq]; done) | (simp only [r_burn, r_burnN, c_1, if_neg c_2, if_pos c_3, if_true, if_false, Bool.false_eq_true, Bool.true_eq_false, reduceIte, reduceCtorEq]; rfl) | rfl | (simp [r_burn, r_burnN, c_1, if_neg c_2, if_pos c_3, if_true, if_false, Bool.false_eq_true, Bool.true_eq_false, reduceIte, reduceCtorEq]; done) | (simp [bI, r_burn, r_burnN, c_1, c_2, c_3]; done))
    · refine lv_iconst (v := 0) hx hb dX3_burn_32 (by decide) ?_
      exact k_iret hx hb hr hlocks hK hw rfl dX3_burn_33 (by first | assumption | (simp only [r_burn, r_burnN, c_1, if_pos c_2, if_true, if_false, Bool.false_eq_true, Bool.true_eq_false, reduceIte, reduceCtorEq]; done) | (simp only [r_burn, r_burnN, c_1, if_pos c_2, if_true, if_false, Bool.false_eq_true, Bool.true_eq_false, reduceIte, reduceCtorEq]; rfl) | rfl | (simp [r_burn, r_burnN, c_1, if_pos c_2, if_true, if_false, Bool.false_eq_true, Bool.true_eq_false, reduceIte, reduceCtorEq]; done) | (simp [bI, r_burn, r_burnN, c_1, c_2]; done)) (by first | assumption | (simp only [r_burn, r_burnN, c_1, if_pos c_2, if_true, if_false, Bool.false_eq_true, Bool.true_eq_false, reduceIte, reduceCtorEq]; done) | (simp only [r_burn, r_burnN, c_1, if_pos c_2, if_true, if_false, Bool.false_eq_true, Bool.true_eq_false, reduceIte, reduceCtorEq]; rfl) | rfl | (simp [r_burn, r_burnN, c_1, if_pos c_2, if_true, if_false, Bool.false_eq_true, Bool.true_eq_false, reduceIte, reduceCtorEq]; done) | (simp [bI, r_burn, r_burnN, c_1, c_2]; done))
abbrev rm_X3_nightOn : Room := { frames := 3, cells := 0, slots := 0, locals := 64 }
set_option maxHeartbeats 4000000 in
set_option maxRecDepth 100000 in
theorem c_X3_nightOn (l : Launch) (E : Ev) (M : Nat → Nat) (th : Int32) (Hb : MH) (a k : Fn) (h1 : n_ns Hb ≤ 5) (h2 : n_np Hb ≤ 16) (h3 : n_nw Hb ≤ 4) (h4 : ∀ p, p < n_np Hb → n_so Hb p < 5) : MI l E yX3_nightOn wsX3_nightOn rm_X3_nightOn [.ref (M 0)] (wN E M (th, Hb, a, k)) (r_nightN Hb a) (wN E M (th, Hb, r_night Hb a, k)) := by
  refine k_bI (cc := cX3_nightOn) (maxL := 3) (ret := (some .int)) (by decide) rfl (Nat.le_of_ble_eq_true rfl) ?_
  intro p9 e s9 m args below meth c A9 ls hC hl hw
  obtain ⟨hx, hb, hml, hr, hown, hts, hlocks, hK, hG, hA⟩ := hC
  have hf33 := hts (.fieldLink RX3 33 "SailorCandlesModel" "ships" "I") (List.mem_of_getElem? (i := 1) rfl)
  have hinX3 : ∀ w ∈ wsX30, w ∈ wsX3_nightOn := fun w h => List.mem_cons_of_mem _ (List.mem_append_right _ h)
  have hf40 := hts (.fieldLink RX3 40 "SailorCandlesModel" "sailors" "I") (List.mem_of_getElem? (i := 3) rfl)
  have hf23 := hts (.fieldLink RX3 23 "SailorCandlesModel" "now" "[I") (List.mem_of_getElem? (i := 2) rfl)
  have hl : lv_has ls 3 [(0, .ref (M 0))] := hl
  refine lv_aload_n hx hb dX3_nightOn_0 rfl (lv_at hl 0 rfl) ?_
  refine kr_v (ws' := wN E M (th, Hb, l_old Hb a (n_nw Hb), k)) (va_runV (As := []) (rest := []) ⟨hx, hb, hml, hown, hts⟩ (c_X3_getOlder l E M th Hb a k (by omega) (by omega) (by omega) (h4) _) (cwV 0 hts gX3_nightOn_X3_getOlder rfl rfl rfl ⟨rfl, hd_X3_getOlder⟩ ⟨Nat.le_of_ble_eq_true rfl, Nat.le_of_ble_eq_true rfl⟩) (pwV (ci := 3) (q0 := 0) (C := RX3) hw hK rfl rfl rfl (rpS (AV := [.ref (M 0)]) hw hK hG rp_75)) rfl rfl hl.1 rfl (lv_room (Nat.le_of_ble_eq_true rfl)) dX3_nightOn_1 ⟨Nat.le_of_ble_eq_true rfl, Nat.le_of_ble_eq_true rfl⟩) hw hA rp_76 (fun H locs hw => ?_)
  refine lv_iconst (v := 0) hx hb dX3_nightOn_4 (by decide) ?_
  refine lv_istore_n (lv' := [(1, .int 0), (0, .ref (M 0))]) hx hb dX3_nightOn_5 rfl hl (by decide) rfl (fun ls hl => ?_)
  have L_6 : ∀ (k9 i : Nat) (H : Heap) (locs : List Loc) (ls : Array Slot), i + k9 = (n_ns Hb) → Wd E A9 s9.heap (wN E M (th, Hb, l_mun Hb ((l_old Hb a (n_nw Hb))) i, k)) H locs → lv_has ls 3 [(0, .ref (M 0)), (1, .int (nI i))] → W p9 l e rm_X3_nightOn s9 m args below meth c H locs 0 0 (EndI E A9 (r_nightN Hb a) (wN E M (th, Hb, r_night Hb a, k)) below args s9 (rm_X3_nightOn).cells (rm_X3_nightOn).slots) (F0 m 6 ls []) := by
    intro k9
    induction k9 with
    | zero =>
      intro i H locs ls hi hw hl
      have hz_1 : n_ns Hb = i := by omega
      refine lv_iload_n hx hb dX3_nightOn_6 rfl (lv_at hl 1 rfl) ?_
      refine lv_aload_n hx hb dX3_nightOn_7 rfl (lv_at hl 0 rfl) ?_
      refine k_get (ci := 3) (v := .int (nI (n_ns Hb))) (C := RX3) (T := TX3) (N := 10) hx hb hown hK hw hts hinX3 0 rfl rfl 1 (by decide) hf33 rfl dX3_nightOn_8 ?_
      refine lv_icmp_ge (tgt := 67) hx hb dX3_nightOn_11 (by decide) (fun _ => ?_) (fun q8 => absurd (by rw [← hz_1]; exact Int32.le_refl _) q8)
      refine lv_iconst (v := 0) hx hb dX3_nightOn_67 (by decide) ?_
      refine lv_istore_n (lv' := [(1, .int 0), (0, .ref (M 0))]) hx hb dX3_nightOn_68 rfl hl (by decide) rfl (fun ls hl => ?_)
      refine lv_iconst (v := 0) hx hb dX3_nightOn_69 (by decide) ?_
      refine lv_istore_n (lv' := [(2, .int 0), (1, .int 0), (0, .ref (M 0))]) hx hb dX3_nightOn_70 rfl hl (by decide) rfl (fun ls hl => ?_)
      have L_71 : ∀ (k9 j : Nat) (H : Heap) (locs : List Loc) (ls : Array Slot), j + k9 = (n_np Hb) → Wd E A9 s9.heap (wN E M (th, Hb, l_mbu Hb ((l_mun Hb ((l_old Hb a (n_nw Hb))) i)) j, k)) H locs → lv_has ls 3 [(0, .ref (M 0)), (1, .int (l_mbuN Hb ((l_mun Hb ((l_old Hb a (n_nw Hb))) i)) j)), (2, .int (nI j))] → W p9 l e rm_X3_nightOn s9 m args below meth c H locs 0 0 (EndI E A9 (r_nightN Hb a) (wN E M (th, Hb, r_night Hb a, k)) below args s9 (rm_X3_nightOn).cells (rm_X3_nightOn).slots) (F0 m 71 ls []) := by
        intro k9
        induction k9 with
        | zero =>
          intro j H locs ls hi hw hl
          have hz_2 : n_np Hb = j := by omega
          refine lv_iload_n hx hb dX3_nightOn_71 rfl (lv_at hl 2 rfl) ?_
          refine lv_aload_n hx hb dX3_nightOn_72 rfl (lv_at hl 0 rfl) ?_
          refine k_get (ci := 3) (v := .int (nI (n_np Hb))) (C := RX3) (T := TX3) (N := 10) hx hb hown hK hw hts hinX3 0 rfl rfl 3 (by decide) hf40 rfl dX3_nightOn_73 ?_
          refine lv_icmp_ge (tgt := 93) hx hb dX3_nightOn_76 (by decide) (fun _ => ?_) (fun q8 => absurd (by rw [← hz_2]; exact Int32.le_refl _) q8)
          refine lv_iconst (v := 0) hx hb dX3_nightOn_93 (by decide) ?_
          refine lv_istore_n (lv' := [(2, .int 0), (0, .ref (M 0)), (1, .int (l_mbuN Hb ((l_mun Hb ((l_old Hb a (n_nw Hb))) i)) j))]) hx hb dX3_nightOn_94 rfl hl (by decide) rfl (fun ls hl => ?_)
          have L_95 : ∀ (k9 t : Nat) (H : Heap) (locs : List Loc) (ls : Array Slot), t + k9 = (n_ns Hb) → Wd E A9 s9.heap (wN E M (th, Hb, l_mls Hb ((l_mbu Hb ((l_mun Hb ((l_old Hb a (n_nw Hb))) i)) j)) t, k)) H locs → lv_has ls 3 [(0, .ref (M 0)), (1, .int (l_mbuN Hb ((l_mun Hb ((l_old Hb a (n_nw Hb))) i)) j)), (2, .int (nI t))] → W p9 l e rm_X3_nightOn s9 m args below meth c H locs 0 0 (EndI E A9 (r_nightN Hb a) (wN E M (th, Hb, r_night Hb a, k)) below args s9 (rm_X3_nightOn).cells (rm_X3_nightOn).slots) (F0 m 95 ls []) := by
            intro k9
            induction k9 with
            | zero =>
              intro t H locs ls hi hw hl
              have hz_3 : n_ns Hb = t := by omega
              refine lv_iload_n hx hb dX3_nightOn_95 rfl (lv_at hl 2 rfl) ?_
              refine lv_aload_n hx hb dX3_nightOn_96 rfl (lv_at hl 0 rfl) ?_
              refine k_get (ci := 3) (v := .int (nI (n_ns Hb))) (C := RX3) (T := TX3) (N := 10) hx hb hown hK hw hts hinX3 0 rfl rfl 1 (by decide) hf33 rfl dX3_nightOn_97 ?_
              refine lv_icmp_ge (tgt := 185) hx hb dX3_nightOn_100 (by decide) (fun _ => ?_) (fun q8 => absurd (by rw [← hz_3]; exact Int32.le_refl _) q8)
              refine lv_aload_n hx hb dX3_nightOn_185 rfl (lv_at hl 0 rfl) ?_
              refine k_get (ci := 3) (v := .ref (M 5)) (C := RX3) (T := TX3) (N := 10) hx hb hown hK hw hts hinX3 0 rfl rfl 8 (by decide) hf23 rfl dX3_nightOn_186 ?_
              refine lv_iconst (v := 0) hx hb dX3_nightOn_189 (by decide) ?_
              refine lv_dup2_11 hx hb dX3_nightOn_190 rfl rfl ?_
              refine k_ildN (i := 0) (f := l_mls Hb ((l_mbu Hb ((l_mun Hb ((l_old Hb a (n_nw Hb))) i)) j)) t) hx hb hK hw 5 rfl (by omega) (by omega) dX3_nightOn_191 ?_
              refine lv_iconst (v := 1) hx hb dX3_nightOn_192 (by decide) ?_
              refine lv_iadd hx hb dX3_nightOn_193 ?_
              refine k_istN (i := 0) (ws' := wN E M (th, Hb, upd (l_mls Hb ((l_mbu Hb ((l_mun Hb ((l_old Hb a (n_nw Hb))) i)) j)) t) 0 (((l_mls Hb ((l_mbu Hb ((l_mun Hb ((l_old Hb a (n_nw Hb))) i)) j)) t) 0) + 1), k)) hx hb hK hw 5 rfl (by omega) (by omega) dX3_nightOn_194 rfl (fun H locs hw => ?_)
              refine lv_iload_n hx hb dX3_nightOn_195 rfl (lv_at hl 1 rfl) ?_
              exact k_iret hx hb hr hlocks hK hw rfl dX3_nightOn_196 (by subst hz_3 hz_2 hz_1; first | rfl | assumption | (simp only [r_night, r_nightA, r_nightC, r_nightN, l_mun, l_mls, l_mbu, l_mbuN, if_true, if_false, Bool.false_eq_true, Bool.true_eq_false, reduceIte, reduceCtorEq]; done) | (simp only [r_night, r_nightA, r_nightC, r_nightN, l_mun, l_mls, l_mbu, l_mbuN, if_true, if_false, Bool.false_eq_true, Bool.true_eq_false, reduceIte, reduceCtorEq]; rfl) | (simp [r_night, r_nightA, r_nightC, r_nightN, l_mun, l_mls, l_mbu, l_mbuN, if_true, if_false, Bool.false_eq_true, Bool.true_eq_false, reduceIte, reduceCtorEq]; done) | (simp [bI, r_night, r_nightA, r_nightC, r_nightN, l_mun, l_mls, l_mbu, l_mbuN]; done)) (by subst hz_3 hz_2 hz_1; first | rfl | assumption | (simp only [r_night, r_nightA, r_nightC, r_nightN, l_mun, l_mls, l_mbu, l_mbuN, if_true, if_false, Bool.false_eq_true, Bool.true_eq_false, reduceIte, reduceCtorEq]; done) | (simp only [r_night, r_nightA, r_nightC, r_nightN, l_mun, l_mls, l_mbu, l_mbuN, if_true, if_false, Bool.false_eq_true, Bool.true_eq_false, reduceIte, reduceCtorEq]; rfl) | (simp [r_night, r_nightA, r_nightC, r_nightN, l_mun, l_mls, l_mbu, l_mbuN, if_true, if_false, Bool.false_eq_true, Bool.true_eq_false, reduceIte, reduceCtorEq]; done) | (simp [bI, r_night, r_nightA, r_nightC, r_nightN, l_mun, l_mls, l_mbu, l_mbuN]; done))
            | succ k9 ih_95 =>
              intro t H locs ls hi hw hl
              have hi9 : t < n_ns Hb := by omega
              refine lv_iload_n hx hb dX3_nightOn_95 rfl (lv_at hl 2 rfl) ?_
              refine lv_aload_n hx hb dX3_nightOn_96 rfl (lv_at hl 0 rfl) ?_
              refine k_get (ci := 3) (v := .int (nI (n_ns Hb))) (C := RX3) (T := TX3) (N := 10) hx hb hown hK hw hts hinX3 0 rfl rfl 1 (by decide) hf33 rfl dX3_nightOn_97 ?_
              refine lv_icmp_ge (tgt := 185) hx hb dX3_nightOn_100 (by decide) (fun q8 => absurd q8 (nI_ge (a := t) (b := n_ns Hb) (by omega) (by omega))) (fun _ => ?_)
              refine lv_aload_n hx hb dX3_nightOn_103 rfl (lv_at hl 0 rfl) ?_
              refine lv_iload_n hx hb dX3_nightOn_104 rfl (lv_at hl 2 rfl) ?_
              refine kr_i (ws' := wN E M (th, Hb, l_mls Hb ((l_mbu Hb ((l_mun Hb ((l_old Hb a (n_nw Hb))) i)) j)) t, k)) (va_runV (As := [.int (nI t)]) (rest := []) ⟨hx, hb, hml, hown, hts⟩ (c_X3_isOut l E M th Hb (l_mls Hb ((l_mbu Hb ((l_mun Hb ((l_old Hb a (n_nw Hb))) i)) j)) t) k t (by omega) (by omega) (by omega) (h4) (by omega) _) (cwV 1 hts gX3_nightOn_X3_isOut rfl rfl rfl ⟨rfl, hd_X3_isOut⟩ ⟨Nat.le_of_ble_eq_true rfl, Nat.le_of_ble_eq_true rfl⟩) (pwV (ci := 3) (q0 := 0) (C := RX3) hw hK rfl rfl rfl (rpS (AV := [.ref (M 0), .int (nI t)]) hw hK hG rp_75)) rfl rfl hl.1 rfl (lv_room (Nat.le_of_ble_eq_true rfl)) dX3_nightOn_105 ⟨Nat.le_of_ble_eq_true rfl, Nat.le_of_ble_eq_true rfl⟩) hw hA rp_75 (fun H locs hw => ?_)
              refine lv_if_ne (tgt := 114) hx hb dX3_nightOn_108 (by decide) (fun c_4 => ?_) (fun c_4 => ?_)
              · have c_4 := bI_nz c_4
                refine lv_aload_n hx hb dX3_nightOn_114 rfl (lv_at hl 0 rfl) ?_
                refine k_get (ci := 3) (v := .ref (M 5)) (C := RX3) (T := TX3) (N := 10) hx hb hown hK hw hts hinX3 0 rfl rfl 8 (by decide) hf23 rfl dX3_nightOn_115 ?_
                refine lv_iload_n hx hb dX3_nightOn_118 rfl (lv_at hl 2 rfl) ?_
                refine lv_iconst (v := 1) hx hb dX3_nightOn_119 (by decide) ?_
                refine kr_i (ws' := wN E M (th, Hb, l_mls Hb ((l_mbu Hb ((l_mun Hb ((l_old Hb a (n_nw Hb))) i)) j)) t, k)) (va_runS (As := [.int (nI t), .int 1]) (rest := [.ref (M 5)]) ⟨hx, hb, hml, hown, hts⟩ (c_X3_ship l E t 1  _) (va_cwS 2 hts gX3_nightOn_X3_ship rfl rfl rfl hd_X3_ship ⟨Nat.le_of_ble_eq_true rfl, Nat.le_of_ble_eq_true rfl⟩) (rpS (AV := [.int (nI t), .int 1]) hw hK hG rp_74) rfl rfl hl.1 rfl (lv_room (Nat.le_of_ble_eq_true rfl)) dX3_nightOn_120 ⟨Nat.le_of_ble_eq_true rfl, Nat.le_of_ble_eq_true rfl⟩) hw hA rp_74 (fun H locs hw => ?_)
                refine lv_dup2_11 hx hb dX3_nightOn_123 rfl rfl ?_
                refine k_ildN (i := 3 + 3 * t + 1) (f := l_mls Hb ((l_mbu Hb ((l_mun Hb ((l_old Hb a (n_nw Hb))) i)) j)) t) hx hb hK hw 5 rfl (by omega) (by omega) dX3_nightOn_124 ?_
                refine lv_iconst (v := 1) hx hb dX3_nightOn_125 (by decide) ?_
                refine lv_iadd hx hb dX3_nightOn_126 ?_
                refine k_istN (i := 3 + 3 * t + 1) (ws' := wN E M (th, Hb, upd (l_mls Hb ((l_mbu Hb ((l_mun Hb ((l_old Hb a (n_nw Hb))) i)) j)) t) (3 + 3 * t + 1) (((l_mls Hb ((l_mbu Hb ((l_mun Hb ((l_old Hb a (n_nw Hb))) i)) j)) t) (3 + 3 * t + 1)) + 1), k)) hx hb hK hw 5 rfl (by omega) (by omega) dX3_nightOn_127 rfl (fun H locs hw => ?_)
                refine lv_aload_n hx hb dX3_nightOn_128 rfl (lv_at hl 0 rfl) ?_
                refine k_get (ci := 3) (v := .ref (M 5)) (C := RX3) (T := TX3) (N := 10) hx hb hown hK hw hts hinX3 0 rfl rfl 8 (by decide) hf23 rfl dX3_nightOn_129 ?_
                refine lv_iload_n hx hb dX3_nightOn_132 rfl (lv_at hl 2 rfl) ?_
                refine lv_iconst (v := 1) hx hb dX3_nightOn_133 (by decide) ?_
                refine kr_i (ws' := wN E M (th, Hb, upd (l_mls Hb ((l_mbu Hb ((l_mun Hb ((l_old Hb a (n_nw Hb))) i)) j)) t) (3 + 3 * t + 1) (((l_mls Hb ((l_mbu Hb ((l_mun Hb ((l_old Hb a (n_nw Hb))) i)) j)) t) (3 + 3 * t + 1)) + 1), k)) (va_runS (As := [.int (nI t), .int 1]) (rest := [.ref (M 5)]) ⟨hx, hb, hml, hown, hts⟩ (c_X3_ship l E t 1  _) (va_cwS 2 hts gX3_nightOn_X3_ship rfl rfl rfl hd_X3_ship ⟨Nat.le_of_ble_eq_true rfl, Nat.le_of_ble_eq_true rfl⟩) (rpS (AV := [.int (nI t), .int 1]) hw hK hG rp_74) rfl rfl hl.1 rfl (lv_room (Nat.le_of_ble_eq_true rfl)) dX3_nightOn_134 ⟨Nat.le_of_ble_eq_true rfl, Nat.le_of_ble_eq_true rfl⟩) hw hA rp_74 (fun H locs hw => ?_)
                refine k_ildN (i := 3 + 3 * t + 1) (f := upd (l_mls Hb ((l_mbu Hb ((l_mun Hb ((l_old Hb a (n_nw Hb))) i)) j)) t) (3 + 3 * t + 1) (((l_mls Hb ((l_mbu Hb ((l_mun Hb ((l_old Hb a (n_nw Hb))) i)) j)) t) (3 + 3 * t + 1)) + 1)) hx hb hK hw 5 rfl (by omega) (by omega) dX3_nightOn_137 ?_
                refine lv_bipush (v := 20) hx hb dX3_nightOn_138 (by decide) ?_
                refine lv_icmp_le (tgt := 179) hx hb dX3_nightOn_140 (by decide) (fun c_5 => ?_) (fun c_5 => ?_)
                · refine lv_iinc (v := nI (t + 1)) (lv' := [(2, .int (nI (t + 1))), (0, .ref (M 0)), (1, .int (l_mbuN Hb ((l_mun Hb ((l_old Hb a (n_nw Hb))) i)) j))]) hx hb dX3_nightOn_179 hl (k := 2) rfl (nI_add t 1) (by decide) rfl (fun ls hl => ?_)
                  refine lv_goto (tgt := 95) hx hb dX3_nightOn_182 (by decide) ?_
                  exact ih_95 (t + 1) _ _ _ (by omega) (hw.to (by subst hz_2 hz_1; first | assumption | (simp only [r_night, r_nightA, r_nightC, r_nightN, l_mun, l_mls, l_mbu, l_mbuN, c_4, if_pos c_5, if_true, if_false, Bool.false_eq_true, Bool.true_eq_false, reduceIte, reduceCtorEq]; done) | (simp only [r_night, r_nightA, r_nightC, r_nightN, l_mun, l_mls, l_mbu, l_mbuN, c_4, if_pos c_5, if_true, if_false, Bool.false_eq_true, Bool.true_eq_false, reduceIte, reduceCtorEq]; rfl) | rfl | (simp [r_night, r_nightA, r_nightC, r_nightN, l_mun, l_mls, l_mbu, l_mbuN, c_4, if_pos c_5, if_true, if_false, Bool.false_eq_true, Bool.true_eq_false, reduceIte, reduceCtorEq]; done) | (simp [bI, r_night, r_nightA, r_nightC, r_nightN, l_mun, l_mls, l_mbu, l_mbuN, c_4, c_5]; done))) (lv_sub hl [1, 2, 0] rfl)
                · refine lv_iconst (v := 2) hx hb dX3_nightOn_143 (by decide) ?_
                  refine lv_aload_n hx hb dX3_nightOn_144 rfl (lv_at hl 0 rfl) ?_
                  refine lv_iload_n hx hb dX3_nightOn_145 rfl (lv_at hl 2 rfl) ?_
                  refine lv_iconst (v := 1) hx hb dX3_nightOn_146 (by decide) ?_
                  refine kr_i (ws' := wN E M (th, Hb, upd (l_mls Hb ((l_mbu Hb ((l_mun Hb ((l_old Hb a (n_nw Hb))) i)) j)) t) (3 + 3 * t + 1) (((l_mls Hb ((l_mbu Hb ((l_mun Hb ((l_old Hb a (n_nw Hb))) i)) j)) t) (3 + 3 * t + 1)) + 1), k)) (va_runV (As := [.int (nI t), .int 1]) (rest := [.int 2]) ⟨hx, hb, hml, hown, hts⟩ (c_X3_voters l E M th Hb (upd (l_mls Hb ((l_mbu Hb ((l_mun Hb ((l_old Hb a (n_nw Hb))) i)) j)) t) (3 + 3 * t + 1) (((l_mls Hb ((l_mbu Hb ((l_mun Hb ((l_old Hb a (n_nw Hb))) i)) j)) t) (3 + 3 * t + 1)) + 1)) k t true (by omega) (by omega) (by omega) (h4) (by omega) _) (cwV 2 hts gX3_nightOn_X3_voters rfl rfl rfl ⟨rfl, hd_X3_voters⟩ ⟨Nat.le_of_ble_eq_true rfl, Nat.le_of_ble_eq_true rfl⟩) (pwV (ci := 3) (q0 := 0) (C := RX3) hw hK rfl rfl rfl (rpS (AV := [.ref (M 0), .int (nI t), .int 1]) hw hK hG rp_75)) rfl rfl hl.1 rfl (lv_room (Nat.le_of_ble_eq_true rfl)) dX3_nightOn_147 ⟨Nat.le_of_ble_eq_true rfl, Nat.le_of_ble_eq_true rfl⟩) hw hA rp_75 (fun H locs hw => ?_)
                  refine lv_imul hx hb dX3_nightOn_150 ?_
                  refine lv_aload_n hx hb dX3_nightOn_151 rfl (lv_at hl 0 rfl) ?_
                  refine lv_iload_n hx hb dX3_nightOn_152 rfl (lv_at hl 2 rfl) ?_
                  refine lv_iconst (v := 0) hx hb dX3_nightOn_153 (by decide) ?_
                  refine kr_i (ws' := wN E M (th, Hb, upd (l_mls Hb ((l_mbu Hb ((l_mun Hb ((l_old Hb a (n_nw Hb))) i)) j)) t) (3 + 3 * t + 1) (((l_mls Hb ((l_mbu Hb ((l_mun Hb ((l_old Hb a (n_nw Hb))) i)) j)) t) (3 + 3 * t + 1)) + 1), k)) (va_runV (As := [.int (nI t), .int 0]) (rest := [.int (2 * (l_mvo Hb (upd (l_mls Hb ((l_mbu Hb ((l_mun Hb ((l_old Hb a (n_nw Hb))) i)) j)) t) (3 + 3 * t + 1) (((l_mls Hb ((l_mbu Hb ((l_mun Hb ((l_old Hb a (n_nw Hb))) i)) j)) t) (3 + 3 * t + 1)) + 1)) t true (n_np Hb)))]) ⟨hx, hb, hml, hown, hts⟩ (c_X3_voters l E M th Hb (upd (l_mls Hb ((l_mbu Hb ((l_mun Hb ((l_old Hb a (n_nw Hb))) i)) j)) t) (3 + 3 * t + 1) (((l_mls Hb ((l_mbu Hb ((l_mun Hb ((l_old Hb a (n_nw Hb))) i)) j)) t) (3 + 3 * t + 1)) + 1)) k t false (by omega) (by omega) (by omega) (h4) (by omega) _) (cwV 2 hts gX3_nightOn_X3_voters rfl rfl rfl ⟨rfl, hd_X3_voters⟩ ⟨Nat.le_of_ble_eq_true rfl, Nat.le_of_ble_eq_true rfl⟩) (pwV (ci := 3) (q0 := 0) (C := RX3) hw hK rfl rfl rfl (rpS (AV := [.ref (M 0), .int (nI t), .int 0]) hw hK hG rp_75)) rfl rfl hl.1 rfl (lv_room (Nat.le_of_ble_eq_true rfl)) dX3_nightOn_154 ⟨Nat.le_of_ble_eq_true rfl, Nat.le_of_ble_eq_true rfl⟩) hw hA rp_75 (fun H locs hw => ?_)
                  refine lv_icmp_gt (tgt := 163) hx hb dX3_nightOn_157 (by decide) (fun c_6 => ?_) (fun c_6 => ?_)
                  · refine lv_aload_n hx hb dX3_nightOn_163 rfl (lv_at hl 0 rfl) ?_
                    refine k_get (ci := 3) (v := .ref (M 5)) (C := RX3) (T := TX3) (N := 10) hx hb hown hK hw hts hinX3 0 rfl rfl 8 (by decide) hf23 rfl dX3_nightOn_164 ?_
                    refine lv_iload_n hx hb dX3_nightOn_167 rfl (lv_at hl 2 rfl) ?_
                    refine lv_iconst (v := 0) hx hb dX3_nightOn_168 (by decide) ?_
                    refine kr_i (ws' := wN E M (th, Hb, upd (l_mls Hb ((l_mbu Hb ((l_mun Hb ((l_old Hb a (n_nw Hb))) i)) j)) t) (3 + 3 * t + 1) (((l_mls Hb ((l_mbu Hb ((l_mun Hb ((l_old Hb a (n_nw Hb))) i)) j)) t) (3 + 3 * t + 1)) + 1), k)) (va_runS (As := [.int (nI t), .int 0]) (rest := [.ref (M 5)]) ⟨hx, hb, hml, hown, hts⟩ (c_X3_ship l E t 0  _) (va_cwS 2 hts gX3_nightOn_X3_ship rfl rfl rfl hd_X3_ship ⟨Nat.le_of_ble_eq_true rfl, Nat.le_of_ble_eq_true rfl⟩) (rpS (AV := [.int (nI t), .int 0]) hw hK hG rp_74) rfl rfl hl.1 rfl (lv_room (Nat.le_of_ble_eq_true rfl)) dX3_nightOn_169 ⟨Nat.le_of_ble_eq_true rfl, Nat.le_of_ble_eq_true rfl⟩) hw hA rp_74 (fun H locs hw => ?_)
                    refine lv_iconst (v := 2) hx hb dX3_nightOn_172 (by decide) ?_
                    refine k_istN (i := 3 + 3 * t + 0) (ws' := wN E M (th, Hb, upd (upd (l_mls Hb ((l_mbu Hb ((l_mun Hb ((l_old Hb a (n_nw Hb))) i)) j)) t) (3 + 3 * t + 1) (((l_mls Hb ((l_mbu Hb ((l_mun Hb ((l_old Hb a (n_nw Hb))) i)) j)) t) (3 + 3 * t + 1)) + 1)) (3 + 3 * t + 0) 2, k)) hx hb hK hw 5 rfl (by omega) (by omega) dX3_nightOn_173 rfl (fun H locs hw => ?_)
                    refine lv_aload_n hx hb dX3_nightOn_174 rfl (lv_at hl 0 rfl) ?_
                    refine lv_iload_n hx hb dX3_nightOn_175 rfl (lv_at hl 2 rfl) ?_
                    refine kr_v (ws' := wN E M (th, Hb, r_end Hb (upd (upd (l_mls Hb ((l_mbu Hb ((l_mun Hb ((l_old Hb a (n_nw Hb))) i)) j)) t) (3 + 3 * t + 1) (((l_mls Hb ((l_mbu Hb ((l_mun Hb ((l_old Hb a (n_nw Hb))) i)) j)) t) (3 + 3 * t + 1)) + 1)) (3 + 3 * t + 0) 2) t, k)) (va_runV (As := [.int (nI t)]) (rest := []) ⟨hx, hb, hml, hown, hts⟩ (c_X3_end l E M th Hb (upd (upd (l_mls Hb ((l_mbu Hb ((l_mun Hb ((l_old Hb a (n_nw Hb))) i)) j)) t) (3 + 3 * t + 1) (((l_mls Hb ((l_mbu Hb ((l_mun Hb ((l_old Hb a (n_nw Hb))) i)) j)) t) (3 + 3 * t + 1)) + 1)) (3 + 3 * t + 0) 2) k t (by omega) (by omega) (by omega) (h4) (by omega) _) (cwV 1 hts gX3_nightOn_X3_end rfl rfl rfl ⟨rfl, hd_X3_end⟩ ⟨Nat.le_of_ble_eq_true rfl, Nat.le_of_ble_eq_true rfl⟩) (pwV (ci := 3) (q0 := 0) (C := RX3) hw hK rfl rfl rfl (rpS (AV := [.ref (M 0), .int (nI t)]) hw hK hG rp_75)) rfl rfl hl.1 rfl (lv_room (Nat.le_of_ble_eq_true rfl)) dX3_nightOn_176 ⟨Nat.le_of_ble_eq_true rfl, Nat.le_of_ble_eq_true rfl⟩) hw hA rp_76 (fun H locs hw => ?_)
                    refine lv_iinc (v := nI (t + 1)) (lv' := [(2, .int (nI (t + 1))), (0, .ref (M 0)), (1, .int (l_mbuN Hb ((l_mun Hb ((l_old Hb a (n_nw Hb))) i)) j))]) hx hb dX3_nightOn_179 hl (k := 2) rfl (nI_add t 1) (by decide) rfl (fun ls hl => ?_)
                    refine lv_goto (tgt := 95) hx hb dX3_nightOn_182 (by decide) ?_
                    exact ih_95 (t + 1) _ _ _ (by omega) (hw.to (by subst hz_2 hz_1; first | assumption | (simp only [r_night, r_nightA, r_nightC, r_nightN, l_mun, l_mls, l_mbu, l_mbuN, c_4, if_neg c_5, if_pos c_6, if_true, if_false, Bool.false_eq_true, Bool.true_eq_false, reduceIte, reduceCtorEq]; done) | (simp only [r_night, r_nightA, r_nightC, r_nightN, l_mun, l_mls, l_mbu, l_mbuN, c_4, if_neg c_5, if_pos c_6, if_true, if_false, Bool.false_eq_true, Bool.true_eq_false, reduceIte, reduceCtorEq]; rfl) | rfl | (simp [r_night, r_nightA, r_nightC, r_nightN, l_mun, l_mls, l_mbu, l_mbuN, c_4, if_neg c_5, if_pos c_6, if_true, if_false, Bool.false_eq_true, Bool.true_eq_false, reduceIte, reduceCtorEq]; done) | (simp [bI, r_night, r_nightA, r_nightC, r_nightN, l_mun, l_mls, l_mbu, l_mbuN, c_4, c_5, c_6]; done))) (lv_sub hl [1, 2, 0] rfl)
                  · refine lv_goto (tgt := 179) hx hb dX3_nightOn_160 (by decide) ?_
                    refine lv_iinc (v := nI (t + 1)) (lv' := [(2, .int (nI (t + 1))), (0, .ref (M 0)), (1, .int (l_mbuN Hb ((l_mun Hb ((l_old Hb a (n_nw Hb))) i)) j))]) hx hb dX3_nightOn_179 hl (k := 2) rfl (nI_add t 1) (by decide) rfl (fun ls hl => ?_)
                    refine lv_goto (tgt := 95) hx hb dX3_nightOn_182 (by decide) ?_
                    exact ih_95 (t + 1) _ _ _ (by omega) (hw.to (by subst hz_2 hz_1; first | assumption | (simp only [r_night, r_nightA, r_nightC, r_nightN, l_mun, l_mls, l_mbu, l_mbuN, c_4, if_neg c_5, if_neg c_6, if_true, if_false, Bool.false_eq_true, Bool.true_eq_false, reduceIte, reduceCtorEq]; done) | (simp only [r_night, r_nightA, r_nightC, r_nightN, l_mun, l_mls, l_mbu, l_mbuN, c_4, if_neg c_5, if_neg c_6, if_true, if_false, Bool.false_eq_true, Bool.true_eq_false, reduceIte, reduceCtorEq]; rfl) | rfl | (simp [r_night, r_nightA, r_nightC, r_nightN, l_mun, l_mls, l_mbu, l_mbuN, c_4, if_neg c_5, if_neg c_6, if_true, if_false, Bool.false_eq_true, Bool.true_eq_false, reduceIte, reduceCtorEq]; done) | (simp [bI, r_night, r_nightA, r_nightC, r_nightN, l_mun, l_mls, l_mbu, l_mbuN, c_4, c_5, c_6]; done))) (lv_sub hl [1, 2, 0] rfl)
              · have c_4 := bI_z c_4
                refine lv_goto (tgt := 179) hx hb dX3_nightOn_111 (by decide) ?_
                refine lv_iinc (v := nI (t + 1)) (lv' := [(2, .int (nI (t + 1))), (0, .ref (M 0)), (1, .int (l_mbuN Hb ((l_mun Hb ((l_old Hb a (n_nw Hb))) i)) j))]) hx hb dX3_nightOn_179 hl (k := 2) rfl (nI_add t 1) (by decide) rfl (fun ls hl => ?_)
                refine lv_goto (tgt := 95) hx hb dX3_nightOn_182 (by decide) ?_
                exact ih_95 (t + 1) _ _ _ (by omega) (hw.to (by subst hz_2 hz_1; first | assumption | (simp only [r_night, r_nightA, r_nightC, r_nightN, l_mun, l_mls, l_mbu, l_mbuN, c_4, if_true, if_false, Bool.false_eq_true, Bool.true_eq_false, reduceIte, reduceCtorEq]; done) | (simp only [r_night, r_nightA, r_nightC, r_nightN, l_mun, l_mls, l_mbu, l_mbuN, c_4, if_true, if_false, Bool.false_eq_true, Bool.true_eq_false, reduceIte, reduceCtorEq]; rfl) | rfl | (simp [r_night, r_nightA, r_nightC, r_nightN, l_mun, l_mls, l_mbu, l_mbuN, c_4, if_true, if_false, Bool.false_eq_true, Bool.true_eq_false, reduceIte, reduceCtorEq]; done) | (simp [bI, r_night, r_nightA, r_nightC, r_nightN, l_mun, l_mls, l_mbu, l_mbuN, c_4]; done))) (lv_sub hl [1, 2, 0] rfl)
          exact L_95 ((n_ns Hb) - 0) 0 _ _ _ (by omega) hw (lv_sub hl [1, 2, 0] rfl)
        | succ k9 ih_71 =>
          intro j H locs ls hi hw hl
          have hi9 : j < n_np Hb := by omega
          refine lv_iload_n hx hb dX3_nightOn_71 rfl (lv_at hl 2 rfl) ?_
          refine lv_aload_n hx hb dX3_nightOn_72 rfl (lv_at hl 0 rfl) ?_
          refine k_get (ci := 3) (v := .int (nI (n_np Hb))) (C := RX3) (T := TX3) (N := 10) hx hb hown hK hw hts hinX3 0 rfl rfl 3 (by decide) hf40 rfl dX3_nightOn_73 ?_
          refine lv_icmp_ge (tgt := 93) hx hb dX3_nightOn_76 (by decide) (fun q8 => absurd q8 (nI_ge (a := j) (b := n_np Hb) (by omega) (by omega))) (fun _ => ?_)
          refine lv_iload_n hx hb dX3_nightOn_79 rfl (lv_at hl 1 rfl) ?_
          refine lv_aload_n hx hb dX3_nightOn_80 rfl (lv_at hl 0 rfl) ?_
          refine lv_iload_n hx hb dX3_nightOn_81 rfl (lv_at hl 2 rfl) ?_
          refine kr_i (ws' := wN E M (th, Hb, r_burn Hb (l_mbu Hb ((l_mun Hb ((l_old Hb a (n_nw Hb))) i)) j) j, k)) (va_runV (As := [.int (nI j)]) (rest := [.int (l_mbuN Hb ((l_mun Hb ((l_old Hb a (n_nw Hb))) i)) j)]) ⟨hx, hb, hml, hown, hts⟩ (c_X3_burn l E M th Hb (l_mbu Hb ((l_mun Hb ((l_old Hb a (n_nw Hb))) i)) j) k j (by omega) (by omega) (by omega) (h4) (by omega) _) (cwV 1 hts gX3_nightOn_X3_burn rfl rfl rfl ⟨rfl, hd_X3_burn⟩ ⟨Nat.le_of_ble_eq_true rfl, Nat.le_of_ble_eq_true rfl⟩) (pwV (ci := 3) (q0 := 0) (C := RX3) hw hK rfl rfl rfl (rpS (AV := [.ref (M 0), .int (nI j)]) hw hK hG rp_75)) rfl rfl hl.1 rfl (lv_room (Nat.le_of_ble_eq_true rfl)) dX3_nightOn_82 ⟨Nat.le_of_ble_eq_true rfl, Nat.le_of_ble_eq_true rfl⟩) hw hA rp_76 (fun H locs hw => ?_)
          refine lv_iadd hx hb dX3_nightOn_85 ?_
          refine lv_istore_n (lv' := [(1, .int ((l_mbuN Hb ((l_mun Hb ((l_old Hb a (n_nw Hb))) i)) j) + (r_burnN Hb (l_mbu Hb ((l_mun Hb ((l_old Hb a (n_nw Hb))) i)) j) j))), (0, .ref (M 0)), (2, .int (nI j))]) hx hb dX3_nightOn_86 rfl hl (by decide) rfl (fun ls hl => ?_)
          refine lv_iinc (v := nI (j + 1)) (lv' := [(2, .int (nI (j + 1))), (1, .int ((l_mbuN Hb ((l_mun Hb ((l_old Hb a (n_nw Hb))) i)) j) + (r_burnN Hb (l_mbu Hb ((l_mun Hb ((l_old Hb a (n_nw Hb))) i)) j) j))), (0, .ref (M 0))]) hx hb dX3_nightOn_87 hl (k := 2) rfl (nI_add j 1) (by decide) rfl (fun ls hl => ?_)
          refine lv_goto (tgt := 71) hx hb dX3_nightOn_90 (by decide) ?_
          exact ih_71 (j + 1) _ _ _ (by omega) (hw.to (by subst hz_1; first | rfl | assumption | (simp only [r_night, r_nightA, r_nightC, r_nightN, l_mun, l_mls, l_mbu, l_mbuN, if_true, if_false, Bool.false_eq_true, Bool.true_eq_false, reduceIte, reduceCtorEq]; done) | (simp only [r_night, r_nightA, r_nightC, r_nightN, l_mun, l_mls, l_mbu, l_mbuN, if_true, if_false, Bool.false_eq_true, Bool.true_eq_false, reduceIte, reduceCtorEq]; rfl) | (simp [r_night, r_nightA, r_nightC, r_nightN, l_mun, l_mls, l_mbu, l_mbuN, if_true, if_false, Bool.false_eq_true, Bool.true_eq_false, reduceIte, reduceCtorEq]; done) | (simp [bI, r_night, r_nightA, r_nightC, r_nightN, l_mun, l_mls, l_mbu, l_mbuN]; done))) (by rw [show (.int (l_mbuN Hb ((l_mun Hb ((l_old Hb a (n_nw Hb))) i)) (j + 1)) : Value) = .int ((l_mbuN Hb ((l_mun Hb ((l_old Hb a (n_nw Hb))) i)) j) + (r_burnN Hb (l_mbu Hb ((l_mun Hb ((l_old Hb a (n_nw Hb))) i)) j) j)) from (by subst hz_1; first | rfl | assumption | (simp only [r_night, r_nightA, r_nightC, r_nightN, l_mun, l_mls, l_mbu, l_mbuN, if_true, if_false, Bool.false_eq_true, Bool.true_eq_false, reduceIte, reduceCtorEq]; done) | (simp only [r_night, r_nightA, r_nightC, r_nightN, l_mun, l_mls, l_mbu, l_mbuN, if_true, if_false, Bool.false_eq_true, Bool.true_eq_false, reduceIte, reduceCtorEq]; rfl) | (simp [r_night, r_nightA, r_nightC, r_nightN, l_mun, l_mls, l_mbu, l_mbuN, if_true, if_false, Bool.false_eq_true, Bool.true_eq_false, reduceIte, reduceCtorEq]; done) | (simp [bI, r_night, r_nightA, r_nightC, r_nightN, l_mun, l_mls, l_mbu, l_mbuN]; done))]; exact lv_sub hl [2, 1, 0] rfl)
      exact L_71 ((n_np Hb) - 0) 0 _ _ _ (by omega) hw (lv_sub hl [2, 1, 0] rfl)
    | succ k9 ih_6 =>
      intro i H locs ls hi hw hl
      have hi9 : i < n_ns Hb := by omega
      refine lv_iload_n hx hb dX3_nightOn_6 rfl (lv_at hl 1 rfl) ?_
      refine lv_aload_n hx hb dX3_nightOn_7 rfl (lv_at hl 0 rfl) ?_
      refine k_get (ci := 3) (v := .int (nI (n_ns Hb))) (C := RX3) (T := TX3) (N := 10) hx hb hown hK hw hts hinX3 0 rfl rfl 1 (by decide) hf33 rfl dX3_nightOn_8 ?_
      refine lv_icmp_ge (tgt := 67) hx hb dX3_nightOn_11 (by decide) (fun q8 => absurd q8 (nI_ge (a := i) (b := n_ns Hb) (by omega) (by omega))) (fun _ => ?_)
      refine lv_aload_n hx hb dX3_nightOn_14 rfl (lv_at hl 0 rfl) ?_
      refine k_get (ci := 3) (v := .ref (M 5)) (C := RX3) (T := TX3) (N := 10) hx hb hown hK hw hts hinX3 0 rfl rfl 8 (by decide) hf23 rfl dX3_nightOn_15 ?_
      refine lv_iload_n hx hb dX3_nightOn_18 rfl (lv_at hl 1 rfl) ?_
      refine lv_iconst (v := 2) hx hb dX3_nightOn_19 (by decide) ?_
      refine kr_i (ws' := wN E M (th, Hb, l_mun Hb ((l_old Hb a (n_nw Hb))) i, k)) (va_runS (As := [.int (nI i), .int 2]) (rest := [.ref (M 5)]) ⟨hx, hb, hml, hown, hts⟩ (c_X3_ship l E i 2  _) (va_cwS 2 hts gX3_nightOn_X3_ship rfl rfl rfl hd_X3_ship ⟨Nat.le_of_ble_eq_true rfl, Nat.le_of_ble_eq_true rfl⟩) (rpS (AV := [.int (nI i), .int 2]) hw hK hG rp_74) rfl rfl hl.1 rfl (lv_room (Nat.le_of_ble_eq_true rfl)) dX3_nightOn_20 ⟨Nat.le_of_ble_eq_true rfl, Nat.le_of_ble_eq_true rfl⟩) hw hA rp_74 (fun H locs hw => ?_)
      refine k_ildN (i := 3 + 3 * i + 2) (f := l_mun Hb ((l_old Hb a (n_nw Hb))) i) hx hb hK hw 5 rfl (by omega) (by omega) dX3_nightOn_23 ?_
      refine lv_if_eq (tgt := 61) hx hb dX3_nightOn_24 (by decide) (fun c_7 => ?_) (fun c_7 => ?_)
      · refine lv_iinc (v := nI (i + 1)) (lv' := [(1, .int (nI (i + 1))), (0, .ref (M 0))]) hx hb dX3_nightOn_61 hl (k := 1) rfl (nI_add i 1) (by decide) rfl (fun ls hl => ?_)
        refine lv_goto (tgt := 6) hx hb dX3_nightOn_64 (by decide) ?_
        exact ih_6 (i + 1) _ _ _ (by omega) (hw.to (by first | assumption | (simp only [r_night, r_nightA, r_nightC, r_nightN, l_mun, l_mls, l_mbu, l_mbuN, if_pos c_7, if_true, if_false, Bool.false_eq_true, Bool.true_eq_false, reduceIte, reduceCtorEq]; done) | (simp only [r_night, r_nightA, r_nightC, r_nightN, l_mun, l_mls, l_mbu, l_mbuN, if_pos c_7, if_true, if_false, Bool.false_eq_true, Bool.true_eq_false, reduceIte, reduceCtorEq]; rfl) | rfl | (simp [r_night, r_nightA, r_nightC, r_nightN, l_mun, l_mls, l_mbu, l_mbuN, if_pos c_7, if_true, if_false, Bool.false_eq_true, Bool.true_eq_false, reduceIte, reduceCtorEq]; done) | (simp [bI, r_night, r_nightA, r_nightC, r_nightN, l_mun, l_mls, l_mbu, l_mbuN, c_7]; done))) (lv_sub hl [1, 0] rfl)
      · refine lv_aload_n hx hb dX3_nightOn_27 rfl (lv_at hl 0 rfl) ?_
        refine lv_iload_n hx hb dX3_nightOn_28 rfl (lv_at hl 1 rfl) ?_
        refine kr_i (ws' := wN E M (th, Hb, l_mun Hb ((l_old Hb a (n_nw Hb))) i, k)) (va_runV (As := [.int (nI i)]) (rest := []) ⟨hx, hb, hml, hown, hts⟩ (c_X3_trust l E M th Hb (l_mun Hb ((l_old Hb a (n_nw Hb))) i) k i (by omega) (by omega) (by omega) (h4) (by omega) _) (cwV 1 hts gX3_nightOn_X3_trust rfl rfl rfl ⟨rfl, hd_X3_trust⟩ ⟨Nat.le_of_ble_eq_true rfl, Nat.le_of_ble_eq_true rfl⟩) (pwV (ci := 3) (q0 := 0) (C := RX3) hw hK rfl rfl rfl (rpS (AV := [.ref (M 0), .int (nI i)]) hw hK hG rp_75)) rfl rfl hl.1 rfl (lv_room (Nat.le_of_ble_eq_true rfl)) dX3_nightOn_29 ⟨Nat.le_of_ble_eq_true rfl, Nat.le_of_ble_eq_true rfl⟩) hw hA rp_75 (fun H locs hw => ?_)
        refine lv_bipush (v := 6) hx hb dX3_nightOn_32 (by decide) ?_
        refine lv_icmp_lt (tgt := 40) hx hb dX3_nightOn_34 (by decide) (fun c_8 => ?_) (fun c_8 => ?_)
        · refine lv_aload_n hx hb dX3_nightOn_40 rfl (lv_at hl 0 rfl) ?_
          refine k_get (ci := 3) (v := .ref (M 5)) (C := RX3) (T := TX3) (N := 10) hx hb hown hK hw hts hinX3 0 rfl rfl 8 (by decide) hf23 rfl dX3_nightOn_41 ?_
          refine lv_iload_n hx hb dX3_nightOn_44 rfl (lv_at hl 1 rfl) ?_
          refine lv_iconst (v := 2) hx hb dX3_nightOn_45 (by decide) ?_
          refine kr_i (ws' := wN E M (th, Hb, l_mun Hb ((l_old Hb a (n_nw Hb))) i, k)) (va_runS (As := [.int (nI i), .int 2]) (rest := [.ref (M 5)]) ⟨hx, hb, hml, hown, hts⟩ (c_X3_ship l E i 2  _) (va_cwS 2 hts gX3_nightOn_X3_ship rfl rfl rfl hd_X3_ship ⟨Nat.le_of_ble_eq_true rfl, Nat.le_of_ble_eq_true rfl⟩) (rpS (AV := [.int (nI i), .int 2]) hw hK hG rp_74) rfl rfl hl.1 rfl (lv_room (Nat.le_of_ble_eq_true rfl)) dX3_nightOn_46 ⟨Nat.le_of_ble_eq_true rfl, Nat.le_of_ble_eq_true rfl⟩) hw hA rp_74 (fun H locs hw => ?_)
          refine lv_iconst (v := 0) hx hb dX3_nightOn_49 (by decide) ?_
          refine k_istN (i := 3 + 3 * i + 2) (ws' := wN E M (th, Hb, upd (l_mun Hb ((l_old Hb a (n_nw Hb))) i) (3 + 3 * i + 2) 0, k)) hx hb hK hw 5 rfl (by omega) (by omega) dX3_nightOn_50 rfl (fun H locs hw => ?_)
          refine lv_aload_n hx hb dX3_nightOn_51 rfl (lv_at hl 0 rfl) ?_
          refine k_get (ci := 3) (v := .ref (M 5)) (C := RX3) (T := TX3) (N := 10) hx hb hown hK hw hts hinX3 0 rfl rfl 8 (by decide) hf23 rfl dX3_nightOn_52 ?_
          refine lv_iconst (v := 2) hx hb dX3_nightOn_55 (by decide) ?_
          refine lv_dup2_11 hx hb dX3_nightOn_56 rfl rfl ?_
          refine k_ildN (i := 2) (f := upd (l_mun Hb ((l_old Hb a (n_nw Hb))) i) (3 + 3 * i + 2) 0) hx hb hK hw 5 rfl (by omega) (by omega) dX3_nightOn_57 ?_
          refine lv_iconst (v := 1) hx hb dX3_nightOn_58 (by decide) ?_
          refine lv_iadd hx hb dX3_nightOn_59 ?_
          refine k_istN (i := 2) (ws' := wN E M (th, Hb, upd (upd (l_mun Hb ((l_old Hb a (n_nw Hb))) i) (3 + 3 * i + 2) 0) 2 (((upd (l_mun Hb ((l_old Hb a (n_nw Hb))) i) (3 + 3 * i + 2) 0) 2) + 1), k)) hx hb hK hw 5 rfl (by omega) (by omega) dX3_nightOn_60 rfl (fun H locs hw => ?_)
          refine lv_iinc (v := nI (i + 1)) (lv' := [(1, .int (nI (i + 1))), (0, .ref (M 0))]) hx hb dX3_nightOn_61 hl (k := 1) rfl (nI_add i 1) (by decide) rfl (fun ls hl => ?_)
          refine lv_goto (tgt := 6) hx hb dX3_nightOn_64 (by decide) ?_
          exact ih_6 (i + 1) _ _ _ (by omega) (hw.to (by first | assumption | (simp only [r_night, r_nightA, r_nightC, r_nightN, l_mun, l_mls, l_mbu, l_mbuN, if_neg c_7, if_pos c_8, if_true, if_false, Bool.false_eq_true, Bool.true_eq_false, reduceIte, reduceCtorEq]; done) | (simp only [r_night, r_nightA, r_nightC, r_nightN, l_mun, l_mls, l_mbu, l_mbuN, if_neg c_7, if_pos c_8, if_true, if_false, Bool.false_eq_true, Bool.true_eq_false, reduceIte, reduceCtorEq]; rfl) | rfl | (simp [r_night, r_nightA, r_nightC, r_nightN, l_mun, l_mls, l_mbu, l_mbuN, if_neg c_7, if_pos c_8, if_true, if_false, Bool.false_eq_true, Bool.true_eq_false, reduceIte, reduceCtorEq]; done) | (simp [bI, r_night, r_nightA, r_nightC, r_nightN, l_mun, l_mls, l_mbu, l_mbuN, c_7, c_8]; done))) (lv_sub hl [1, 0] rfl)
        · refine lv_goto (tgt := 61) hx hb dX3_nightOn_37 (by decide) ?_
          refine lv_iinc (v := nI (i + 1)) (lv' := [(1, .int (nI (i + 1))), (0, .ref (M 0))]) hx hb dX3_nightOn_61 hl (k := 1) rfl (nI_add i 1) (by decide) rfl (fun ls hl => ?_)
          refine lv_goto (tgt := 6) hx hb dX3_nightOn_64 (by decide) ?_
          exact ih_6 (i + 1) _ _ _ (by omega) (hw.to (by first | assumption | (simp only [r_night, r_nightA, r_nightC, r_nightN, l_mun, l_mls, l_mbu, l_mbuN, if_neg c_7, if_neg c_8, if_true, if_false, Bool.false_eq_true, Bool.true_eq_false, reduceIte, reduceCtorEq]; done) | (simp only [r_night, r_nightA, r_nightC, r_nightN, l_mun, l_mls, l_mbu, l_mbuN, if_neg c_7, if_neg c_8, if_true, if_false, Bool.false_eq_true, Bool.true_eq_false, reduceIte, reduceCtorEq]; rfl) | rfl | (simp [r_night, r_nightA, r_nightC, r_nightN, l_mun, l_mls, l_mbu, l_mbuN, if_neg c_7, if_neg c_8, if_true, if_false, Bool.false_eq_true, Bool.true_eq_false, reduceIte, reduceCtorEq]; done) | (simp [bI, r_night, r_nightA, r_nightC, r_nightN, l_mun, l_mls, l_mbu, l_mbuN, c_7, c_8]; done))) (lv_sub hl [1, 0] rfl)
  exact L_6 ((n_ns Hb) - 0) 0 _ _ _ (by omega) hw (lv_sub hl [1, 0] rfl)
