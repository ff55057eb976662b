abbrev rm_X3_wouldRing : Room := { frames := 3, cells := 0, slots := 0, locals := 66 }
set_option maxHeartbeats 4000000 in
set_option maxRecDepth 100000 in
theorem c_X3_wouldRing_1 (l : Launch) (E : Ev) (M : Nat → Nat) (th : Int32) (Hb : MH) (a k : Fn) (w : Int32) (s : Int32) (h1 : n_ns Hb ≤ 5) (h2 : n_np Hb ≤ 16) (h3 : n_nw Hb ≤ 4) (h4 : ∀ p, p < n_np Hb → n_so Hb p < 5) (hd_nw : d_in w 0 (nI (n_nw Hb) - 1) = false) : MI l E yX3_wouldRing wsX3_wouldRing rm_X3_wouldRing [.ref (M 0), .int w, .int s] (wN E M (th, Hb, a, k)) (bI false) (wN E M (1, Hb, a, k)) := by
  refine k_bI (cc := cX3_wouldRing) (maxL := 4) (ret := (some .boolean)) (by decide) rfl (Nat.le_of_ble_eq_true rfl) ?_
  intro p9 e s9 m args below meth c A9 ls hC hl hw
  obtain ⟨hx, hb, hml, hr, hown, hts, hlocks, hK, hG, hA⟩ := hC
  have hl : lv_has ls 4 [(0, .ref (M 0)), (1, .int w), (2, .int s)] := hl
  refine lv_aload_n hx hb dX3_wouldRing_0 rfl (lv_at hl 0 rfl) ?_
  refine lv_iload_n hx hb dX3_wouldRing_1 rfl (lv_at hl 1 rfl) ?_
  refine lv_iload_n hx hb dX3_wouldRing_2 rfl (lv_at hl 2 rfl) ?_
  refine kr_i (ws' := wN E M (1, Hb, a, k)) (va_runV (As := [.int w, .int s]) (rest := []) ⟨hx, hb, hml, hown, hts⟩ (c_X3_canSight_1 l E M th Hb a k w s (by omega) (by omega) (by omega) (h4) (by omega) _) (cwV 2 hts gX3_wouldRing_X3_canSight rfl rfl rfl ⟨rfl, hd_X3_canSight⟩ ⟨Nat.le_of_ble_eq_true rfl, Nat.le_of_ble_eq_true rfl⟩) (pwV (ci := 3) (q0 := 0) (C := RX3) hw hK rfl rfl rfl (rpS (AV := [.ref (M 0), .int w, .int s]) hw hK hG rp_75)) rfl rfl hl.1 rfl (lv_room (Nat.le_of_ble_eq_true rfl)) dX3_wouldRing_3 ⟨Nat.le_of_ble_eq_true rfl, Nat.le_of_ble_eq_true rfl⟩) hw hA rp_76 (fun H locs hw => ?_)
  refine lv_if_ne (tgt := 11) hx hb dX3_wouldRing_6 (by decide) (fun q8 => absurd (by rw [(rfl : false = false)]; rfl) q8) (fun _ => ?_)
  refine lv_iconst (v := 0) hx hb dX3_wouldRing_9 (by decide) ?_
  exact k_iret hx hb hr hlocks hK hw rfl dX3_wouldRing_10 (by first | rfl | assumption | (simp only [if_true, if_false, Bool.false_eq_true, Bool.true_eq_false, reduceIte, reduceCtorEq]; done) | (simp only [if_true, if_false, Bool.false_eq_true, Bool.true_eq_false, reduceIte, reduceCtorEq]; rfl) | (simp [if_true, if_false, Bool.false_eq_true, Bool.true_eq_false, reduceIte, reduceCtorEq]; done) | (simp [bI, ]; done)) rfl
set_option maxHeartbeats 4000000 in
set_option maxRecDepth 100000 in
theorem c_X3_wouldRing_1b (l : Launch) (E : Ev) (M : Nat → Nat) (th : Int32) (Hb : MH) (a k : Fn) (w : Nat) (s : Int32) (h1 : n_ns Hb ≤ 5) (h2 : n_np Hb ≤ 16) (h3 : n_nw Hb ≤ 4) (h4 : ∀ p, p < n_np Hb → n_so Hb p < 5) (hv : w < n_nw Hb) (hd_ns : d_in s 0 (nI (n_ns Hb) - 1) = false) : MI l E yX3_wouldRing wsX3_wouldRing rm_X3_wouldRing [.ref (M 0), .int (nI w), .int s] (wN E M (th, Hb, a, k)) (bI false) (wN E M (1, Hb, a, k)) := by
  refine k_bI (cc := cX3_wouldRing) (maxL := 4) (ret := (some .boolean)) (by decide) rfl (Nat.le_of_ble_eq_true rfl) ?_
  intro p9 e s9 m args below meth c A9 ls hC hl hw
  obtain ⟨hx, hb, hml, hr, hown, hts, hlocks, hK, hG, hA⟩ := hC
  have hl : lv_has ls 4 [(0, .ref (M 0)), (1, .int (nI w)), (2, .int s)] := hl
  refine lv_aload_n hx hb dX3_wouldRing_0 rfl (lv_at hl 0 rfl) ?_
  refine lv_iload_n hx hb dX3_wouldRing_1 rfl (lv_at hl 1 rfl) ?_
  refine lv_iload_n hx hb dX3_wouldRing_2 rfl (lv_at hl 2 rfl) ?_
  refine kr_i (ws' := wN E M (1, Hb, a, k)) (va_runV (As := [.int (nI w), .int s]) (rest := []) ⟨hx, hb, hml, hown, hts⟩ (c_X3_canSight_1b l E M th Hb a k w s (by omega) (by omega) (by omega) (h4) (by omega) (by omega) _) (cwV 2 hts gX3_wouldRing_X3_canSight rfl rfl rfl ⟨rfl, hd_X3_canSight⟩ ⟨Nat.le_of_ble_eq_true rfl, Nat.le_of_ble_eq_true rfl⟩) (pwV (ci := 3) (q0 := 0) (C := RX3) hw hK rfl rfl rfl (rpS (AV := [.ref (M 0), .int (nI w), .int s]) hw hK hG rp_75)) rfl rfl hl.1 rfl (lv_room (Nat.le_of_ble_eq_true rfl)) dX3_wouldRing_3 ⟨Nat.le_of_ble_eq_true rfl, Nat.le_of_ble_eq_true rfl⟩) hw hA rp_76 (fun H locs hw => ?_)
  refine lv_if_ne (tgt := 11) hx hb dX3_wouldRing_6 (by decide) (fun q8 => absurd (by rw [(rfl : false = false)]; rfl) q8) (fun _ => ?_)
  refine lv_iconst (v := 0) hx hb dX3_wouldRing_9 (by decide) ?_
  exact k_iret hx hb hr hlocks hK hw rfl dX3_wouldRing_10 (by first | rfl | assumption | (simp only [if_true, if_false, Bool.false_eq_true, Bool.true_eq_false, reduceIte, reduceCtorEq]; done) | (simp only [if_true, if_false, Bool.false_eq_true, Bool.true_eq_false, reduceIte, reduceCtorEq]; rfl) | (simp [if_true, if_false, Bool.false_eq_true, Bool.true_eq_false, reduceIte, reduceCtorEq]; done) | (simp [bI, ]; done)) rfl
set_option maxHeartbeats 4000000 in
set_option maxRecDepth 100000 in
theorem c_X3_wouldRing_2 (l : Launch) (E : Ev) (M : Nat → Nat) (th : Int32) (Hb : MH) (a k : Fn) (w : Nat) (s : Nat) (h1 : n_ns Hb ≤ 5) (h2 : n_np Hb ≤ 16) (h3 : n_nw Hb ≤ 4) (h4 : ∀ p, p < n_np Hb → n_so Hb p < 5) (hv : w < n_nw Hb) (hs : s < n_ns Hb) (ho : d_out a s = false) : MI l E yX3_wouldRing wsX3_wouldRing rm_X3_wouldRing [.ref (M 0), .int (nI w), .int (nI s)] (wN E M (th, Hb, a, k)) (bI false) (wN E M (2, Hb, a, k)) := by
  refine k_bI (cc := cX3_wouldRing) (maxL := 4) (ret := (some .boolean)) (by decide) rfl (Nat.le_of_ble_eq_true rfl) ?_
  intro p9 e s9 m args below meth c A9 ls hC hl hw
  obtain ⟨hx, hb, hml, hr, hown, hts, hlocks, hK, hG, hA⟩ := hC
  have hl : lv_has ls 4 [(0, .ref (M 0)), (1, .int (nI w)), (2, .int (nI s))] := hl
  refine lv_aload_n hx hb dX3_wouldRing_0 rfl (lv_at hl 0 rfl) ?_
  refine lv_iload_n hx hb dX3_wouldRing_1 rfl (lv_at hl 1 rfl) ?_
  refine lv_iload_n hx hb dX3_wouldRing_2 rfl (lv_at hl 2 rfl) ?_
  refine kr_i (ws' := wN E M (2, Hb, a, k)) (va_runV (As := [.int (nI w), .int (nI s)]) (rest := []) ⟨hx, hb, hml, hown, hts⟩ (c_X3_canSight_2 l E M th Hb a k w s (by omega) (by omega) (by omega) (h4) (by omega) (by omega) (by omega) _) (cwV 2 hts gX3_wouldRing_X3_canSight rfl rfl rfl ⟨rfl, hd_X3_canSight⟩ ⟨Nat.le_of_ble_eq_true rfl, Nat.le_of_ble_eq_true rfl⟩) (pwV (ci := 3) (q0 := 0) (C := RX3) hw hK rfl rfl rfl (rpS (AV := [.ref (M 0), .int (nI w), .int (nI s)]) hw hK hG rp_75)) rfl rfl hl.1 rfl (lv_room (Nat.le_of_ble_eq_true rfl)) dX3_wouldRing_3 ⟨Nat.le_of_ble_eq_true rfl, Nat.le_of_ble_eq_true rfl⟩) hw hA rp_76 (fun H locs hw => ?_)
  refine lv_if_ne (tgt := 11) hx hb dX3_wouldRing_6 (by decide) (fun q8 => absurd (by rw [(rfl : false = false)]; rfl) q8) (fun _ => ?_)
  refine lv_iconst (v := 0) hx hb dX3_wouldRing_9 (by decide) ?_
  exact k_iret hx hb hr hlocks hK hw rfl dX3_wouldRing_10 (by first | rfl | assumption | (simp only [if_true, if_false, Bool.false_eq_true, Bool.true_eq_false, reduceIte, reduceCtorEq]; done) | (simp only [if_true, if_false, Bool.false_eq_true, Bool.true_eq_false, reduceIte, reduceCtorEq]; rfl) | (simp [if_true, if_false, Bool.false_eq_true, Bool.true_eq_false, reduceIte, reduceCtorEq]; done) | (simp [bI, ]; done)) rfl
set_option maxHeartbeats 4000000 in
set_option maxRecDepth 100000 in
theorem c_X3_wouldRing_2b (l : Launch) (E : Ev) (M : Nat → Nat) (th : Int32) (Hb : MH) (a k : Fn) (w : Nat) (s : Nat) (h1 : n_ns Hb ≤ 5) (h2 : n_np Hb ≤ 16) (h3 : n_nw Hb ≤ 4) (h4 : ∀ p, p < n_np Hb → n_so Hb p < 5) (hv : w < n_nw Hb) (hs : s < n_ns Hb) (ho : d_out a s = true) (hg : ¬ a (54 + 5 * w + s) = -1) : MI l E yX3_wouldRing wsX3_wouldRing rm_X3_wouldRing [.ref (M 0), .int (nI w), .int (nI s)] (wN E M (th, Hb, a, k)) (bI false) (wN E M (2, Hb, a, k)) := by
  refine k_bI (cc := cX3_wouldRing) (maxL := 4) (ret := (some .boolean)) (by decide) rfl (Nat.le_of_ble_eq_true rfl) ?_
  intro p9 e s9 m args below meth c A9 ls hC hl hw
  obtain ⟨hx, hb, hml, hr, hown, hts, hlocks, hK, hG, hA⟩ := hC
  have hl : lv_has ls 4 [(0, .ref (M 0)), (1, .int (nI w)), (2, .int (nI s))] := hl
  refine lv_aload_n hx hb dX3_wouldRing_0 rfl (lv_at hl 0 rfl) ?_
  refine lv_iload_n hx hb dX3_wouldRing_1 rfl (lv_at hl 1 rfl) ?_
  refine lv_iload_n hx hb dX3_wouldRing_2 rfl (lv_at hl 2 rfl) ?_
  refine kr_i (ws' := wN E M (2, Hb, a, k)) (va_runV (As := [.int (nI w), .int (nI s)]) (rest := []) ⟨hx, hb, hml, hown, hts⟩ (c_X3_canSight_2b l E M th Hb a k w s (by omega) (by omega) (by omega) (h4) (by omega) (by omega) (by omega) (by omega) _) (cwV 2 hts gX3_wouldRing_X3_canSight rfl rfl rfl ⟨rfl, hd_X3_canSight⟩ ⟨Nat.le_of_ble_eq_true rfl, Nat.le_of_ble_eq_true rfl⟩) (pwV (ci := 3) (q0 := 0) (C := RX3) hw hK rfl rfl rfl (rpS (AV := [.ref (M 0), .int (nI w), .int (nI s)]) hw hK hG rp_75)) rfl rfl hl.1 rfl (lv_room (Nat.le_of_ble_eq_true rfl)) dX3_wouldRing_3 ⟨Nat.le_of_ble_eq_true rfl, Nat.le_of_ble_eq_true rfl⟩) hw hA rp_76 (fun H locs hw => ?_)
  refine lv_if_ne (tgt := 11) hx hb dX3_wouldRing_6 (by decide) (fun q8 => absurd (by rw [(rfl : false = false)]; rfl) q8) (fun _ => ?_)
  refine lv_iconst (v := 0) hx hb dX3_wouldRing_9 (by decide) ?_
  exact k_iret hx hb hr hlocks hK hw rfl dX3_wouldRing_10 (by first | rfl | assumption | (simp only [if_true, if_false, Bool.false_eq_true, Bool.true_eq_false, reduceIte, reduceCtorEq]; done) | (simp only [if_true, if_false, Bool.false_eq_true, Bool.true_eq_false, reduceIte, reduceCtorEq]; rfl) | (simp [if_true, if_false, Bool.false_eq_true, Bool.true_eq_false, reduceIte, reduceCtorEq]; done) | (simp [bI, ]; done)) rfl
set_option maxHeartbeats 4000000 in
set_option maxRecDepth 100000 in
theorem c_X3_wouldRing (l : Launch) (E : Ev) (M : Nat → Nat) (th : Int32) (Hb : MH) (a k : Fn) (w : Nat) (s : Nat) (h1 : n_ns Hb ≤ 5) (h2 : n_np Hb ≤ 16) (h3 : n_nw Hb ≤ 4) (h4 : ∀ p, p < n_np Hb → n_so Hb p < 5) (hv : w < n_nw Hb) (hs : s < n_ns Hb) (ho : d_out a s = true) (hg : a (54 + 5 * w + s) = -1) : MI l E yX3_wouldRing wsX3_wouldRing rm_X3_wouldRing [.ref (M 0), .int (nI w), .int (nI s)] (wN E M (th, Hb, a, k)) (bI (r_sigB Hb a w s)) (wN E M (0, Hb, a, a)) := by
  refine k_bI (cc := cX3_wouldRing) (maxL := 4) (ret := (some .boolean)) (by decide) rfl (Nat.le_of_ble_eq_true rfl) ?_
  intro p9 e s9 m args below meth c A9 ls hC hl hw
  obtain ⟨hx, hb, hml, hr, hown, hts, hlocks, hK, hG, hA⟩ := hC
  have hl : lv_has ls 4 [(0, .ref (M 0)), (1, .int (nI w)), (2, .int (nI s))] := hl
  refine lv_aload_n hx hb dX3_wouldRing_0 rfl (lv_at hl 0 rfl) ?_
  refine lv_iload_n hx hb dX3_wouldRing_1 rfl (lv_at hl 1 rfl) ?_
  refine lv_iload_n hx hb dX3_wouldRing_2 rfl (lv_at hl 2 rfl) ?_
  refine kr_i (ws' := wN E M (0, Hb, a, k)) (va_runV (As := [.int (nI w), .int (nI s)]) (rest := []) ⟨hx, hb, hml, hown, hts⟩ (c_X3_canSight l E M th Hb a k w s (by omega) (by omega) (by omega) (h4) (by omega) (by omega) (by omega) (by omega) _) (cwV 2 hts gX3_wouldRing_X3_canSight rfl rfl rfl ⟨rfl, hd_X3_canSight⟩ ⟨Nat.le_of_ble_eq_true rfl, Nat.le_of_ble_eq_true rfl⟩) (pwV (ci := 3) (q0 := 0) (C := RX3) hw hK rfl rfl rfl (rpS (AV := [.ref (M 0), .int (nI w), .int (nI s)]) hw hK hG rp_75)) rfl rfl hl.1 rfl (lv_room (Nat.le_of_ble_eq_true rfl)) dX3_wouldRing_3 ⟨Nat.le_of_ble_eq_true rfl, Nat.le_of_ble_eq_true rfl⟩) hw hA rp_76 (fun H locs hw => ?_)
  refine lv_if_ne (tgt := 11) hx hb dX3_wouldRing_6 (by decide) (fun _ => ?_) (fun q8 => absurd q8 (fun q7 => absurd ((rfl : true = true).symm.trans (bI_z q7)) (by decide)))
  refine lv_aload_n hx hb dX3_wouldRing_11 rfl (lv_at hl 0 rfl) ?_
  refine kr_v (ws' := wN E M (0, Hb, a, a)) (va_runV (As := []) (rest := []) ⟨hx, hb, hml, hown, hts⟩ (c_X3_keep l E M 0 Hb a k  _) (cwV 0 hts gX3_wouldRing_X3_keep rfl rfl rfl ⟨rfl, hd_X3_keep⟩ ⟨Nat.le_of_ble_eq_true rfl, Nat.le_of_ble_eq_true rfl⟩) (pwV (ci := 3) (q0 := 0) (C := RX3) hw hK rfl rfl rfl (rpS (AV := [.ref (M 0)]) hw hK hG rp_75)) rfl rfl hl.1 rfl (lv_room (Nat.le_of_ble_eq_true rfl)) dX3_wouldRing_12 ⟨Nat.le_of_ble_eq_true rfl, Nat.le_of_ble_eq_true rfl⟩) hw hA rp_76 (fun H locs hw => ?_)
  refine lv_aload_n hx hb dX3_wouldRing_15 rfl (lv_at hl 0 rfl) ?_
  refine lv_iload_n hx hb dX3_wouldRing_16 rfl (lv_at hl 1 rfl) ?_
  refine lv_iload_n hx hb dX3_wouldRing_17 rfl (lv_at hl 2 rfl) ?_
  refine kr_i (ws' := wN E M (0, Hb, r_sig Hb a w s, a)) (va_runV (As := [.int (nI w), .int (nI s)]) (rest := []) ⟨hx, hb, hml, hown, hts⟩ (c_X3_sightNow l E M 0 Hb a a w s (by omega) (by omega) (by omega) (h4) (by omega) (by omega) _) (cwV 2 hts gX3_wouldRing_X3_sightNow rfl rfl rfl ⟨rfl, hd_X3_sightNow⟩ ⟨Nat.le_of_ble_eq_true rfl, Nat.le_of_ble_eq_true rfl⟩) (pwV (ci := 3) (q0 := 0) (C := RX3) hw hK rfl rfl rfl (rpS (AV := [.ref (M 0), .int (nI w), .int (nI s)]) hw hK hG rp_75)) rfl rfl hl.1 rfl (lv_room (Nat.le_of_ble_eq_true rfl)) dX3_wouldRing_18 ⟨Nat.le_of_ble_eq_true rfl, Nat.le_of_ble_eq_true rfl⟩) hw hA rp_76 (fun H locs hw => ?_)
  refine lv_istore_n (lv' := [(3, .int (bI (r_sigB Hb a w s))), (0, .ref (M 0)), (1, .int (nI w)), (2, .int (nI s))]) hx hb dX3_wouldRing_21 rfl hl (by decide) rfl (fun ls hl => ?_)
  refine lv_aload_n hx hb dX3_wouldRing_22 rfl (lv_at hl 1 rfl) ?_
  refine kr_v (ws' := wN E M (0, Hb, a, a)) (va_runV (As := []) (rest := []) ⟨hx, hb, hml, hown, hts⟩ (c_X3_bringBack l E M 0 Hb (r_sig Hb a w s) a  _) (cwV 0 hts gX3_wouldRing_X3_bringBack rfl rfl rfl ⟨rfl, hd_X3_bringBack⟩ ⟨Nat.le_of_ble_eq_true rfl, Nat.le_of_ble_eq_true rfl⟩) (pwV (ci := 3) (q0 := 0) (C := RX3) hw hK rfl rfl rfl (rpS (AV := [.ref (M 0)]) hw hK hG rp_75)) rfl rfl hl.1 rfl (lv_room (Nat.le_of_ble_eq_true rfl)) dX3_wouldRing_23 ⟨Nat.le_of_ble_eq_true rfl, Nat.le_of_ble_eq_true rfl⟩) hw hA rp_76 (fun H locs hw => ?_)
  refine lv_iload_n hx hb dX3_wouldRing_26 rfl (lv_at hl 0 rfl) ?_
  exact k_iret hx hb hr hlocks hK hw (bI_n _) dX3_wouldRing_27 rfl rfl
abbrev rm_X3_nightsUntilUnrung : Room := { frames := 4, cells := 0, slots := 0, locals := 86 }
set_option maxHeartbeats 4000000 in
set_option maxRecDepth 100000 in
theorem c_X3_nightsUntilUnrung_1 (l : Launch) (E : Ev) (M : Nat → Nat) (th : Int32) (Hb : MH) (a k : Fn) (s : Int32) (h1 : n_ns Hb ≤ 5) (h2 : n_np Hb ≤ 16) (h3 : n_nw Hb ≤ 4) (h4 : ∀ p, p < n_np Hb → n_so Hb p < 5) (hd_ns : d_in s 0 (nI (n_ns Hb) - 1) = false) : MI l E yX3_nightsUntilUnrung wsX3_nightsUntilUnrung rm_X3_nightsUntilUnrung [.ref (M 0), .int s] (wN E M (th, Hb, a, k)) 0 (wN E M (1, Hb, a, k)) := by
  refine k_bI (cc := cX3_nightsUntilUnrung) (maxL := 3) (ret := (some .int)) (by decide) rfl (Nat.le_of_ble_eq_true rfl) ?_
  intro p9 e s9 m args below meth c A9 ls hC hl hw
  obtain ⟨hx, hb, hml, hr, hown, hts, hlocks, hK, hG, hA⟩ := hC
  have hf29 := hts (.fieldLink RX3 29 "SailorCandlesModel" "thrown" "I") (List.mem_of_getElem? (i := 1) rfl)
  have hinX3 : ∀ w ∈ wsX30, w ∈ wsX3_nightsUntilUnrung := fun w h => List.mem_cons_of_mem _ (List.mem_append_right _ h)
  have hl : lv_has ls 3 [(0, .ref (M 0)), (1, .int s)] := hl
  refine lv_aload_n hx hb dX3_nightsUntilUnrung_0 rfl (lv_at hl 0 rfl) ?_
  refine lv_iconst (v := 0) hx hb dX3_nightsUntilUnrung_1 (by decide) ?_
  refine k_put (ci := 3) (C := RX3) (T := TX3) (N := 10) (ws' := wN E M (0, Hb, a, k)) hx hb hown hK hw hts hinX3 tyX3 tyX3_ok nmX3 0 rfl rfl 0 (by decide) hf29 rfl rfl (Nat.le_of_ble_eq_true rfl) dX3_nightsUntilUnrung_2 rfl (fun H locs hw => ?_)
  refine lv_aload_n hx hb dX3_nightsUntilUnrung_5 rfl (lv_at hl 0 rfl) ?_
  refine lv_iload_n hx hb dX3_nightsUntilUnrung_6 rfl (lv_at hl 1 rfl) ?_
  refine kr_i (ws' := wN E M (0, Hb, a, k)) (va_runV (As := [.int s]) (rest := []) ⟨hx, hb, hml, hown, hts⟩ (c_X3_isShip l E M 0 Hb a k s  _) (cwV 1 hts gX3_nightsUntilUnrung_X3_isShip rfl rfl rfl ⟨rfl, hd_X3_isShip⟩ ⟨Nat.le_of_ble_eq_true rfl, Nat.le_of_ble_eq_true rfl⟩) (pwV (ci := 3) (q0 := 0) (C := RX3) hw hK rfl rfl rfl (rpS (AV := [.ref (M 0), .int s]) hw hK hG rp_75)) rfl rfl hl.1 rfl (lv_room (Nat.le_of_ble_eq_true rfl)) dX3_nightsUntilUnrung_7 ⟨Nat.le_of_ble_eq_true rfl, Nat.le_of_ble_eq_true rfl⟩) hw hA rp_75 (fun H locs hw => ?_)
  refine lv_if_ne (tgt := 19) hx hb dX3_nightsUntilUnrung_10 (by decide) (fun q8 => absurd (by rw [hd_ns]; rfl) q8) (fun _ => ?_)
  refine lv_aload_n hx hb dX3_nightsUntilUnrung_13 rfl (lv_at hl 0 rfl) ?_
  refine lv_iconst (v := 1) hx hb dX3_nightsUntilUnrung_14 (by decide) ?_
  refine kr_i (ws' := wN E M (1, Hb, a, k)) (va_runV (As := [.int 1]) (rest := []) ⟨hx, hb, hml, hown, hts⟩ (c_X3_no l E M 0 Hb a k 1  _) (cwV 1 hts gX3_nightsUntilUnrung_X3_no rfl rfl rfl ⟨rfl, hd_X3_no⟩ ⟨Nat.le_of_ble_eq_true rfl, Nat.le_of_ble_eq_true rfl⟩) (pwV (ci := 3) (q0 := 0) (C := RX3) hw hK rfl rfl rfl (rpS (AV := [.ref (M 0), .int 1]) hw hK hG rp_75)) rfl rfl hl.1 rfl (lv_room (Nat.le_of_ble_eq_true rfl)) dX3_nightsUntilUnrung_15 ⟨Nat.le_of_ble_eq_true rfl, Nat.le_of_ble_eq_true rfl⟩) hw hA rp_76 (fun H locs hw => ?_)
  exact k_iret hx hb hr hlocks hK hw rfl dX3_nightsUntilUnrung_18 rfl rfl
set_option maxHeartbeats 4000000 in
set_option maxRecDepth 100000 in
theorem c_X3_nightsUntilUnrung_2 (l : Launch) (E : Ev) (M : Nat → Nat) (th : Int32) (Hb : MH) (a k : Fn) (s : Nat) (h1 : n_ns Hb ≤ 5) (h2 : n_np Hb ≤ 16) (h3 : n_nw Hb ≤ 4) (h4 : ∀ p, p < n_np Hb → n_so Hb p < 5) (hs : s < n_ns Hb) (hh : a (3 + 3 * s + 2) = 0) : MI l E yX3_nightsUntilUnrung wsX3_nightsUntilUnrung rm_X3_nightsUntilUnrung [.ref (M 0), .int (nI s)] (wN E M (th, Hb, a, k)) 0 (wN E M (2, Hb, a, k)) := by
  refine k_bI (cc := cX3_nightsUntilUnrung) (maxL := 3) (ret := (some .int)) (by decide) rfl (Nat.le_of_ble_eq_true rfl) ?_
  intro p9 e s9 m args below meth c A9 ls hC hl hw
  obtain ⟨hx, hb, hml, hr, hown, hts, hlocks, hK, hG, hA⟩ := hC
  have hf29 := hts (.fieldLink RX3 29 "SailorCandlesModel" "thrown" "I") (List.mem_of_getElem? (i := 1) rfl)
  have hinX3 : ∀ w ∈ wsX30, w ∈ wsX3_nightsUntilUnrung := fun w h => List.mem_cons_of_mem _ (List.mem_append_right _ h)
  have hf23 := hts (.fieldLink RX3 23 "SailorCandlesModel" "now" "[I") (List.mem_of_getElem? (i := 2) rfl)
  have hl : lv_has ls 3 [(0, .ref (M 0)), (1, .int (nI s))] := hl
  refine lv_aload_n hx hb dX3_nightsUntilUnrung_0 rfl (lv_at hl 0 rfl) ?_
  refine lv_iconst (v := 0) hx hb dX3_nightsUntilUnrung_1 (by decide) ?_
  refine k_put (ci := 3) (C := RX3) (T := TX3) (N := 10) (ws' := wN E M (0, Hb, a, k)) hx hb hown hK hw hts hinX3 tyX3 tyX3_ok nmX3 0 rfl rfl 0 (by decide) hf29 rfl rfl (Nat.le_of_ble_eq_true rfl) dX3_nightsUntilUnrung_2 rfl (fun H locs hw => ?_)
  refine lv_aload_n hx hb dX3_nightsUntilUnrung_5 rfl (lv_at hl 0 rfl) ?_
  refine lv_iload_n hx hb dX3_nightsUntilUnrung_6 rfl (lv_at hl 1 rfl) ?_
  refine kr_i (ws' := wN E M (0, Hb, a, k)) (va_runV (As := [.int (nI s)]) (rest := []) ⟨hx, hb, hml, hown, hts⟩ (c_X3_isShip l E M 0 Hb a k (nI s)  _) (cwV 1 hts gX3_nightsUntilUnrung_X3_isShip rfl rfl rfl ⟨rfl, hd_X3_isShip⟩ ⟨Nat.le_of_ble_eq_true rfl, Nat.le_of_ble_eq_true rfl⟩) (pwV (ci := 3) (q0 := 0) (C := RX3) hw hK rfl rfl rfl (rpS (AV := [.ref (M 0), .int (nI s)]) hw hK hG rp_75)) rfl rfl hl.1 rfl (lv_room (Nat.le_of_ble_eq_true rfl)) dX3_nightsUntilUnrung_7 ⟨Nat.le_of_ble_eq_true rfl, Nat.le_of_ble_eq_true rfl⟩) hw hA rp_75 (fun H locs hw => ?_)
  refine lv_if_ne (tgt := 19) hx hb dX3_nightsUntilUnrung_10 (by decide) (fun _ => ?_) (fun q8 => absurd q8 (fun q7 => absurd ((d_in_n (n := s) (k := n_ns Hb) (by omega) (by omega)).symm.trans (bI_z q7)) (by decide)))
  refine lv_aload_n hx hb dX3_nightsUntilUnrung_19 rfl (lv_at hl 0 rfl) ?_
  refine k_get (ci := 3) (v := .ref (M 5)) (C := RX3) (T := TX3) (N := 10) hx hb hown hK hw hts hinX3 0 rfl rfl 8 (by decide) hf23 rfl dX3_nightsUntilUnrung_20 ?_
  refine lv_iload_n hx hb dX3_nightsUntilUnrung_23 rfl (lv_at hl 1 rfl) ?_
  refine lv_iconst (v := 2) hx hb dX3_nightsUntilUnrung_24 (by decide) ?_
  refine kr_i (ws' := wN E M (0, Hb, a, k)) (va_runS (As := [.int (nI s), .int 2]) (rest := [.ref (M 5)]) ⟨hx, hb, hml, hown, hts⟩ (c_X3_ship l E s 2  _) (va_cwS 2 hts gX3_nightsUntilUnrung_X3_ship rfl rfl rfl hd_X3_ship ⟨Nat.le_of_ble_eq_true rfl, Nat.le_of_ble_eq_true rfl⟩) (rpS (AV := [.int (nI s), .int 2]) hw hK hG rp_74) rfl rfl hl.1 rfl (lv_room (Nat.le_of_ble_eq_true rfl)) dX3_nightsUntilUnrung_25 ⟨Nat.le_of_ble_eq_true rfl, Nat.le_of_ble_eq_true rfl⟩) hw hA rp_74 (fun H locs hw => ?_)
  refine k_ildN (i := 3 + 3 * s + 2) (f := a) hx hb hK hw 5 rfl (by omega) (by omega) dX3_nightsUntilUnrung_28 ?_
  refine lv_if_ne (tgt := 38) hx hb dX3_nightsUntilUnrung_29 (by decide) (fun q8 => absurd hh q8) (fun _ => ?_)
  refine lv_aload_n hx hb dX3_nightsUntilUnrung_32 rfl (lv_at hl 0 rfl) ?_
  refine lv_iconst (v := 2) hx hb dX3_nightsUntilUnrung_33 (by decide) ?_
  refine kr_i (ws' := wN E M (2, Hb, a, k)) (va_runV (As := [.int 2]) (rest := []) ⟨hx, hb, hml, hown, hts⟩ (c_X3_no l E M 0 Hb a k 2  _) (cwV 1 hts gX3_nightsUntilUnrung_X3_no rfl rfl rfl ⟨rfl, hd_X3_no⟩ ⟨Nat.le_of_ble_eq_true rfl, Nat.le_of_ble_eq_true rfl⟩) (pwV (ci := 3) (q0 := 0) (C := RX3) hw hK rfl rfl rfl (rpS (AV := [.ref (M 0), .int 2]) hw hK hG rp_75)) rfl rfl hl.1 rfl (lv_room (Nat.le_of_ble_eq_true rfl)) dX3_nightsUntilUnrung_34 ⟨Nat.le_of_ble_eq_true rfl, Nat.le_of_ble_eq_true rfl⟩) hw hA rp_76 (fun H locs hw => ?_)
  exact k_iret hx hb hr hlocks hK hw rfl dX3_nightsUntilUnrung_37 rfl rfl
set_option maxHeartbeats 4000000 in
set_option maxRecDepth 100000 in
theorem c_X3_nightsUntilUnrung (l : Launch) (E : Ev) (M : Nat → Nat) (th : Int32) (Hb : MH) (a k : Fn) (s : Nat) (K : Nat) (h1 : n_ns Hb ≤ 5) (h2 : n_np Hb ≤ 16) (h3 : n_nw Hb ≤ 4) (h4 : ∀ p, p < n_np Hb → n_so Hb p < 5) (hs : s < n_ns Hb) (hh : ¬ a (3 + 3 * s + 2) = 0) (hK1 : ∀ i, i < K → l_mpass Hb a i (3 + 3 * s + 2) = 1) (hK2 : ¬ l_mpass Hb a K (3 + 3 * s + 2) = 1) : MI l E yX3_nightsUntilUnrung wsX3_nightsUntilUnrung rm_X3_nightsUntilUnrung [.ref (M 0), .int (nI s)] (wN E M (th, Hb, a, k)) (nI K) (wN E M (0, Hb, a, a)) := by
  refine k_bI (cc := cX3_nightsUntilUnrung) (maxL := 3) (ret := (some .int)) (by decide) rfl (Nat.le_of_ble_eq_true rfl) ?_
  intro p9 e s9 m args below meth c A9 ls hC hl hw
  obtain ⟨hx, hb, hml, hr, hown, hts, hlocks, hK, hG, hA⟩ := hC
  have hf29 := hts (.fieldLink RX3 29 "SailorCandlesModel" "thrown" "I") (List.mem_of_getElem? (i := 1) rfl)
  have hinX3 : ∀ w ∈ wsX30, w ∈ wsX3_nightsUntilUnrung := fun w h => List.mem_cons_of_mem _ (List.mem_append_right _ h)
  have hf23 := hts (.fieldLink RX3 23 "SailorCandlesModel" "now" "[I") (List.mem_of_getElem? (i := 2) rfl)
  have hl : lv_has ls 3 [(0, .ref (M 0)), (1, .int (nI s))] := hl
  refine lv_aload_n hx hb dX3_nightsUntilUnrung_0 rfl (lv_at hl 0 rfl) ?_
  refine lv_iconst (v := 0) hx hb dX3_nightsUntilUnrung_1 (by decide) ?_
  refine k_put (ci := 3) (C := RX3) (T := TX3) (N := 10) (ws' := wN E M (0, Hb, a, k)) hx hb hown hK hw hts hinX3 tyX3 tyX3_ok nmX3 0 rfl rfl 0 (by decide) hf29 rfl rfl (Nat.le_of_ble_eq_true rfl) dX3_nightsUntilUnrung_2 rfl (fun H locs hw => ?_)
  refine lv_aload_n hx hb dX3_nightsUntilUnrung_5 rfl (lv_at hl 0 rfl) ?_
  refine lv_iload_n hx hb dX3_nightsUntilUnrung_6 rfl (lv_at hl 1 rfl) ?_
  refine kr_i (ws' := wN E M (0, Hb, a, k)) (va_runV (As := [.int (nI s)]) (rest := []) ⟨hx, hb, hml, hown, hts⟩ (c_X3_isShip l E M 0 Hb a k (nI s)  _) (cwV 1 hts gX3_nightsUntilUnrung_X3_isShip rfl rfl rfl ⟨rfl, hd_X3_isShip⟩ ⟨Nat.le_of_ble_eq_true rfl, Nat.le_of_ble_eq_true rfl⟩) (pwV (ci := 3) (q0 := 0) (C := RX3) hw hK rfl rfl rfl (rpS (AV := [.ref (M 0), .int (nI s)]) hw hK hG rp_75)) rfl rfl hl.1 rfl (lv_room (Nat.le_of_ble_eq_true rfl)) dX3_nightsUntilUnrung_7 ⟨Nat.le_of_ble_eq_true rfl, Nat.le_of_ble_eq_true rfl⟩) hw hA rp_75 (fun H locs hw => ?_)
  refine lv_if_ne (tgt := 19) hx hb dX3_nightsUntilUnrung_10 (by decide) (fun _ => ?_) (fun q8 => absurd q8 (fun q7 => absurd ((d_in_n (n := s) (k := n_ns Hb) (by omega) (by omega)).symm.trans (bI_z q7)) (by decide)))
  refine lv_aload_n hx hb dX3_nightsUntilUnrung_19 rfl (lv_at hl 0 rfl) ?_
  refine k_get (ci := 3) (v := .ref (M 5)) (C := RX3) (T := TX3) (N := 10) hx hb hown hK hw hts hinX3 0 rfl rfl 8 (by decide) hf23 rfl dX3_nightsUntilUnrung_20 ?_
  refine lv_iload_n hx hb dX3_nightsUntilUnrung_23 rfl (lv_at hl 1 rfl) ?_
  refine lv_iconst (v := 2) hx hb dX3_nightsUntilUnrung_24 (by decide) ?_
  refine kr_i (ws' := wN E M (0, Hb, a, k)) (va_runS (As := [.int (nI s), .int 2]) (rest := [.ref (M 5)]) ⟨hx, hb, hml, hown, hts⟩ (c_X3_ship l E s 2  _) (va_cwS 2 hts gX3_nightsUntilUnrung_X3_ship rfl rfl rfl hd_X3_ship ⟨Nat.le_of_ble_eq_true rfl, Nat.le_of_ble_eq_true rfl⟩) (rpS (AV := [.int (nI s), .int 2]) hw hK hG rp_74) rfl rfl hl.1 rfl (lv_room (Nat.le_of_ble_eq_true rfl)) dX3_nightsUntilUnrung_25 ⟨Nat.le_of_ble_eq_true rfl, Nat.le_of_ble_eq_true rfl⟩) hw hA rp_74 (fun H locs hw => ?_)
  refine k_ildN (i := 3 + 3 * s + 2) (f := a) hx hb hK hw 5 rfl (by omega) (by omega) dX3_nightsUntilUnrung_28 ?_
  refine lv_if_ne (tgt := 38) hx hb dX3_nightsUntilUnrung_29 (by decide) (fun _ => ?_) (fun q8 => absurd q8 hh)
  refine lv_aload_n hx hb dX3_nightsUntilUnrung_38 rfl (lv_at hl 0 rfl) ?_
  refine kr_v (ws' := wN E M (0, Hb, a, a)) (va_runV (As := []) (rest := []) ⟨hx, hb, hml, hown, hts⟩ (c_X3_keep l E M 0 Hb a k  _) (cwV 0 hts gX3_nightsUntilUnrung_X3_keep rfl rfl rfl ⟨rfl, hd_X3_keep⟩ ⟨Nat.le_of_ble_eq_true rfl, Nat.le_of_ble_eq_true rfl⟩) (pwV (ci := 3) (q0 := 0) (C := RX3) hw hK rfl rfl rfl (rpS (AV := [.ref (M 0)]) hw hK hG rp_75)) rfl rfl hl.1 rfl (lv_room (Nat.le_of_ble_eq_true rfl)) dX3_nightsUntilUnrung_39 ⟨Nat.le_of_ble_eq_true rfl, Nat.le_of_ble_eq_true rfl⟩) hw hA rp_76 (fun H locs hw => ?_)
  refine lv_iconst (v := 0) hx hb dX3_nightsUntilUnrung_42 (by decide) ?_
  refine lv_istore_n (lv' := [(2, .int 0), (0, .ref (M 0)), (1, .int (nI s))]) hx hb dX3_nightsUntilUnrung_43 rfl hl (by decide) rfl (fun ls hl => ?_)
  have L_44 : ∀ (k9 i : Nat) (H : Heap) (locs : List Loc) (ls : Array Slot), i + k9 = K → Wd E A9 s9.heap (wN E M (0, Hb, l_mpass Hb a i, a)) H locs → lv_has ls 3 [(0, .ref (M 0)), (1, .int (nI s)), (2, .int (nI i))] → W p9 l e rm_X3_nightsUntilUnrung s9 m args below meth c H locs 0 0 (EndI E A9 (nI K) (wN E M (0, Hb, a, a)) below args s9 (rm_X3_nightsUntilUnrung).cells (rm_X3_nightsUntilUnrung).slots) (F0 m 44 ls []) := by
    intro k9
    induction k9 with
    | zero =>
      intro i H locs ls hi hw hl
      have hz_1 : K = i := by omega
      refine lv_aload_n hx hb dX3_nightsUntilUnrung_44 rfl (lv_at hl 0 rfl) ?_
      refine k_get (ci := 3) (v := .ref (M 5)) (C := RX3) (T := TX3) (N := 10) hx hb hown hK hw hts hinX3 0 rfl rfl 8 (by decide) hf23 rfl dX3_nightsUntilUnrung_45 ?_
      refine lv_iload_n hx hb dX3_nightsUntilUnrung_48 rfl (lv_at hl 1 rfl) ?_
      refine lv_iconst (v := 2) hx hb dX3_nightsUntilUnrung_49 (by decide) ?_
      refine kr_i (ws' := wN E M (0, Hb, l_mpass Hb a i, a)) (va_runS (As := [.int (nI s), .int 2]) (rest := [.ref (M 5)]) ⟨hx, hb, hml, hown, hts⟩ (c_X3_ship l E s 2  _) (va_cwS 2 hts gX3_nightsUntilUnrung_X3_ship rfl rfl rfl hd_X3_ship ⟨Nat.le_of_ble_eq_true rfl, Nat.le_of_ble_eq_true rfl⟩) (rpS (AV := [.int (nI s), .int 2]) hw hK hG rp_74) rfl rfl hl.1 rfl (lv_room (Nat.le_of_ble_eq_true rfl)) dX3_nightsUntilUnrung_50 ⟨Nat.le_of_ble_eq_true rfl, Nat.le_of_ble_eq_true rfl⟩) hw hA rp_74 (fun H locs hw => ?_)
      refine k_ildN (i := 3 + 3 * s + 2) (f := l_mpass Hb a i) hx hb hK hw 5 rfl (by omega) (by omega) dX3_nightsUntilUnrung_53 ?_
      refine lv_iconst (v := 1) hx hb dX3_nightsUntilUnrung_54 (by decide) ?_
      refine lv_icmp_ne (tgt := 69) hx hb dX3_nightsUntilUnrung_55 (by decide) (fun _ => ?_) (fun q8 => absurd q8 (by rw [← hz_1]; exact hK2))
      refine lv_aload_n hx hb dX3_nightsUntilUnrung_69 rfl (lv_at hl 0 rfl) ?_
      refine kr_v (ws' := wN E M (0, Hb, a, a)) (va_runV (As := []) (rest := []) ⟨hx, hb, hml, hown, hts⟩ (c_X3_bringBack l E M 0 Hb (l_mpass Hb a i) a  _) (cwV 0 hts gX3_nightsUntilUnrung_X3_bringBack rfl rfl rfl ⟨rfl, hd_X3_bringBack⟩ ⟨Nat.le_of_ble_eq_true rfl, Nat.le_of_ble_eq_true rfl⟩) (pwV (ci := 3) (q0 := 0) (C := RX3) hw hK rfl rfl rfl (rpS (AV := [.ref (M 0)]) hw hK hG rp_75)) rfl rfl hl.1 rfl (lv_room (Nat.le_of_ble_eq_true rfl)) dX3_nightsUntilUnrung_70 ⟨Nat.le_of_ble_eq_true rfl, Nat.le_of_ble_eq_true rfl⟩) hw hA rp_76 (fun H locs hw => ?_)
      refine lv_iload_n hx hb dX3_nightsUntilUnrung_73 rfl (lv_at hl 2 rfl) ?_
      exact k_iret hx hb hr hlocks hK hw rfl dX3_nightsUntilUnrung_74 (by subst hz_1; first | rfl | assumption | (simp only [l_mpass, if_true, if_false, Bool.false_eq_true, Bool.true_eq_false, reduceIte, reduceCtorEq]; done) | (simp only [l_mpass, if_true, if_false, Bool.false_eq_true, Bool.true_eq_false, reduceIte, reduceCtorEq]; rfl) | (simp [l_mpass, if_true, if_false, Bool.false_eq_true, Bool.true_eq_false, reduceIte, reduceCtorEq]; done) | (simp [bI, l_mpass]; done)) rfl
    | succ k9 ih_44 =>
      intro i H locs ls hi hw hl
      have hi9 : i < K := by omega
      refine lv_aload_n hx hb dX3_nightsUntilUnrung_44 rfl (lv_at hl 0 rfl) ?_
      refine k_get (ci := 3) (v := .ref (M 5)) (C := RX3) (T := TX3) (N := 10) hx hb hown hK hw hts hinX3 0 rfl rfl 8 (by decide) hf23 rfl dX3_nightsUntilUnrung_45 ?_
      refine lv_iload_n hx hb dX3_nightsUntilUnrung_48 rfl (lv_at hl 1 rfl) ?_
      refine lv_iconst (v := 2) hx hb dX3_nightsUntilUnrung_49 (by decide) ?_
      refine kr_i (ws' := wN E M (0, Hb, l_mpass Hb a i, a)) (va_runS (As := [.int (nI s), .int 2]) (rest := [.ref (M 5)]) ⟨hx, hb, hml, hown, hts⟩ (c_X3_ship l E s 2  _) (va_cwS 2 hts gX3_nightsUntilUnrung_X3_ship rfl rfl rfl hd_X3_ship ⟨Nat.le_of_ble_eq_true rfl, Nat.le_of_ble_eq_true rfl⟩) (rpS (AV := [.int (nI s), .int 2]) hw hK hG rp_74) rfl rfl hl.1 rfl (lv_room (Nat.le_of_ble_eq_true rfl)) dX3_nightsUntilUnrung_50 ⟨Nat.le_of_ble_eq_true rfl, Nat.le_of_ble_eq_true rfl⟩) hw hA rp_74 (fun H locs hw => ?_)
      refine k_ildN (i := 3 + 3 * s + 2) (f := l_mpass Hb a i) hx hb hK hw 5 rfl (by omega) (by omega) dX3_nightsUntilUnrung_53 ?_
      refine lv_iconst (v := 1) hx hb dX3_nightsUntilUnrung_54 (by decide) ?_
      refine lv_icmp_ne (tgt := 69) hx hb dX3_nightsUntilUnrung_55 (by decide) (fun q8 => absurd (hK1 i hi9) q8) (fun _ => ?_)
      refine lv_aload_n hx hb dX3_nightsUntilUnrung_58 rfl (lv_at hl 0 rfl) ?_
      refine kr_i (ws' := wN E M (0, Hb, r_night Hb (l_mpass Hb a i), a)) (va_runV (As := []) (rest := []) ⟨hx, hb, hml, hown, hts⟩ (c_X3_nightOn l E M 0 Hb (l_mpass Hb a i) a (by omega) (by omega) (by omega) (h4) _) (cwV 0 hts gX3_nightsUntilUnrung_X3_nightOn rfl rfl rfl ⟨rfl, hd_X3_nightOn⟩ ⟨Nat.le_of_ble_eq_true rfl, Nat.le_of_ble_eq_true rfl⟩) (pwV (ci := 3) (q0 := 0) (C := RX3) hw hK rfl rfl rfl (rpS (AV := [.ref (M 0)]) hw hK hG rp_75)) rfl rfl hl.1 rfl (lv_room (Nat.le_of_ble_eq_true rfl)) dX3_nightsUntilUnrung_59 ⟨Nat.le_of_ble_eq_true rfl, Nat.le_of_ble_eq_true rfl⟩) hw hA rp_76 (fun H locs hw => ?_)
      refine lv_pop hx hb dX3_nightsUntilUnrung_62 rfl ?_
      refine lv_iinc (v := nI (i + 1)) (lv' := [(2, .int (nI (i + 1))), (0, .ref (M 0)), (1, .int (nI s))]) hx hb dX3_nightsUntilUnrung_63 hl (k := 2) rfl (nI_add i 1) (by decide) rfl (fun ls hl => ?_)
      refine lv_goto (tgt := 44) hx hb dX3_nightsUntilUnrung_66 (by decide) ?_
      exact ih_44 (i + 1) _ _ _ (by omega) (hw.to (by first | rfl | assumption | (simp only [l_mpass, if_true, if_false, Bool.false_eq_true, Bool.true_eq_false, reduceIte, reduceCtorEq]; done) | (simp only [l_mpass, if_true, if_false, Bool.false_eq_true, Bool.true_eq_false, reduceIte, reduceCtorEq]; rfl) | (simp [l_mpass, if_true, if_false, Bool.false_eq_true, Bool.true_eq_false, reduceIte, reduceCtorEq]; done) | (simp [bI, l_mpass]; done))) (lv_sub hl [1, 2, 0] rfl)
  exact L_44 (K - 0) 0 _ _ _ (by omega) hw (lv_sub hl [1, 2, 0] rfl)
