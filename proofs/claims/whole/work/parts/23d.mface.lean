abbrev rm_X3_vote : Room := { frames := 2, cells := 0, slots := 0, locals := 45 }
set_option maxHeartbeats 4000000 in
set_option maxRecDepth 100000 in
theorem c_X3_vote_1 (l : Launch) (E : Ev) (M : Nat → Nat) (th : Int32) (Hb : MH) (a k : Fn) (p : Int32) (v : Bool) (h1 : n_ns Hb ≤ 5) (h2 : n_np Hb ≤ 16) (h3 : n_nw Hb ≤ 4) (h4 : ∀ p, p < n_np Hb → n_so Hb p < 5) (hd_np : d_in p 0 (nI (n_np Hb) - 1) = false) : MI l E yX3_vote wsX3_vote rm_X3_vote [.ref (M 0), .int p, .int (bI v)] (wN E M (th, Hb, a, k)) 0 (wN E M (1, Hb, a, k)) := by
  refine k_bI (cc := cX3_vote) (maxL := 3) (ret := (some .int)) (by decide) rfl (Nat.le_of_ble_eq_true rfl) ?_
  intro p9 e s9 m args below meth c A9 ls hC hl hw
  obtain ⟨hx, hb, hml, hr, hown, hts, hlocks, hK, hG, hA⟩ := hC
  have hf29 := hts (.fieldLink RX3 29 "SailorCandlesModel" "thrown" "I") (List.mem_of_getElem? (i := 1) rfl)
  have hinX3 : ∀ w ∈ wsX30, w ∈ wsX3_vote := fun w h => List.mem_cons_of_mem _ (List.mem_append_right _ h)
  have hl : lv_has ls 3 [(0, .ref (M 0)), (1, .int p), (2, .int (bI v))] := hl
  refine lv_aload_n hx hb dX3_vote_0 rfl (lv_at hl 0 rfl) ?_
  refine lv_iconst (v := 0) hx hb dX3_vote_1 (by decide) ?_
  refine k_put (ci := 3) (C := RX3) (T := TX3) (N := 10) (ws' := wN E M (0, Hb, a, k)) hx hb hown hK hw hts hinX3 tyX3 tyX3_ok nmX3 0 rfl rfl 0 (by decide) hf29 rfl rfl (Nat.le_of_ble_eq_true rfl) dX3_vote_2 rfl (fun H locs hw => ?_)
  refine lv_aload_n hx hb dX3_vote_5 rfl (lv_at hl 0 rfl) ?_
  refine lv_iload_n hx hb dX3_vote_6 rfl (lv_at hl 1 rfl) ?_
  refine kr_i (ws' := wN E M (0, Hb, a, k)) (va_runV (As := [.int p]) (rest := []) ⟨hx, hb, hml, hown, hts⟩ (c_X3_isSailor l E M 0 Hb a k p  _) (cwV 1 hts gX3_vote_X3_isSailor rfl rfl rfl ⟨rfl, hd_X3_isSailor⟩ ⟨Nat.le_of_ble_eq_true rfl, Nat.le_of_ble_eq_true rfl⟩) (pwV (ci := 3) (q0 := 0) (C := RX3) hw hK rfl rfl rfl (rpS (AV := [.ref (M 0), .int p]) hw hK hG rp_75)) rfl rfl hl.1 rfl (lv_room (Nat.le_of_ble_eq_true rfl)) dX3_vote_7 ⟨Nat.le_of_ble_eq_true rfl, Nat.le_of_ble_eq_true rfl⟩) hw hA rp_75 (fun H locs hw => ?_)
  refine lv_if_ne (tgt := 19) hx hb dX3_vote_10 (by decide) (fun q8 => absurd (by rw [hd_np]; rfl) q8) (fun _ => ?_)
  refine lv_aload_n hx hb dX3_vote_13 rfl (lv_at hl 0 rfl) ?_
  refine lv_iconst (v := 1) hx hb dX3_vote_14 (by decide) ?_
  refine kr_i (ws' := wN E M (1, Hb, a, k)) (va_runV (As := [.int 1]) (rest := []) ⟨hx, hb, hml, hown, hts⟩ (c_X3_no l E M 0 Hb a k 1  _) (cwV 1 hts gX3_vote_X3_no rfl rfl rfl ⟨rfl, hd_X3_no⟩ ⟨Nat.le_of_ble_eq_true rfl, Nat.le_of_ble_eq_true rfl⟩) (pwV (ci := 3) (q0 := 0) (C := RX3) hw hK rfl rfl rfl (rpS (AV := [.ref (M 0), .int 1]) hw hK hG rp_75)) rfl rfl hl.1 rfl (lv_room (Nat.le_of_ble_eq_true rfl)) dX3_vote_15 ⟨Nat.le_of_ble_eq_true rfl, Nat.le_of_ble_eq_true rfl⟩) hw hA rp_76 (fun H locs hw => ?_)
  exact k_iret hx hb hr hlocks hK hw rfl dX3_vote_18 rfl rfl
set_option maxHeartbeats 4000000 in
set_option maxRecDepth 100000 in
theorem c_X3_vote_2 (l : Launch) (E : Ev) (M : Nat → Nat) (th : Int32) (Hb : MH) (a k : Fn) (p : Nat) (v : Bool) (h1 : n_ns Hb ≤ 5) (h2 : n_np Hb ≤ 16) (h3 : n_nw Hb ≤ 4) (h4 : ∀ p, p < n_np Hb → n_so Hb p < 5) (hp : p < n_np Hb) (hv1 : n_vo Hb p = false) : MI l E yX3_vote wsX3_vote rm_X3_vote [.ref (M 0), .int (nI p), .int (bI v)] (wN E M (th, Hb, a, k)) 0 (wN E M (2, Hb, a, k)) := by
  refine k_bI (cc := cX3_vote) (maxL := 3) (ret := (some .int)) (by decide) rfl (Nat.le_of_ble_eq_true rfl) ?_
  intro p9 e s9 m args below meth c A9 ls hC hl hw
  obtain ⟨hx, hb, hml, hr, hown, hts, hlocks, hK, hG, hA⟩ := hC
  have hf29 := hts (.fieldLink RX3 29 "SailorCandlesModel" "thrown" "I") (List.mem_of_getElem? (i := 1) rfl)
  have hinX3 : ∀ w ∈ wsX30, w ∈ wsX3_vote := fun w h => List.mem_cons_of_mem _ (List.mem_append_right _ h)
  have hf19 := hts (.fieldLink RX3 19 "SailorCandlesModel" "voter" "[Z") (List.mem_of_getElem? (i := 2) rfl)
  have hl : lv_has ls 3 [(0, .ref (M 0)), (1, .int (nI p)), (2, .int (bI v))] := hl
  refine lv_aload_n hx hb dX3_vote_0 rfl (lv_at hl 0 rfl) ?_
  refine lv_iconst (v := 0) hx hb dX3_vote_1 (by decide) ?_
  refine k_put (ci := 3) (C := RX3) (T := TX3) (N := 10) (ws' := wN E M (0, Hb, a, k)) hx hb hown hK hw hts hinX3 tyX3 tyX3_ok nmX3 0 rfl rfl 0 (by decide) hf29 rfl rfl (Nat.le_of_ble_eq_true rfl) dX3_vote_2 rfl (fun H locs hw => ?_)
  refine lv_aload_n hx hb dX3_vote_5 rfl (lv_at hl 0 rfl) ?_
  refine lv_iload_n hx hb dX3_vote_6 rfl (lv_at hl 1 rfl) ?_
  refine kr_i (ws' := wN E M (0, Hb, a, k)) (va_runV (As := [.int (nI p)]) (rest := []) ⟨hx, hb, hml, hown, hts⟩ (c_X3_isSailor l E M 0 Hb a k (nI p)  _) (cwV 1 hts gX3_vote_X3_isSailor rfl rfl rfl ⟨rfl, hd_X3_isSailor⟩ ⟨Nat.le_of_ble_eq_true rfl, Nat.le_of_ble_eq_true rfl⟩) (pwV (ci := 3) (q0 := 0) (C := RX3) hw hK rfl rfl rfl (rpS (AV := [.ref (M 0), .int (nI p)]) hw hK hG rp_75)) rfl rfl hl.1 rfl (lv_room (Nat.le_of_ble_eq_true rfl)) dX3_vote_7 ⟨Nat.le_of_ble_eq_true rfl, Nat.le_of_ble_eq_true rfl⟩) hw hA rp_75 (fun H locs hw => ?_)
  refine lv_if_ne (tgt := 19) hx hb dX3_vote_10 (by decide) (fun _ => ?_) (fun q8 => absurd q8 (fun q7 => absurd ((d_in_n (n := p) (k := n_np Hb) (by omega) (by omega)).symm.trans (bI_z q7)) (by decide)))
  refine lv_aload_n hx hb dX3_vote_19 rfl (lv_at hl 0 rfl) ?_
  refine k_get (ci := 3) (v := .ref (M 4)) (C := RX3) (T := TX3) (N := 10) hx hb hown hK hw hts hinX3 0 rfl rfl 6 (by decide) hf19 rfl dX3_vote_20 ?_
  refine lv_iload_n hx hb dX3_vote_23 rfl (lv_at hl 1 rfl) ?_
  refine k_zldN (i := p) (f := n_vo Hb) hx hb hK hw 4 rfl (by omega) (by omega) dX3_vote_24 ?_
  refine lv_if_eq (tgt := 41) hx hb dX3_vote_25 (by decide) (fun _ => ?_) (fun q8 => absurd (by rw [hv1]; rfl) q8)
  refine lv_aload_n hx hb dX3_vote_41 rfl (lv_at hl 0 rfl) ?_
  refine lv_iconst (v := 2) hx hb dX3_vote_42 (by decide) ?_
  refine kr_i (ws' := wN E M (2, Hb, a, k)) (va_runV (As := [.int 2]) (rest := []) ⟨hx, hb, hml, hown, hts⟩ (c_X3_no l E M 0 Hb a k 2  _) (cwV 1 hts gX3_vote_X3_no rfl rfl rfl ⟨rfl, hd_X3_no⟩ ⟨Nat.le_of_ble_eq_true rfl, Nat.le_of_ble_eq_true rfl⟩) (pwV (ci := 3) (q0 := 0) (C := RX3) hw hK rfl rfl rfl (rpS (AV := [.ref (M 0), .int 2]) hw hK hG rp_75)) rfl rfl hl.1 rfl (lv_room (Nat.le_of_ble_eq_true rfl)) dX3_vote_43 ⟨Nat.le_of_ble_eq_true rfl, Nat.le_of_ble_eq_true rfl⟩) hw hA rp_76 (fun H locs hw => ?_)
  exact k_iret hx hb hr hlocks hK hw rfl dX3_vote_46 rfl rfl
set_option maxHeartbeats 4000000 in
set_option maxRecDepth 100000 in
theorem c_X3_vote_2b (l : Launch) (E : Ev) (M : Nat → Nat) (th : Int32) (Hb : MH) (a k : Fn) (p : Nat) (v : Bool) (h1 : n_ns Hb ≤ 5) (h2 : n_np Hb ≤ 16) (h3 : n_nw Hb ≤ 4) (h4 : ∀ p, p < n_np Hb → n_so Hb p < 5) (hp : p < n_np Hb) (hv1 : n_vo Hb p = true) (ho : d_out a (n_so Hb p) = false) : MI l E yX3_vote wsX3_vote rm_X3_vote [.ref (M 0), .int (nI p), .int (bI v)] (wN E M (th, Hb, a, k)) 0 (wN E M (2, Hb, a, k)) := by
  refine k_bI (cc := cX3_vote) (maxL := 3) (ret := (some .int)) (by decide) rfl (Nat.le_of_ble_eq_true rfl) ?_
  intro p9 e s9 m args below meth c A9 ls hC hl hw
  obtain ⟨hx, hb, hml, hr, hown, hts, hlocks, hK, hG, hA⟩ := hC
  have hf29 := hts (.fieldLink RX3 29 "SailorCandlesModel" "thrown" "I") (List.mem_of_getElem? (i := 1) rfl)
  have hinX3 : ∀ w ∈ wsX30, w ∈ wsX3_vote := fun w h => List.mem_cons_of_mem _ (List.mem_append_right _ h)
  have hf19 := hts (.fieldLink RX3 19 "SailorCandlesModel" "voter" "[Z") (List.mem_of_getElem? (i := 2) rfl)
  have hf13 := hts (.fieldLink RX3 13 "SailorCandlesModel" "shipOf" "[I") (List.mem_of_getElem? (i := 3) rfl)
  have hl : lv_has ls 3 [(0, .ref (M 0)), (1, .int (nI p)), (2, .int (bI v))] := hl
  refine lv_aload_n hx hb dX3_vote_0 rfl (lv_at hl 0 rfl) ?_
  refine lv_iconst (v := 0) hx hb dX3_vote_1 (by decide) ?_
  refine k_put (ci := 3) (C := RX3) (T := TX3) (N := 10) (ws' := wN E M (0, Hb, a, k)) hx hb hown hK hw hts hinX3 tyX3 tyX3_ok nmX3 0 rfl rfl 0 (by decide) hf29 rfl rfl (Nat.le_of_ble_eq_true rfl) dX3_vote_2 rfl (fun H locs hw => ?_)
  refine lv_aload_n hx hb dX3_vote_5 rfl (lv_at hl 0 rfl) ?_
  refine lv_iload_n hx hb dX3_vote_6 rfl (lv_at hl 1 rfl) ?_
  refine kr_i (ws' := wN E M (0, Hb, a, k)) (va_runV (As := [.int (nI p)]) (rest := []) ⟨hx, hb, hml, hown, hts⟩ (c_X3_isSailor l E M 0 Hb a k (nI p)  _) (cwV 1 hts gX3_vote_X3_isSailor rfl rfl rfl ⟨rfl, hd_X3_isSailor⟩ ⟨Nat.le_of_ble_eq_true rfl, Nat.le_of_ble_eq_true rfl⟩) (pwV (ci := 3) (q0 := 0) (C := RX3) hw hK rfl rfl rfl (rpS (AV := [.ref (M 0), .int (nI p)]) hw hK hG rp_75)) rfl rfl hl.1 rfl (lv_room (Nat.le_of_ble_eq_true rfl)) dX3_vote_7 ⟨Nat.le_of_ble_eq_true rfl, Nat.le_of_ble_eq_true rfl⟩) hw hA rp_75 (fun H locs hw => ?_)
  refine lv_if_ne (tgt := 19) hx hb dX3_vote_10 (by decide) (fun _ => ?_) (fun q8 => absurd q8 (fun q7 => absurd ((d_in_n (n := p) (k := n_np Hb) (by omega) (by omega)).symm.trans (bI_z q7)) (by decide)))
  refine lv_aload_n hx hb dX3_vote_19 rfl (lv_at hl 0 rfl) ?_
  refine k_get (ci := 3) (v := .ref (M 4)) (C := RX3) (T := TX3) (N := 10) hx hb hown hK hw hts hinX3 0 rfl rfl 6 (by decide) hf19 rfl dX3_vote_20 ?_
  refine lv_iload_n hx hb dX3_vote_23 rfl (lv_at hl 1 rfl) ?_
  refine k_zldN (i := p) (f := n_vo Hb) hx hb hK hw 4 rfl (by omega) (by omega) dX3_vote_24 ?_
  refine lv_if_eq (tgt := 41) hx hb dX3_vote_25 (by decide) (fun q8 => absurd q8 (fun q7 => absurd (hv1.symm.trans (bI_z q7)) (by decide))) (fun _ => ?_)
  refine lv_aload_n hx hb dX3_vote_28 rfl (lv_at hl 0 rfl) ?_
  refine lv_aload_n hx hb dX3_vote_29 rfl (lv_at hl 0 rfl) ?_
  refine k_get (ci := 3) (v := .ref (M 2)) (C := RX3) (T := TX3) (N := 10) hx hb hown hK hw hts hinX3 0 rfl rfl 4 (by decide) hf13 rfl dX3_vote_30 ?_
  refine lv_iload_n hx hb dX3_vote_33 rfl (lv_at hl 1 rfl) ?_
  refine k_nldN (i := p) (f := n_so Hb) hx hb hK hw 2 rfl (by omega) (by omega) dX3_vote_34 ?_
  refine kr_i (ws' := wN E M (0, Hb, a, k)) (va_runV (As := [.int (nI (n_so Hb p))]) (rest := []) ⟨hx, hb, hml, hown, hts⟩ (c_X3_isOut l E M 0 Hb a k (n_so Hb p) (by omega) (by omega) (by omega) (h4) (by have := h4 p (by omega); omega) _) (cwV 1 hts gX3_vote_X3_isOut rfl rfl rfl ⟨rfl, hd_X3_isOut⟩ ⟨Nat.le_of_ble_eq_true rfl, Nat.le_of_ble_eq_true rfl⟩) (pwV (ci := 3) (q0 := 0) (C := RX3) hw hK rfl rfl rfl (rpS (AV := [.ref (M 0), .int (nI (n_so Hb p))]) hw hK hG rp_75)) rfl rfl hl.1 rfl (lv_room (Nat.le_of_ble_eq_true rfl)) dX3_vote_35 ⟨Nat.le_of_ble_eq_true rfl, Nat.le_of_ble_eq_true rfl⟩) hw hA rp_75 (fun H locs hw => ?_)
  refine lv_if_ne (tgt := 47) hx hb dX3_vote_38 (by decide) (fun q8 => absurd (by rw [ho]; rfl) q8) (fun _ => ?_)
  refine lv_aload_n hx hb dX3_vote_41 rfl (lv_at hl 0 rfl) ?_
  refine lv_iconst (v := 2) hx hb dX3_vote_42 (by decide) ?_
  refine kr_i (ws' := wN E M (2, Hb, a, k)) (va_runV (As := [.int 2]) (rest := []) ⟨hx, hb, hml, hown, hts⟩ (c_X3_no l E M 0 Hb a k 2  _) (cwV 1 hts gX3_vote_X3_no rfl rfl rfl ⟨rfl, hd_X3_no⟩ ⟨Nat.le_of_ble_eq_true rfl, Nat.le_of_ble_eq_true rfl⟩) (pwV (ci := 3) (q0 := 0) (C := RX3) hw hK rfl rfl rfl (rpS (AV := [.ref (M 0), .int 2]) hw hK hG rp_75)) rfl rfl hl.1 rfl (lv_room (Nat.le_of_ble_eq_true rfl)) dX3_vote_43 ⟨Nat.le_of_ble_eq_true rfl, Nat.le_of_ble_eq_true rfl⟩) hw hA rp_76 (fun H locs hw => ?_)
  exact k_iret hx hb hr hlocks hK hw rfl dX3_vote_46 rfl rfl
set_option maxHeartbeats 4000000 in
set_option maxRecDepth 100000 in
theorem c_X3_vote (l : Launch) (E : Ev) (M : Nat → Nat) (th : Int32) (Hb : MH) (a k : Fn) (p : Nat) (v : Bool) (h1 : n_ns Hb ≤ 5) (h2 : n_np Hb ≤ 16) (h3 : n_nw Hb ≤ 4) (h4 : ∀ p, p < n_np Hb → n_so Hb p < 5) (hp : p < n_np Hb) (hv1 : n_vo Hb p = true) (ho : d_out a (n_so Hb p) = true) : MI l E yX3_vote wsX3_vote rm_X3_vote [.ref (M 0), .int (nI p), .int (bI v)] (wN E M (th, Hb, a, k)) (l_mvo Hb (r_vote a p v) (n_so Hb p) true (n_np Hb)) (wN E M (0, Hb, r_vote a p v, k)) := by
  refine k_bI (cc := cX3_vote) (maxL := 3) (ret := (some .int)) (by decide) rfl (Nat.le_of_ble_eq_true rfl) ?_
  intro p9 e s9 m args below meth c A9 ls hC hl hw
  obtain ⟨hx, hb, hml, hr, hown, hts, hlocks, hK, hG, hA⟩ := hC
  have hf29 := hts (.fieldLink RX3 29 "SailorCandlesModel" "thrown" "I") (List.mem_of_getElem? (i := 1) rfl)
  have hinX3 : ∀ w ∈ wsX30, w ∈ wsX3_vote := fun w h => List.mem_cons_of_mem _ (List.mem_append_right _ h)
  have hf19 := hts (.fieldLink RX3 19 "SailorCandlesModel" "voter" "[Z") (List.mem_of_getElem? (i := 2) rfl)
  have hf13 := hts (.fieldLink RX3 13 "SailorCandlesModel" "shipOf" "[I") (List.mem_of_getElem? (i := 3) rfl)
  have hf23 := hts (.fieldLink RX3 23 "SailorCandlesModel" "now" "[I") (List.mem_of_getElem? (i := 4) rfl)
  have hl : lv_has ls 3 [(0, .ref (M 0)), (1, .int (nI p)), (2, .int (bI v))] := hl
  refine lv_aload_n hx hb dX3_vote_0 rfl (lv_at hl 0 rfl) ?_
  refine lv_iconst (v := 0) hx hb dX3_vote_1 (by decide) ?_
  refine k_put (ci := 3) (C := RX3) (T := TX3) (N := 10) (ws' := wN E M (0, Hb, a, k)) hx hb hown hK hw hts hinX3 tyX3 tyX3_ok nmX3 0 rfl rfl 0 (by decide) hf29 rfl rfl (Nat.le_of_ble_eq_true rfl) dX3_vote_2 rfl (fun H locs hw => ?_)
  refine lv_aload_n hx hb dX3_vote_5 rfl (lv_at hl 0 rfl) ?_
  refine lv_iload_n hx hb dX3_vote_6 rfl (lv_at hl 1 rfl) ?_
  refine kr_i (ws' := wN E M (0, Hb, a, k)) (va_runV (As := [.int (nI p)]) (rest := []) ⟨hx, hb, hml, hown, hts⟩ (c_X3_isSailor l E M 0 Hb a k (nI p)  _) (cwV 1 hts gX3_vote_X3_isSailor rfl rfl rfl ⟨rfl, hd_X3_isSailor⟩ ⟨Nat.le_of_ble_eq_true rfl, Nat.le_of_ble_eq_true rfl⟩) (pwV (ci := 3) (q0 := 0) (C := RX3) hw hK rfl rfl rfl (rpS (AV := [.ref (M 0), .int (nI p)]) hw hK hG rp_75)) rfl rfl hl.1 rfl (lv_room (Nat.le_of_ble_eq_true rfl)) dX3_vote_7 ⟨Nat.le_of_ble_eq_true rfl, Nat.le_of_ble_eq_true rfl⟩) hw hA rp_75 (fun H locs hw => ?_)
  refine lv_if_ne (tgt := 19) hx hb dX3_vote_10 (by decide) (fun _ => ?_) (fun q8 => absurd q8 (fun q7 => absurd ((d_in_n (n := p) (k := n_np Hb) (by omega) (by omega)).symm.trans (bI_z q7)) (by decide)))
  refine lv_aload_n hx hb dX3_vote_19 rfl (lv_at hl 0 rfl) ?_
  refine k_get (ci := 3) (v := .ref (M 4)) (C := RX3) (T := TX3) (N := 10) hx hb hown hK hw hts hinX3 0 rfl rfl 6 (by decide) hf19 rfl dX3_vote_20 ?_
  refine lv_iload_n hx hb dX3_vote_23 rfl (lv_at hl 1 rfl) ?_
  refine k_zldN (i := p) (f := n_vo Hb) hx hb hK hw 4 rfl (by omega) (by omega) dX3_vote_24 ?_
  refine lv_if_eq (tgt := 41) hx hb dX3_vote_25 (by decide) (fun q8 => absurd q8 (fun q7 => absurd (hv1.symm.trans (bI_z q7)) (by decide))) (fun _ => ?_)
  refine lv_aload_n hx hb dX3_vote_28 rfl (lv_at hl 0 rfl) ?_
  refine lv_aload_n hx hb dX3_vote_29 rfl (lv_at hl 0 rfl) ?_
  refine k_get (ci := 3) (v := .ref (M 2)) (C := RX3) (T := TX3) (N := 10) hx hb hown hK hw hts hinX3 0 rfl rfl 4 (by decide) hf13 rfl dX3_vote_30 ?_
  refine lv_iload_n hx hb dX3_vote_33 rfl (lv_at hl 1 rfl) ?_
  refine k_nldN (i := p) (f := n_so Hb) hx hb hK hw 2 rfl (by omega) (by omega) dX3_vote_34 ?_
  refine kr_i (ws' := wN E M (0, Hb, a, k)) (va_runV (As := [.int (nI (n_so Hb p))]) (rest := []) ⟨hx, hb, hml, hown, hts⟩ (c_X3_isOut l E M 0 Hb a k (n_so Hb p) (by omega) (by omega) (by omega) (h4) (by have := h4 p (by omega); omega) _) (cwV 1 hts gX3_vote_X3_isOut rfl rfl rfl ⟨rfl, hd_X3_isOut⟩ ⟨Nat.le_of_ble_eq_true rfl, Nat.le_of_ble_eq_true rfl⟩) (pwV (ci := 3) (q0 := 0) (C := RX3) hw hK rfl rfl rfl (rpS (AV := [.ref (M 0), .int (nI (n_so Hb p))]) hw hK hG rp_75)) rfl rfl hl.1 rfl (lv_room (Nat.le_of_ble_eq_true rfl)) dX3_vote_35 ⟨Nat.le_of_ble_eq_true rfl, Nat.le_of_ble_eq_true rfl⟩) hw hA rp_75 (fun H locs hw => ?_)
  refine lv_if_ne (tgt := 47) hx hb dX3_vote_38 (by decide) (fun _ => ?_) (fun q8 => absurd q8 (fun q7 => absurd (ho.symm.trans (bI_z q7)) (by decide)))
  refine lv_aload_n hx hb dX3_vote_47 rfl (lv_at hl 0 rfl) ?_
  refine k_get (ci := 3) (v := .ref (M 5)) (C := RX3) (T := TX3) (N := 10) hx hb hown hK hw hts hinX3 0 rfl rfl 8 (by decide) hf23 rfl dX3_vote_48 ?_
  refine lv_iload_n hx hb dX3_vote_51 rfl (lv_at hl 1 rfl) ?_
  refine lv_iconst (v := 1) hx hb dX3_vote_52 (by decide) ?_
  refine kr_i (ws' := wN E M (0, Hb, a, k)) (va_runS (As := [.int (nI p), .int 1]) (rest := [.ref (M 5)]) ⟨hx, hb, hml, hown, hts⟩ (c_X3_sailor l E p 1  _) (va_cwS 2 hts gX3_vote_X3_sailor rfl rfl rfl hd_X3_sailor ⟨Nat.le_of_ble_eq_true rfl, Nat.le_of_ble_eq_true rfl⟩) (rpS (AV := [.int (nI p), .int 1]) hw hK hG rp_74) rfl rfl hl.1 rfl (lv_room (Nat.le_of_ble_eq_true rfl)) dX3_vote_53 ⟨Nat.le_of_ble_eq_true rfl, Nat.le_of_ble_eq_true rfl⟩) hw hA rp_74 (fun H locs hw => ?_)
  refine lv_iload_n hx hb dX3_vote_56 rfl (lv_at hl 2 rfl) ?_
  refine lv_if_eq (tgt := 64) hx hb dX3_vote_57 (by decide) (fun c_1 => ?_) (fun c_1 => ?_)
  · have c_1 := bI_z c_1
    refine lv_iconst (v := 0) hx hb dX3_vote_64 (by decide) ?_
    refine k_istN (i := 18 + 2 * p + 1) (ws' := wN E M (0, Hb, upd a (18 + 2 * p + 1) 0, k)) hx hb hK hw 5 rfl (by omega) (by omega) dX3_vote_65 rfl (fun H locs hw => ?_)
    refine lv_aload_n hx hb dX3_vote_66 rfl (lv_at hl 0 rfl) ?_
    refine lv_aload_n hx hb dX3_vote_67 rfl (lv_at hl 0 rfl) ?_
    refine k_get (ci := 3) (v := .ref (M 2)) (C := RX3) (T := TX3) (N := 10) hx hb hown hK hw hts hinX3 0 rfl rfl 4 (by decide) hf13 rfl dX3_vote_68 ?_
    refine lv_iload_n hx hb dX3_vote_71 rfl (lv_at hl 1 rfl) ?_
    refine k_nldN (i := p) (f := n_so Hb) hx hb hK hw 2 rfl (by omega) (by omega) dX3_vote_72 ?_
    refine lv_iconst (v := 1) hx hb dX3_vote_73 (by decide) ?_
    refine kr_i (ws' := wN E M (0, Hb, upd a (18 + 2 * p + 1) 0, k)) (va_runV (As := [.int (nI (n_so Hb p)), .int 1]) (rest := []) ⟨hx, hb, hml, hown, hts⟩ (c_X3_voters l E M 0 Hb (upd a (18 + 2 * p + 1) 0) k (n_so Hb p) true (by omega) (by omega) (by omega) (h4) (by have := h4 p (by omega); omega) _) (cwV 2 hts gX3_vote_X3_voters rfl rfl rfl ⟨rfl, hd_X3_voters⟩ ⟨Nat.le_of_ble_eq_true rfl, Nat.le_of_ble_eq_true rfl⟩) (pwV (ci := 3) (q0 := 0) (C := RX3) hw hK rfl rfl rfl (rpS (AV := [.ref (M 0), .int (nI (n_so Hb p)), .int 1]) hw hK hG rp_75)) rfl rfl hl.1 rfl (lv_room (Nat.le_of_ble_eq_true rfl)) dX3_vote_74 ⟨Nat.le_of_ble_eq_true rfl, Nat.le_of_ble_eq_true rfl⟩) hw hA rp_75 (fun H locs hw => ?_)
    exact k_iret hx hb hr hlocks hK hw rfl dX3_vote_77 (by first | assumption | (simp only [r_vote, c_1, if_true, if_false, Bool.false_eq_true, Bool.true_eq_false, reduceIte, reduceCtorEq]; done) | (simp only [r_vote, c_1, if_true, if_false, Bool.false_eq_true, Bool.true_eq_false, reduceIte, reduceCtorEq]; rfl) | rfl | (simp [r_vote, c_1, if_true, if_false, Bool.false_eq_true, Bool.true_eq_false, reduceIte, reduceCtorEq]; done) | (simp [bI, r_vote, c_1]; done)) (by first | assumption | (simp only [r_vote, c_1, if_true, if_false, Bool.false_eq_true, Bool.true_eq_false, reduceIte, reduceCtorEq]; done) | (simp only [r_vote, c_1, if_true, if_false, Bool.false_eq_true, Bool.true_eq_false, reduceIte, reduceCtorEq]; rfl) | rfl | (simp [r_vote, c_1, if_true, if_false, Bool.false_eq_true, Bool.true_eq_false, reduceIte, reduceCtorEq]; done) | (simp [bI, r_vote, c_1]; done))
  · have c_1 := bI_nz c_1
    refine lv_iconst (v := 1) hx hb dX3_vote_60 (by decide) ?_
    refine lv_goto (tgt := 65) hx hb dX3_vote_61 (by decide) ?_
    refine k_istN (i := 18 + 2 * p + 1) (ws' := wN E M (0, Hb, upd a (18 + 2 * p + 1) 1, k)) hx hb hK hw 5 rfl (by omega) (by omega) dX3_vote_65 rfl (fun H locs hw => ?_)
    refine lv_aload_n hx hb dX3_vote_66 rfl (lv_at hl 0 rfl) ?_
    refine lv_aload_n hx hb dX3_vote_67 rfl (lv_at hl 0 rfl) ?_
    refine k_get (ci := 3) (v := .ref (M 2)) (C := RX3) (T := TX3) (N := 10) hx hb hown hK hw hts hinX3 0 rfl rfl 4 (by decide) hf13 rfl dX3_vote_68 ?_
    refine lv_iload_n hx hb dX3_vote_71 rfl (lv_at hl 1 rfl) ?_
    refine k_nldN (i := p) (f := n_so Hb) hx hb hK hw 2 rfl (by omega) (by omega) dX3_vote_72 ?_
    refine lv_iconst (v := 1) hx hb dX3_vote_73 (by decide) ?_
    refine kr_i (ws' := wN E M (0, Hb, upd a (18 + 2 * p + 1) 1, k)) (va_runV (As := [.int (nI (n_so Hb p)), .int 1]) (rest := []) ⟨hx, hb, hml, hown, hts⟩ (c_X3_voters l E M 0 Hb (upd a (18 + 2 * p + 1) 1) k (n_so Hb p) true (by omega) (by omega) (by omega) (h4) (by have := h4 p (by omega); omega) _) (cwV 2 hts gX3_vote_X3_voters rfl rfl rfl ⟨rfl, hd_X3_voters⟩ ⟨Nat.le_of_ble_eq_true rfl, Nat.le_of_ble_eq_true rfl⟩) (pwV (ci := 3) (q0 := 0) (C := RX3) hw hK rfl rfl rfl (rpS (AV := [.ref (M 0), .int (nI (n_so Hb p)), .int 1]) hw hK hG rp_75)) rfl rfl hl.1 rfl (lv_room (Nat.le_of_ble_eq_true rfl)) dX3_vote_74 ⟨Nat.le_of_ble_eq_true rfl, Nat.le_of_ble_eq_true rfl⟩) hw hA rp_75 (fun H locs hw => ?_)
    exact k_iret hx hb hr hlocks hK hw rfl dX3_vote_77 (by first | assumption | (simp only [r_vote, c_1, if_true, if_false, Bool.false_eq_true, Bool.true_eq_false, reduceIte, reduceCtorEq]; done) | (simp only [r_vote, c_1, if_true, if_false, Bool.false_eq_true, Bool.true_eq_false, reduceIte, reduceCtorEq]; rfl) | rfl | (simp [r_vote, c_1, if_true, if_false, Bool.false_eq_true, Bool.true_eq_false, reduceIte, reduceCtorEq]; done) | (simp [bI, r_vote, c_1]; done)) (by first | assumption | (simp only [r_vote, c_1, if_true, if_false, Bool.false_eq_true, Bool.true_eq_false, reduceIte, reduceCtorEq]; done) | (simp only [r_vote, c_1, if_true, if_false, Bool.false_eq_true, Bool.true_eq_false, reduceIte, reduceCtorEq]; rfl) | rfl | (simp [r_vote, c_1, if_true, if_false, Bool.false_eq_true, Bool.true_eq_false, reduceIte, reduceCtorEq]; done) | (simp [bI, r_vote, c_1]; done))
abbrev rm_X3_burnNights : Room := { frames := 4, cells := 0, slots := 0, locals := 86 }
set_option maxHeartbeats 4000000 in
set_option maxRecDepth 100000 in
theorem c_X3_burnNights_1 (l : Launch) (E : Ev) (M : Nat → Nat) (th : Int32) (Hb : MH) (a k : Fn) (n : Int32) (h1 : n_ns Hb ≤ 5) (h2 : n_np Hb ≤ 16) (h3 : n_nw Hb ≤ 4) (h4 : ∀ p, p < n_np Hb → n_so Hb p < 5) (hd : d_in n 1 60 = false) : MI l E yX3_burnNights wsX3_burnNights rm_X3_burnNights [.ref (M 0), .int n] (wN E M (th, Hb, a, k)) 0 (wN E M (1, Hb, a, k)) := by
  refine k_bI (cc := cX3_burnNights) (maxL := 4) (ret := (some .int)) (by decide) rfl (Nat.le_of_ble_eq_true rfl) ?_
  intro p9 e s9 m args below meth c A9 ls hC hl hw
  obtain ⟨hx, hb, hml, hr, hown, hts, hlocks, hK, hG, hA⟩ := hC
  have hf29 := hts (.fieldLink RX3 29 "SailorCandlesModel" "thrown" "I") (List.mem_of_getElem? (i := 1) rfl)
  have hinX3 : ∀ w ∈ wsX30, w ∈ wsX3_burnNights := fun w h => List.mem_cons_of_mem _ (List.mem_append_right _ h)
  have hl : lv_has ls 4 [(0, .ref (M 0)), (1, .int n)] := hl
  refine lv_aload_n hx hb dX3_burnNights_0 rfl (lv_at hl 0 rfl) ?_
  refine lv_iconst (v := 0) hx hb dX3_burnNights_1 (by decide) ?_
  refine k_put (ci := 3) (C := RX3) (T := TX3) (N := 10) (ws' := wN E M (0, Hb, a, k)) hx hb hown hK hw hts hinX3 tyX3 tyX3_ok nmX3 0 rfl rfl 0 (by decide) hf29 rfl rfl (Nat.le_of_ble_eq_true rfl) dX3_burnNights_2 rfl (fun H locs hw => ?_)
  refine lv_iload_n hx hb dX3_burnNights_5 rfl (lv_at hl 1 rfl) ?_
  refine lv_iconst (v := 1) hx hb dX3_burnNights_6 (by decide) ?_
  refine lv_bipush (v := 60) hx hb dX3_burnNights_7 (by decide) ?_
  refine kr_i (ws' := wN E M (0, Hb, a, k)) (va_runS (As := [.int n, .int 1, .int 60]) (rest := []) ⟨hx, hb, hml, hown, hts⟩ (c_X3_isIn l E n 1 60  _) (va_cwS 3 hts gX3_burnNights_X3_isIn rfl rfl rfl hd_X3_isIn ⟨Nat.le_of_ble_eq_true rfl, Nat.le_of_ble_eq_true rfl⟩) (rpS (AV := [.int n, .int 1, .int 60]) hw hK hG rp_74) rfl rfl hl.1 rfl (lv_room (Nat.le_of_ble_eq_true rfl)) dX3_burnNights_9 ⟨Nat.le_of_ble_eq_true rfl, Nat.le_of_ble_eq_true rfl⟩) hw hA rp_74 (fun H locs hw => ?_)
  refine lv_if_ne (tgt := 21) hx hb dX3_burnNights_12 (by decide) (fun q8 => absurd (by rw [hd]; rfl) q8) (fun _ => ?_)
  refine lv_aload_n hx hb dX3_burnNights_15 rfl (lv_at hl 0 rfl) ?_
  refine lv_iconst (v := 1) hx hb dX3_burnNights_16 (by decide) ?_
  refine kr_i (ws' := wN E M (1, Hb, a, k)) (va_runV (As := [.int 1]) (rest := []) ⟨hx, hb, hml, hown, hts⟩ (c_X3_no l E M 0 Hb a k 1  _) (cwV 1 hts gX3_burnNights_X3_no rfl rfl rfl ⟨rfl, hd_X3_no⟩ ⟨Nat.le_of_ble_eq_true rfl, Nat.le_of_ble_eq_true rfl⟩) (pwV (ci := 3) (q0 := 0) (C := RX3) hw hK rfl rfl rfl (rpS (AV := [.ref (M 0), .int 1]) hw hK hG rp_75)) rfl rfl hl.1 rfl (lv_room (Nat.le_of_ble_eq_true rfl)) dX3_burnNights_17 ⟨Nat.le_of_ble_eq_true rfl, Nat.le_of_ble_eq_true rfl⟩) hw hA rp_76 (fun H locs hw => ?_)
  exact k_iret hx hb hr hlocks hK hw rfl dX3_burnNights_20 rfl rfl
set_option maxHeartbeats 4000000 in
set_option maxRecDepth 100000 in
theorem c_X3_burnNights (l : Launch) (E : Ev) (M : Nat → Nat) (th : Int32) (Hb : MH) (a k : Fn) (n : Nat) (h1 : n_ns Hb ≤ 5) (h2 : n_np Hb ≤ 16) (h3 : n_nw Hb ≤ 4) (h4 : ∀ p, p < n_np Hb → n_so Hb p < 5) (hn1 : 1 ≤ n) (hn2 : n ≤ 60) : MI l E yX3_burnNights wsX3_burnNights rm_X3_burnNights [.ref (M 0), .int (nI n)] (wN E M (th, Hb, a, k)) (l_mpassN Hb a n) (wN E M (0, Hb, l_mpass Hb a n, k)) := by
  refine k_bI (cc := cX3_burnNights) (maxL := 4) (ret := (some .int)) (by decide) rfl (Nat.le_of_ble_eq_true rfl) ?_
  intro p9 e s9 m args below meth c A9 ls hC hl hw
  obtain ⟨hx, hb, hml, hr, hown, hts, hlocks, hK, hG, hA⟩ := hC
  have hf29 := hts (.fieldLink RX3 29 "SailorCandlesModel" "thrown" "I") (List.mem_of_getElem? (i := 1) rfl)
  have hinX3 : ∀ w ∈ wsX30, w ∈ wsX3_burnNights := fun w h => List.mem_cons_of_mem _ (List.mem_append_right _ h)
  have hl : lv_has ls 4 [(0, .ref (M 0)), (1, .int (nI n))] := hl
  refine lv_aload_n hx hb dX3_burnNights_0 rfl (lv_at hl 0 rfl) ?_
  refine lv_iconst (v := 0) hx hb dX3_burnNights_1 (by decide) ?_
  refine k_put (ci := 3) (C := RX3) (T := TX3) (N := 10) (ws' := wN E M (0, Hb, a, k)) hx hb hown hK hw hts hinX3 tyX3 tyX3_ok nmX3 0 rfl rfl 0 (by decide) hf29 rfl rfl (Nat.le_of_ble_eq_true rfl) dX3_burnNights_2 rfl (fun H locs hw => ?_)
  refine lv_iload_n hx hb dX3_burnNights_5 rfl (lv_at hl 1 rfl) ?_
  refine lv_iconst (v := 1) hx hb dX3_burnNights_6 (by decide) ?_
  refine lv_bipush (v := 60) hx hb dX3_burnNights_7 (by decide) ?_
  refine kr_i (ws' := wN E M (0, Hb, a, k)) (va_runS (As := [.int (nI n), .int 1, .int 60]) (rest := []) ⟨hx, hb, hml, hown, hts⟩ (c_X3_isIn l E (nI n) 1 60  _) (va_cwS 3 hts gX3_burnNights_X3_isIn rfl rfl rfl hd_X3_isIn ⟨Nat.le_of_ble_eq_true rfl, Nat.le_of_ble_eq_true rfl⟩) (rpS (AV := [.int (nI n), .int 1, .int 60]) hw hK hG rp_74) rfl rfl hl.1 rfl (lv_room (Nat.le_of_ble_eq_true rfl)) dX3_burnNights_9 ⟨Nat.le_of_ble_eq_true rfl, Nat.le_of_ble_eq_true rfl⟩) hw hA rp_74 (fun H locs hw => ?_)
  refine lv_if_ne (tgt := 21) hx hb dX3_burnNights_12 (by decide) (fun _ => ?_) (fun q8 => absurd q8 (fun q7 => absurd ((d_in_lo (j := 1) (k := 60) (by omega) (by omega) (by omega)).symm.trans (bI_z q7)) (by decide)))
  refine lv_iconst (v := 0) hx hb dX3_burnNights_21 (by decide) ?_
  refine lv_istore_n (lv' := [(2, .int 0), (0, .ref (M 0)), (1, .int (nI n))]) hx hb dX3_burnNights_22 rfl hl (by decide) rfl (fun ls hl => ?_)
  refine lv_iconst (v := 0) hx hb dX3_burnNights_23 (by decide) ?_
  refine lv_istore_n (lv' := [(3, .int 0), (2, .int 0), (0, .ref (M 0)), (1, .int (nI n))]) hx hb dX3_burnNights_24 rfl hl (by decide) rfl (fun ls hl => ?_)
  have L_25 : ∀ (k9 i : Nat) (H : Heap) (locs : List Loc) (ls : Array Slot), i + k9 = n → Wd E A9 s9.heap (wN E M (0, Hb, l_mpass Hb a i, k)) H locs → lv_has ls 4 [(0, .ref (M 0)), (1, .int (nI n)), (2, .int (l_mpassN Hb a i)), (3, .int (nI i))] → W p9 l e rm_X3_burnNights s9 m args below meth c H locs 0 0 (EndI E A9 (l_mpassN Hb a n) (wN E M (0, Hb, l_mpass Hb a n, k)) below args s9 (rm_X3_burnNights).cells (rm_X3_burnNights).slots) (F0 m 25 ls []) := by
    intro k9
    induction k9 with
    | zero =>
      intro i H locs ls hi hw hl
      have hz_1 : n = i := by omega
      refine lv_iload_n hx hb dX3_burnNights_25 rfl (lv_at hl 3 rfl) ?_
      refine lv_iload_n hx hb dX3_burnNights_26 rfl (lv_at hl 1 rfl) ?_
      refine lv_icmp_ge (tgt := 43) hx hb dX3_burnNights_27 (by decide) (fun _ => ?_) (fun q8 => absurd (by rw [← hz_1]; exact Int32.le_refl _) q8)
      refine lv_iload_n hx hb dX3_burnNights_43 rfl (lv_at hl 2 rfl) ?_
      exact k_iret hx hb hr hlocks hK hw rfl dX3_burnNights_44 (by subst hz_1; first | rfl | assumption | (simp only [l_mpass, l_mpassN, if_true, if_false, Bool.false_eq_true, Bool.true_eq_false, reduceIte, reduceCtorEq]; done) | (simp only [l_mpass, l_mpassN, if_true, if_false, Bool.false_eq_true, Bool.true_eq_false, reduceIte, reduceCtorEq]; rfl) | (simp [l_mpass, l_mpassN, if_true, if_false, Bool.false_eq_true, Bool.true_eq_false, reduceIte, reduceCtorEq]; done) | (simp [bI, l_mpass, l_mpassN]; done)) (by subst hz_1; first | rfl | assumption | (simp only [l_mpass, l_mpassN, if_true, if_false, Bool.false_eq_true, Bool.true_eq_false, reduceIte, reduceCtorEq]; done) | (simp only [l_mpass, l_mpassN, if_true, if_false, Bool.false_eq_true, Bool.true_eq_false, reduceIte, reduceCtorEq]; rfl) | (simp [l_mpass, l_mpassN, if_true, if_false, Bool.false_eq_true, Bool.true_eq_false, reduceIte, reduceCtorEq]; done) | (simp [bI, l_mpass, l_mpassN]; done))
    | succ k9 ih_25 =>
      intro i H locs ls hi hw hl
      have hi9 : i < n := by omega
      refine lv_iload_n hx hb dX3_burnNights_25 rfl (lv_at hl 3 rfl) ?_
      refine lv_iload_n hx hb dX3_burnNights_26 rfl (lv_at hl 1 rfl) ?_
      refine lv_icmp_ge (tgt := 43) hx hb dX3_burnNights_27 (by decide) (fun q8 => absurd q8 (nI_ge (a := i) (b := n) (by omega) (by omega))) (fun _ => ?_)
      refine lv_iload_n hx hb dX3_burnNights_30 rfl (lv_at hl 2 rfl) ?_
      refine lv_aload_n hx hb dX3_burnNights_31 rfl (lv_at hl 0 rfl) ?_
      refine kr_i (ws' := wN E M (0, Hb, r_night Hb (l_mpass Hb a i), k)) (va_runV (As := []) (rest := [.int (l_mpassN Hb a i)]) ⟨hx, hb, hml, hown, hts⟩ (c_X3_nightOn l E M 0 Hb (l_mpass Hb a i) k (by omega) (by omega) (by omega) (h4) _) (cwV 0 hts gX3_burnNights_X3_nightOn rfl rfl rfl ⟨rfl, hd_X3_nightOn⟩ ⟨Nat.le_of_ble_eq_true rfl, Nat.le_of_ble_eq_true rfl⟩) (pwV (ci := 3) (q0 := 0) (C := RX3) hw hK rfl rfl rfl (rpS (AV := [.ref (M 0)]) hw hK hG rp_75)) rfl rfl hl.1 rfl (lv_room (Nat.le_of_ble_eq_true rfl)) dX3_burnNights_32 ⟨Nat.le_of_ble_eq_true rfl, Nat.le_of_ble_eq_true rfl⟩) hw hA rp_76 (fun H locs hw => ?_)
      refine lv_iadd hx hb dX3_burnNights_35 ?_
      refine lv_istore_n (lv' := [(2, .int ((l_mpassN Hb a i) + (r_nightN Hb (l_mpass Hb a i)))), (0, .ref (M 0)), (1, .int (nI n)), (3, .int (nI i))]) hx hb dX3_burnNights_36 rfl hl (by decide) rfl (fun ls hl => ?_)
      refine lv_iinc (v := nI (i + 1)) (lv' := [(3, .int (nI (i + 1))), (2, .int ((l_mpassN Hb a i) + (r_nightN Hb (l_mpass Hb a i)))), (0, .ref (M 0)), (1, .int (nI n))]) hx hb dX3_burnNights_37 hl (k := 3) rfl (nI_add i 1) (by decide) rfl (fun ls hl => ?_)
      refine lv_goto (tgt := 25) hx hb dX3_burnNights_40 (by decide) ?_
      exact ih_25 (i + 1) _ _ _ (by omega) (hw.to (by first | rfl | assumption | (simp only [l_mpass, l_mpassN, if_true, if_false, Bool.false_eq_true, Bool.true_eq_false, reduceIte, reduceCtorEq]; done) | (simp only [l_mpass, l_mpassN, if_true, if_false, Bool.false_eq_true, Bool.true_eq_false, reduceIte, reduceCtorEq]; rfl) | (simp [l_mpass, l_mpassN, if_true, if_false, Bool.false_eq_true, Bool.true_eq_false, reduceIte, reduceCtorEq]; done) | (simp [bI, l_mpass, l_mpassN]; done))) (by rw [show (.int (l_mpassN Hb a (i + 1)) : Value) = .int ((l_mpassN Hb a i) + (r_nightN Hb (l_mpass Hb a i))) from (by first | rfl | assumption | (simp only [l_mpass, l_mpassN, if_true, if_false, Bool.false_eq_true, Bool.true_eq_false, reduceIte, reduceCtorEq]; done) | (simp only [l_mpass, l_mpassN, if_true, if_false, Bool.false_eq_true, Bool.true_eq_false, reduceIte, reduceCtorEq]; rfl) | (simp [l_mpass, l_mpassN, if_true, if_false, Bool.false_eq_true, Bool.true_eq_false, reduceIte, reduceCtorEq]; done) | (simp [bI, l_mpass, l_mpassN]; done))]; exact lv_sub hl [2, 3, 1, 0] rfl)
  exact L_25 (n - 0) 0 _ _ _ (by omega) hw (lv_sub hl [2, 3, 1, 0] rfl)
