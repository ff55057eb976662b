abbrev rm_X3_isEnough : Room := { frames := 4, cells := 0, slots := 0, locals := 86 }
set_option maxHeartbeats 4000000 in
set_option maxRecDepth 100000 in
theorem c_X3_isEnough (l : Launch) (E : Ev) (M : Nat → Nat) (th : Int32) (Hb : MH) (a k : Fn) (x : Int32) (n : Nat) (h1 : n_ns Hb ≤ 5) (h2 : n_np Hb ≤ 16) (h3 : n_nw Hb ≤ 4) (h4 : ∀ p, p < n_np Hb → n_so Hb p < 5) (hn : n < 1000) : MI l E yX3_isEnough wsX3_isEnough rm_X3_isEnough [.ref (M 0), .int x, .int (nI n)] (wN E M (th, Hb, a, k)) (bI (r_enough Hb a x n)) (wN E M (th, Hb, a, a)) := by
  refine k_bI (cc := cX3_isEnough) (maxL := 5) (ret := (some .boolean)) (by decide) rfl (Nat.le_of_ble_eq_true rfl) ?_
  intro p9 e s9 m args below meth c A9 ls hC hl hw
  obtain ⟨hx, hb, hml, hr, hown, hts, hlocks, hK, hG, hA⟩ := hC
  have hf23 := hts (.fieldLink RX3 23 "SailorCandlesModel" "now" "[I") (List.mem_of_getElem? (i := 1) rfl)
  have hinX3 : ∀ w ∈ wsX30, w ∈ wsX3_isEnough := fun w h => List.mem_cons_of_mem _ (List.mem_append_right _ h)
  have hl : lv_has ls 5 [(0, .ref (M 0)), (1, .int x), (2, .int (nI n))] := hl
  refine lv_aload_n hx hb dX3_isEnough_0 rfl (lv_at hl 0 rfl) ?_
  refine kr_v (ws' := wN E M (th, Hb, a, a)) (va_runV (As := []) (rest := []) ⟨hx, hb, hml, hown, hts⟩ (c_X3_keep l E M th Hb a k  _) (cwV 0 hts gX3_isEnough_X3_keep rfl rfl rfl ⟨rfl, hd_X3_keep⟩ ⟨Nat.le_of_ble_eq_true rfl, Nat.le_of_ble_eq_true rfl⟩) (pwV (ci := 3) (q0 := 0) (C := RX3) hw hK rfl rfl rfl (rpS (AV := [.ref (M 0)]) hw hK hG rp_75)) rfl rfl hl.1 rfl (lv_room (Nat.le_of_ble_eq_true rfl)) dX3_isEnough_1 ⟨Nat.le_of_ble_eq_true rfl, Nat.le_of_ble_eq_true rfl⟩) hw hA rp_76 (fun H locs hw => ?_)
  refine lv_aload_n hx hb dX3_isEnough_4 rfl (lv_at hl 0 rfl) ?_
  refine k_get (ci := 3) (v := .ref (M 5)) (C := RX3) (T := TX3) (N := 10) hx hb hown hK hw hts hinX3 0 rfl rfl 8 (by decide) hf23 rfl dX3_isEnough_5 ?_
  refine lv_iconst (v := 1) hx hb dX3_isEnough_8 (by decide) ?_
  refine lv_dup2_11 hx hb dX3_isEnough_9 rfl rfl ?_
  refine k_ildN (i := 1) (f := a) hx hb hK hw 5 rfl (by omega) (by omega) dX3_isEnough_10 ?_
  refine lv_iload_n hx hb dX3_isEnough_11 rfl (lv_at hl 1 rfl) ?_
  refine lv_iadd hx hb dX3_isEnough_12 ?_
  refine k_istN (i := 1) (ws' := wN E M (th, Hb, upd a 1 ((a 1) + x), a)) hx hb hK hw 5 rfl (by omega) (by omega) dX3_isEnough_13 rfl (fun H locs hw => ?_)
  refine lv_iconst (v := 1) hx hb dX3_isEnough_14 (by decide) ?_
  refine lv_istore_n (lv' := [(3, .int 1), (0, .ref (M 0)), (1, .int x), (2, .int (nI n))]) hx hb dX3_isEnough_15 rfl hl (by decide) rfl (fun ls hl => ?_)
  refine lv_iconst (v := 0) hx hb dX3_isEnough_16 (by decide) ?_
  refine lv_istore (lv' := [(4, .int 0), (3, .int 1), (0, .ref (M 0)), (1, .int x), (2, .int (nI n))]) hx hb dX3_isEnough_17 hl (by decide) rfl (fun ls hl => ?_)
  have L_19 : ∀ (k9 i : Nat) (H : Heap) (locs : List Loc) (ls : Array Slot), i + k9 = n → (l_mlit Hb (upd a 1 (a 1 + x)) i = true) → Wd E A9 s9.heap (wN E M (th, Hb, l_mpass Hb (upd a 1 (a 1 + x)) i, a)) H locs → lv_has ls 5 [(0, .ref (M 0)), (2, .int (nI n)), (3, .int (bI (l_mlit Hb (upd a 1 (a 1 + x)) i))), (4, .int (nI i))] → W p9 l e rm_X3_isEnough s9 m args below meth c H locs 0 0 (EndI E A9 (bI (r_enough Hb a x n)) (wN E M (th, Hb, a, a)) below args s9 (rm_X3_isEnough).cells (rm_X3_isEnough).slots) (F0 m 19 ls []) := by
    intro k9
    induction k9 with
    | zero =>
      intro i H locs ls hi hno hw hl
      have hz_1 : n = i := by omega
      refine lv_iload hx hb dX3_isEnough_19 (lv_at hl 3 rfl) ?_
      refine lv_iload_n hx hb dX3_isEnough_21 rfl (lv_at hl 1 rfl) ?_
      refine lv_icmp_ge (tgt := 53) hx hb dX3_isEnough_22 (by decide) (fun _ => ?_) (fun q8 => absurd (by rw [← hz_1]; exact Int32.le_refl _) q8)
      refine lv_aload_n hx hb dX3_isEnough_53 rfl (lv_at hl 0 rfl) ?_
      refine kr_v (ws' := wN E M (th, Hb, a, a)) (va_runV (As := []) (rest := []) ⟨hx, hb, hml, hown, hts⟩ (c_X3_bringBack l E M th Hb (l_mpass Hb (upd a 1 (a 1 + x)) i) a  _) (cwV 0 hts gX3_isEnough_X3_bringBack rfl rfl rfl ⟨rfl, hd_X3_bringBack⟩ ⟨Nat.le_of_ble_eq_true rfl, Nat.le_of_ble_eq_true rfl⟩) (pwV (ci := 3) (q0 := 0) (C := RX3) hw hK rfl rfl rfl (rpS (AV := [.ref (M 0)]) hw hK hG rp_75)) rfl rfl hl.1 rfl (lv_room (Nat.le_of_ble_eq_true rfl)) dX3_isEnough_54 ⟨Nat.le_of_ble_eq_true rfl, Nat.le_of_ble_eq_true rfl⟩) hw hA rp_76 (fun H locs hw => ?_)
      refine lv_iload_n hx hb dX3_isEnough_57 rfl (lv_at hl 2 rfl) ?_
      exact k_iret hx hb hr hlocks hK hw (bI_n _) dX3_isEnough_58 (by subst hz_1; first | rfl | exact enough_no (by omega) hno CP) rfl
    | succ k9 ih_19 =>
      intro i H locs ls hi hno hw hl
      have hi9 : i < n := by omega
      refine lv_iload hx hb dX3_isEnough_19 (lv_at hl 3 rfl) ?_
      refine lv_iload_n hx hb dX3_isEnough_21 rfl (lv_at hl 1 rfl) ?_
      refine lv_icmp_ge (tgt := 53) hx hb dX3_isEnough_22 (by decide) (fun q8 => absurd q8 (nI_ge (a := i) (b := n) (by omega) (by omega))) (fun _ => ?_)
      refine lv_iload_n hx hb dX3_isEnough_25 rfl (lv_at hl 2 rfl) ?_
      refine lv_if_eq (tgt := 53) hx hb dX3_isEnough_26 (by decide) (fun q8 => absurd q8 (fun q7 => absurd (hno.symm.trans (bI_z q7)) (by decide))) (fun _ => ?_)
      refine lv_aload_n hx hb dX3_isEnough_29 rfl (lv_at hl 0 rfl) ?_
      refine kr_i (ws' := wN E M (th, Hb, r_night Hb (l_mpass Hb (upd a 1 (a 1 + x)) i), a)) (va_runV (As := []) (rest := []) ⟨hx, hb, hml, hown, hts⟩ (c_X3_nightOn l E M th Hb (l_mpass Hb (upd a 1 (a 1 + x)) i) a (by omega) (by omega) (by omega) (h4) _) (cwV 0 hts gX3_isEnough_X3_nightOn rfl rfl rfl ⟨rfl, hd_X3_nightOn⟩ ⟨Nat.le_of_ble_eq_true rfl, Nat.le_of_ble_eq_true rfl⟩) (pwV (ci := 3) (q0 := 0) (C := RX3) hw hK rfl rfl rfl (rpS (AV := [.ref (M 0)]) hw hK hG rp_75)) rfl rfl hl.1 rfl (lv_room (Nat.le_of_ble_eq_true rfl)) dX3_isEnough_30 ⟨Nat.le_of_ble_eq_true rfl, Nat.le_of_ble_eq_true rfl⟩) hw hA rp_76 (fun H locs hw => ?_)
      refine lv_pop hx hb dX3_isEnough_33 rfl ?_
      refine lv_aload_n hx hb dX3_isEnough_34 rfl (lv_at hl 0 rfl) ?_
      refine kr_i (ws' := wN E M (th, Hb, r_night Hb (l_mpass Hb (upd a 1 (a 1 + x)) i), a)) (va_runV (As := []) (rest := []) ⟨hx, hb, hml, hown, hts⟩ (c_X3_allDark l E M th Hb (r_night Hb (l_mpass Hb (upd a 1 (a 1 + x)) i)) a (by omega) (by omega) (by omega) (h4) _) (cwV 0 hts gX3_isEnough_X3_allDark rfl rfl rfl ⟨rfl, hd_X3_allDark⟩ ⟨Nat.le_of_ble_eq_true rfl, Nat.le_of_ble_eq_true rfl⟩) (pwV (ci := 3) (q0 := 0) (C := RX3) hw hK rfl rfl rfl (rpS (AV := [.ref (M 0)]) hw hK hG rp_75)) rfl rfl hl.1 rfl (lv_room (Nat.le_of_ble_eq_true rfl)) dX3_isEnough_35 ⟨Nat.le_of_ble_eq_true rfl, Nat.le_of_ble_eq_true rfl⟩) hw hA rp_75 (fun H locs hw => ?_)
      refine lv_if_ne (tgt := 45) hx hb dX3_isEnough_38 (by decide) (fun c_2 => ?_) (fun c_2 => ?_)
      · refine lv_iconst (v := 0) hx hb dX3_isEnough_45 (by decide) ?_
        refine lv_istore_n (lv' := [(3, .int 0), (0, .ref (M 0)), (2, .int (nI n)), (4, .int (nI i))]) hx hb dX3_isEnough_46 rfl hl (by decide) rfl (fun ls hl => ?_)
        refine lv_iinc (v := nI (i + 1)) (lv' := [(4, .int (nI (i + 1))), (3, .int 0), (0, .ref (M 0)), (2, .int (nI n))]) hx hb dX3_isEnough_47 hl (k := 3) rfl (nI_add i 1) (by decide) rfl (fun ls hl => ?_)
        refine lv_goto (tgt := 19) hx hb dX3_isEnough_50 (by decide) ?_
        refine lv_iload hx hb dX3_isEnough_19 (lv_at hl 0 rfl) ?_
        refine lv_iload_n hx hb dX3_isEnough_21 rfl (lv_at hl 3 rfl) ?_
        refine lv_icmp_ge (tgt := 53) hx hb dX3_isEnough_22 (by decide) (fun c_3 => ?_) (fun c_3 => ?_)
        · refine lv_aload_n hx hb dX3_isEnough_53 rfl (lv_at hl 2 rfl) ?_
          refine kr_v (ws' := wN E M (th, Hb, a, a)) (va_runV (As := []) (rest := []) ⟨hx, hb, hml, hown, hts⟩ (c_X3_bringBack l E M th Hb (r_night Hb (l_mpass Hb (upd a 1 (a 1 + x)) i)) a  _) (cwV 0 hts gX3_isEnough_X3_bringBack rfl rfl rfl ⟨rfl, hd_X3_bringBack⟩ ⟨Nat.le_of_ble_eq_true rfl, Nat.le_of_ble_eq_true rfl⟩) (pwV (ci := 3) (q0 := 0) (C := RX3) hw hK rfl rfl rfl (rpS (AV := [.ref (M 0)]) hw hK hG rp_75)) rfl rfl hl.1 rfl (lv_room (Nat.le_of_ble_eq_true rfl)) dX3_isEnough_54 ⟨Nat.le_of_ble_eq_true rfl, Nat.le_of_ble_eq_true rfl⟩) hw hA rp_76 (fun H locs hw => ?_)
          refine lv_iload_n hx hb dX3_isEnough_57 rfl (lv_at hl 1 rfl) ?_
          exact k_iret hx hb hr hlocks hK hw rfl dX3_isEnough_58 (by first | rfl | exact enough_no (by omega) hno c_2) rfl
        · refine lv_iload_n hx hb dX3_isEnough_25 rfl (lv_at hl 1 rfl) ?_
          refine lv_if_eq (tgt := 53) hx hb dX3_isEnough_26 (by decide) (fun _ => ?_) (fun q8 => absurd (by decide) q8)
          refine lv_aload_n hx hb dX3_isEnough_53 rfl (lv_at hl 2 rfl) ?_
          refine kr_v (ws' := wN E M (th, Hb, a, a)) (va_runV (As := []) (rest := []) ⟨hx, hb, hml, hown, hts⟩ (c_X3_bringBack l E M th Hb (r_night Hb (l_mpass Hb (upd a 1 (a 1 + x)) i)) a  _) (cwV 0 hts gX3_isEnough_X3_bringBack rfl rfl rfl ⟨rfl, hd_X3_bringBack⟩ ⟨Nat.le_of_ble_eq_true rfl, Nat.le_of_ble_eq_true rfl⟩) (pwV (ci := 3) (q0 := 0) (C := RX3) hw hK rfl rfl rfl (rpS (AV := [.ref (M 0)]) hw hK hG rp_75)) rfl rfl hl.1 rfl (lv_room (Nat.le_of_ble_eq_true rfl)) dX3_isEnough_54 ⟨Nat.le_of_ble_eq_true rfl, Nat.le_of_ble_eq_true rfl⟩) hw hA rp_76 (fun H locs hw => ?_)
          refine lv_iload_n hx hb dX3_isEnough_57 rfl (lv_at hl 1 rfl) ?_
          exact k_iret hx hb hr hlocks hK hw rfl dX3_isEnough_58 (by first | rfl | exact enough_no (by omega) hno c_2) rfl
      · refine lv_iconst (v := 1) hx hb dX3_isEnough_41 (by decide) ?_
        refine lv_goto (tgt := 46) hx hb dX3_isEnough_42 (by decide) ?_
        refine lv_istore_n (lv' := [(3, .int 1), (0, .ref (M 0)), (2, .int (nI n)), (4, .int (nI i))]) hx hb dX3_isEnough_46 rfl hl (by decide) rfl (fun ls hl => ?_)
        refine lv_iinc (v := nI (i + 1)) (lv' := [(4, .int (nI (i + 1))), (3, .int 1), (0, .ref (M 0)), (2, .int (nI n))]) hx hb dX3_isEnough_47 hl (k := 3) rfl (nI_add i 1) (by decide) rfl (fun ls hl => ?_)
        refine lv_goto (tgt := 19) hx hb dX3_isEnough_50 (by decide) ?_
        exact ih_19 (i + 1) _ _ _ (by omega) (enough_on hno c_2) (hw.to (by first | assumption | (simp only [if_pos c_2, if_true, if_false, Bool.false_eq_true, Bool.true_eq_false, reduceIte, reduceCtorEq]; done) | (simp only [if_pos c_2, if_true, if_false, Bool.false_eq_true, Bool.true_eq_false, reduceIte, reduceCtorEq]; rfl) | rfl | (simp [if_pos c_2, if_true, if_false, Bool.false_eq_true, Bool.true_eq_false, reduceIte, reduceCtorEq]; done) | (simp [bI, c_2]; done))) (by rw [show (.int (bI (l_mlit Hb (upd a 1 (a 1 + x)) (i + 1))) : Value) = .int 1 from (congrArg Value.int (enough_v hno c_2))]; exact lv_sub hl [2, 3, 1, 0] rfl)
  exact L_19 (n - 0) 0 _ _ _ (by omega) (rfl) hw (lv_sub hl [2, 4, 1, 0] rfl)
abbrev rm_X3_waxWanted : Room := { frames := 5, cells := 0, slots := 0, locals := 110 }
set_option maxHeartbeats 4000000 in
set_option maxRecDepth 100000 in
theorem c_X3_waxWanted_1 (l : Launch) (E : Ev) (M : Nat → Nat) (th : Int32) (Hb : MH) (a k : Fn) (n : Int32) (h1 : n_ns Hb ≤ 5) (h2 : n_np Hb ≤ 16) (h3 : n_nw Hb ≤ 4) (h4 : ∀ p, p < n_np Hb → n_so Hb p < 5) (hd : d_in n 1 60 = false) : MI l E yX3_waxWanted wsX3_waxWanted rm_X3_waxWanted [.ref (M 0), .int n] (wN E M (th, Hb, a, k)) 0 (wN E M (1, Hb, a, k)) := by
  refine k_bI (cc := cX3_waxWanted) (maxL := 5) (ret := (some .int)) (by decide) rfl (Nat.le_of_ble_eq_true rfl) ?_
  intro p9 e s9 m args below meth c A9 ls hC hl hw
  obtain ⟨hx, hb, hml, hr, hown, hts, hlocks, hK, hG, hA⟩ := hC
  have hf29 := hts (.fieldLink RX3 29 "SailorCandlesModel" "thrown" "I") (List.mem_of_getElem? (i := 1) rfl)
  have hinX3 : ∀ w ∈ wsX30, w ∈ wsX3_waxWanted := fun w h => List.mem_cons_of_mem _ (List.mem_append_right _ h)
  have hl : lv_has ls 5 [(0, .ref (M 0)), (1, .int n)] := hl
  refine lv_aload_n hx hb dX3_waxWanted_0 rfl (lv_at hl 0 rfl) ?_
  refine lv_iconst (v := 0) hx hb dX3_waxWanted_1 (by decide) ?_
  refine k_put (ci := 3) (C := RX3) (T := TX3) (N := 10) (ws' := wN E M (0, Hb, a, k)) hx hb hown hK hw hts hinX3 tyX3 tyX3_ok nmX3 0 rfl rfl 0 (by decide) hf29 rfl rfl (Nat.le_of_ble_eq_true rfl) dX3_waxWanted_2 rfl (fun H locs hw => ?_)
  refine lv_iload_n hx hb dX3_waxWanted_5 rfl (lv_at hl 1 rfl) ?_
  refine lv_iconst (v := 1) hx hb dX3_waxWanted_6 (by decide) ?_
  refine lv_bipush (v := 60) hx hb dX3_waxWanted_7 (by decide) ?_
  refine kr_i (ws' := wN E M (0, Hb, a, k)) (va_runS (As := [.int n, .int 1, .int 60]) (rest := []) ⟨hx, hb, hml, hown, hts⟩ (c_X3_isIn l E n 1 60  _) (va_cwS 3 hts gX3_waxWanted_X3_isIn rfl rfl rfl hd_X3_isIn ⟨Nat.le_of_ble_eq_true rfl, Nat.le_of_ble_eq_true rfl⟩) (rpS (AV := [.int n, .int 1, .int 60]) hw hK hG rp_74) rfl rfl hl.1 rfl (lv_room (Nat.le_of_ble_eq_true rfl)) dX3_waxWanted_9 ⟨Nat.le_of_ble_eq_true rfl, Nat.le_of_ble_eq_true rfl⟩) hw hA rp_74 (fun H locs hw => ?_)
  refine lv_if_ne (tgt := 21) hx hb dX3_waxWanted_12 (by decide) (fun q8 => absurd (by rw [hd]; rfl) q8) (fun _ => ?_)
  refine lv_aload_n hx hb dX3_waxWanted_15 rfl (lv_at hl 0 rfl) ?_
  refine lv_iconst (v := 1) hx hb dX3_waxWanted_16 (by decide) ?_
  refine kr_i (ws' := wN E M (1, Hb, a, k)) (va_runV (As := [.int 1]) (rest := []) ⟨hx, hb, hml, hown, hts⟩ (c_X3_no l E M 0 Hb a k 1  _) (cwV 1 hts gX3_waxWanted_X3_no rfl rfl rfl ⟨rfl, hd_X3_no⟩ ⟨Nat.le_of_ble_eq_true rfl, Nat.le_of_ble_eq_true rfl⟩) (pwV (ci := 3) (q0 := 0) (C := RX3) hw hK rfl rfl rfl (rpS (AV := [.ref (M 0), .int 1]) hw hK hG rp_75)) rfl rfl hl.1 rfl (lv_room (Nat.le_of_ble_eq_true rfl)) dX3_waxWanted_17 ⟨Nat.le_of_ble_eq_true rfl, Nat.le_of_ble_eq_true rfl⟩) hw hA rp_76 (fun H locs hw => ?_)
  exact k_iret hx hb hr hlocks hK hw rfl dX3_waxWanted_20 rfl rfl
set_option maxHeartbeats 4000000 in
set_option maxRecDepth 100000 in
theorem c_X3_waxWanted_n (l : Launch) (E : Ev) (M : Nat → Nat) (th : Int32) (Hb : MH) (a k : Fn) (n : Nat) (h1 : n_ns Hb ≤ 5) (h2 : n_np Hb ≤ 16) (h3 : n_nw Hb ≤ 4) (h4 : ∀ p, p < n_np Hb → n_so Hb p < 5) (hn1 : 1 ≤ n) (hn2 : n ≤ 60) (he : r_enough Hb a 500 n = false) : MI l E yX3_waxWanted wsX3_waxWanted rm_X3_waxWanted [.ref (M 0), .int (nI n)] (wN E M (th, Hb, a, k)) (-1) (wN E M (0, Hb, a, a)) := by
  refine k_bI (cc := cX3_waxWanted) (maxL := 5) (ret := (some .int)) (by decide) rfl (Nat.le_of_ble_eq_true rfl) ?_
  intro p9 e s9 m args below meth c A9 ls hC hl hw
  obtain ⟨hx, hb, hml, hr, hown, hts, hlocks, hK, hG, hA⟩ := hC
  have hf29 := hts (.fieldLink RX3 29 "SailorCandlesModel" "thrown" "I") (List.mem_of_getElem? (i := 1) rfl)
  have hinX3 : ∀ w ∈ wsX30, w ∈ wsX3_waxWanted := fun w h => List.mem_cons_of_mem _ (List.mem_append_right _ h)
  have hl : lv_has ls 5 [(0, .ref (M 0)), (1, .int (nI n))] := hl
  refine lv_aload_n hx hb dX3_waxWanted_0 rfl (lv_at hl 0 rfl) ?_
  refine lv_iconst (v := 0) hx hb dX3_waxWanted_1 (by decide) ?_
  refine k_put (ci := 3) (C := RX3) (T := TX3) (N := 10) (ws' := wN E M (0, Hb, a, k)) hx hb hown hK hw hts hinX3 tyX3 tyX3_ok nmX3 0 rfl rfl 0 (by decide) hf29 rfl rfl (Nat.le_of_ble_eq_true rfl) dX3_waxWanted_2 rfl (fun H locs hw => ?_)
  refine lv_iload_n hx hb dX3_waxWanted_5 rfl (lv_at hl 1 rfl) ?_
  refine lv_iconst (v := 1) hx hb dX3_waxWanted_6 (by decide) ?_
  refine lv_bipush (v := 60) hx hb dX3_waxWanted_7 (by decide) ?_
  refine kr_i (ws' := wN E M (0, Hb, a, k)) (va_runS (As := [.int (nI n), .int 1, .int 60]) (rest := []) ⟨hx, hb, hml, hown, hts⟩ (c_X3_isIn l E (nI n) 1 60  _) (va_cwS 3 hts gX3_waxWanted_X3_isIn rfl rfl rfl hd_X3_isIn ⟨Nat.le_of_ble_eq_true rfl, Nat.le_of_ble_eq_true rfl⟩) (rpS (AV := [.int (nI n), .int 1, .int 60]) hw hK hG rp_74) rfl rfl hl.1 rfl (lv_room (Nat.le_of_ble_eq_true rfl)) dX3_waxWanted_9 ⟨Nat.le_of_ble_eq_true rfl, Nat.le_of_ble_eq_true rfl⟩) hw hA rp_74 (fun H locs hw => ?_)
  refine lv_if_ne (tgt := 21) hx hb dX3_waxWanted_12 (by decide) (fun _ => ?_) (fun q8 => absurd q8 (fun q7 => absurd ((d_in_lo (j := 1) (k := 60) (by omega) (by omega) (by omega)).symm.trans (bI_z q7)) (by decide)))
  refine lv_aload_n hx hb dX3_waxWanted_21 rfl (lv_at hl 0 rfl) ?_
  refine lv_sipush (v := 500) hx hb dX3_waxWanted_22 (by decide) ?_
  refine lv_iload_n hx hb dX3_waxWanted_25 rfl (lv_at hl 1 rfl) ?_
  refine kr_i (ws' := wN E M (0, Hb, a, a)) (va_runV (As := [.int 500, .int (nI n)]) (rest := []) ⟨hx, hb, hml, hown, hts⟩ (c_X3_isEnough l E M 0 Hb a k 500 n (by omega) (by omega) (by omega) (h4) (by omega) _) (cwV 2 hts gX3_waxWanted_X3_isEnough rfl rfl rfl ⟨rfl, hd_X3_isEnough⟩ ⟨Nat.le_of_ble_eq_true rfl, Nat.le_of_ble_eq_true rfl⟩) (pwV (ci := 3) (q0 := 0) (C := RX3) hw hK rfl rfl rfl (rpS (AV := [.ref (M 0), .int 500, .int (nI n)]) hw hK hG rp_75)) rfl rfl hl.1 rfl (lv_room (Nat.le_of_ble_eq_true rfl)) dX3_waxWanted_26 ⟨Nat.le_of_ble_eq_true rfl, Nat.le_of_ble_eq_true rfl⟩) hw hA rp_76 (fun H locs hw => ?_)
  refine lv_if_ne (tgt := 34) hx hb dX3_waxWanted_29 (by decide) (fun q8 => absurd (by rw [he]; rfl) q8) (fun _ => ?_)
  refine lv_iconst (v := (-1)) hx hb dX3_waxWanted_32 (by decide) ?_
  exact k_iret hx hb hr hlocks hK hw rfl dX3_waxWanted_33 rfl rfl
set_option maxHeartbeats 4000000 in
set_option maxRecDepth 100000 in
theorem c_X3_waxWanted (l : Launch) (E : Ev) (M : Nat → Nat) (th : Int32) (Hb : MH) (a k : Fn) (n : Nat) (K : Nat) (h1 : n_ns Hb ≤ 5) (h2 : n_np Hb ≤ 16) (h3 : n_nw Hb ≤ 4) (h4 : ∀ p, p < n_np Hb → n_so Hb p < 5) (hn1 : 1 ≤ n) (hn2 : n ≤ 60) (he : r_enough Hb a 500 n = true) (hK1 : ∀ i, i < K → (l_bs (fun w9 => r_enough Hb a (nI w9) n) i).1 < (l_bs (fun w9 => r_enough Hb a (nI w9) n) i).2) (hK2 : ¬ (l_bs (fun w9 => r_enough Hb a (nI w9) n) K).1 < (l_bs (fun w9 => r_enough Hb a (nI w9) n) K).2) : MI l E yX3_waxWanted wsX3_waxWanted rm_X3_waxWanted [.ref (M 0), .int (nI n)] (wN E M (th, Hb, a, k)) (nI ((l_bs (fun w9 => r_enough Hb a (nI w9) n) K).1)) (wN E M (0, Hb, a, a)) := by
  refine k_bI (cc := cX3_waxWanted) (maxL := 5) (ret := (some .int)) (by decide) rfl (Nat.le_of_ble_eq_true rfl) ?_
  intro p9 e s9 m args below meth c A9 ls hC hl hw
  obtain ⟨hx, hb, hml, hr, hown, hts, hlocks, hK, hG, hA⟩ := hC
  have hf29 := hts (.fieldLink RX3 29 "SailorCandlesModel" "thrown" "I") (List.mem_of_getElem? (i := 1) rfl)
  have hinX3 : ∀ w ∈ wsX30, w ∈ wsX3_waxWanted := fun w h => List.mem_cons_of_mem _ (List.mem_append_right _ h)
  have hl : lv_has ls 5 [(0, .ref (M 0)), (1, .int (nI n))] := hl
  refine lv_aload_n hx hb dX3_waxWanted_0 rfl (lv_at hl 0 rfl) ?_
  refine lv_iconst (v := 0) hx hb dX3_waxWanted_1 (by decide) ?_
  refine k_put (ci := 3) (C := RX3) (T := TX3) (N := 10) (ws' := wN E M (0, Hb, a, k)) hx hb hown hK hw hts hinX3 tyX3 tyX3_ok nmX3 0 rfl rfl 0 (by decide) hf29 rfl rfl (Nat.le_of_ble_eq_true rfl) dX3_waxWanted_2 rfl (fun H locs hw => ?_)
  refine lv_iload_n hx hb dX3_waxWanted_5 rfl (lv_at hl 1 rfl) ?_
  refine lv_iconst (v := 1) hx hb dX3_waxWanted_6 (by decide) ?_
  refine lv_bipush (v := 60) hx hb dX3_waxWanted_7 (by decide) ?_
  refine kr_i (ws' := wN E M (0, Hb, a, k)) (va_runS (As := [.int (nI n), .int 1, .int 60]) (rest := []) ⟨hx, hb, hml, hown, hts⟩ (c_X3_isIn l E (nI n) 1 60  _) (va_cwS 3 hts gX3_waxWanted_X3_isIn rfl rfl rfl hd_X3_isIn ⟨Nat.le_of_ble_eq_true rfl, Nat.le_of_ble_eq_true rfl⟩) (rpS (AV := [.int (nI n), .int 1, .int 60]) hw hK hG rp_74) rfl rfl hl.1 rfl (lv_room (Nat.le_of_ble_eq_true rfl)) dX3_waxWanted_9 ⟨Nat.le_of_ble_eq_true rfl, Nat.le_of_ble_eq_true rfl⟩) hw hA rp_74 (fun H locs hw => ?_)
  refine lv_if_ne (tgt := 21) hx hb dX3_waxWanted_12 (by decide) (fun _ => ?_) (fun q8 => absurd q8 (fun q7 => absurd ((d_in_lo (j := 1) (k := 60) (by omega) (by omega) (by omega)).symm.trans (bI_z q7)) (by decide)))
  refine lv_aload_n hx hb dX3_waxWanted_21 rfl (lv_at hl 0 rfl) ?_
  refine lv_sipush (v := 500) hx hb dX3_waxWanted_22 (by decide) ?_
  refine lv_iload_n hx hb dX3_waxWanted_25 rfl (lv_at hl 1 rfl) ?_
  refine kr_i (ws' := wN E M (0, Hb, a, a)) (va_runV (As := [.int 500, .int (nI n)]) (rest := []) ⟨hx, hb, hml, hown, hts⟩ (c_X3_isEnough l E M 0 Hb a k 500 n (by omega) (by omega) (by omega) (h4) (by omega) _) (cwV 2 hts gX3_waxWanted_X3_isEnough rfl rfl rfl ⟨rfl, hd_X3_isEnough⟩ ⟨Nat.le_of_ble_eq_true rfl, Nat.le_of_ble_eq_true rfl⟩) (pwV (ci := 3) (q0 := 0) (C := RX3) hw hK rfl rfl rfl (rpS (AV := [.ref (M 0), .int 500, .int (nI n)]) hw hK hG rp_75)) rfl rfl hl.1 rfl (lv_room (Nat.le_of_ble_eq_true rfl)) dX3_waxWanted_26 ⟨Nat.le_of_ble_eq_true rfl, Nat.le_of_ble_eq_true rfl⟩) hw hA rp_76 (fun H locs hw => ?_)
  refine lv_if_ne (tgt := 34) hx hb dX3_waxWanted_29 (by decide) (fun _ => ?_) (fun q8 => absurd q8 (fun q7 => absurd (he.symm.trans (bI_z q7)) (by decide)))
  refine lv_iconst (v := 0) hx hb dX3_waxWanted_34 (by decide) ?_
  refine lv_istore_n (lv' := [(2, .int 0), (0, .ref (M 0)), (1, .int (nI n))]) hx hb dX3_waxWanted_35 rfl hl (by decide) rfl (fun ls hl => ?_)
  refine lv_sipush (v := 500) hx hb dX3_waxWanted_36 (by decide) ?_
  refine lv_istore_n (lv' := [(3, .int 500), (2, .int 0), (0, .ref (M 0)), (1, .int (nI n))]) hx hb dX3_waxWanted_39 rfl hl (by decide) rfl (fun ls hl => ?_)
  have L_40 : ∀ (k9 i : Nat) (H : Heap) (locs : List Loc) (ls : Array Slot), i + k9 = K → Wd E A9 s9.heap (wN E M (0, Hb, a, a)) H locs → lv_has ls 5 [(0, .ref (M 0)), (1, .int (nI n)), (2, .int (nI ((l_bs (fun w9 => r_enough Hb a (nI w9) n) i).1))), (3, .int (nI ((l_bs (fun w9 => r_enough Hb a (nI w9) n) i).2)))] → W p9 l e rm_X3_waxWanted s9 m args below meth c H locs 0 0 (EndI E A9 (nI ((l_bs (fun w9 => r_enough Hb a (nI w9) n) K).1)) (wN E M (0, Hb, a, a)) below args s9 (rm_X3_waxWanted).cells (rm_X3_waxWanted).slots) (F0 m 40 ls []) := by
    intro k9
    induction k9 with
    | zero =>
      intro i H locs ls hi hw hl
      have hz_1 : K = i := by omega
      refine lv_iload_n hx hb dX3_waxWanted_40 rfl (lv_at hl 2 rfl) ?_
      refine lv_iload_n hx hb dX3_waxWanted_41 rfl (lv_at hl 3 rfl) ?_
      refine lv_icmp_ge (tgt := 76) hx hb dX3_waxWanted_42 (by decide) (fun _ => ?_) (fun q8 => absurd (nI_le (by have := hK2; rw [hz_1] at this; omega) (by have := l_bs_le _ i (fun j hj => hK1 j (by omega)); omega)) q8)
      refine lv_iload_n hx hb dX3_waxWanted_76 rfl (lv_at hl 2 rfl) ?_
      exact k_iret hx hb hr hlocks hK hw rfl dX3_waxWanted_77 (by subst hz_1; exact rfl) rfl
    | succ k9 ih_40 =>
      intro i H locs ls hi hw hl
      have hi9 : i < K := by omega
      refine lv_iload_n hx hb dX3_waxWanted_40 rfl (lv_at hl 2 rfl) ?_
      refine lv_iload_n hx hb dX3_waxWanted_41 rfl (lv_at hl 3 rfl) ?_
      refine lv_icmp_ge (tgt := 76) hx hb dX3_waxWanted_42 (by decide) (fun q8 => absurd q8 (nI_ge (hK1 i hi9) (by have := l_bs_le _ i (fun j hj => hK1 j (by omega)); omega))) (fun _ => ?_)
      refine lv_iload_n hx hb dX3_waxWanted_45 rfl (lv_at hl 2 rfl) ?_
      refine lv_iload_n hx hb dX3_waxWanted_46 rfl (lv_at hl 3 rfl) ?_
      refine k_iaddN (a := (l_bs (fun w9 => r_enough Hb a (nI w9) n) i).1) (b := (l_bs (fun w9 => r_enough Hb a (nI w9) n) i).2) hx hb dX3_waxWanted_47 ?_
      refine lv_iconst (v := 2) hx hb dX3_waxWanted_48 (by decide) ?_
      refine k_idivN (a := ((l_bs (fun w9 => r_enough Hb a (nI w9) n) i).1) + ((l_bs (fun w9 => r_enough Hb a (nI w9) n) i).2)) (k := 2) hx hb (by have := l_bs_le _ i (fun j hj => hK1 j (by omega)); omega) (by decide) (by decide) dX3_waxWanted_49 ?_
      refine lv_istore (lv' := [(4, .int (nI ((((l_bs (fun w9 => r_enough Hb a (nI w9) n) i).1) + ((l_bs (fun w9 => r_enough Hb a (nI w9) n) i).2)) / 2))), (0, .ref (M 0)), (1, .int (nI n)), (2, .int (nI ((l_bs (fun w9 => r_enough Hb a (nI w9) n) i).1))), (3, .int (nI ((l_bs (fun w9 => r_enough Hb a (nI w9) n) i).2)))]) hx hb dX3_waxWanted_50 hl (by decide) rfl (fun ls hl => ?_)
      refine lv_aload_n hx hb dX3_waxWanted_52 rfl (lv_at hl 1 rfl) ?_
      refine lv_iload hx hb dX3_waxWanted_53 (lv_at hl 0 rfl) ?_
      refine lv_iload_n hx hb dX3_waxWanted_55 rfl (lv_at hl 2 rfl) ?_
      refine kr_i (ws' := wN E M (0, Hb, a, a)) (va_runV (As := [.int (nI ((((l_bs (fun w9 => r_enough Hb a (nI w9) n) i).1) + ((l_bs (fun w9 => r_enough Hb a (nI w9) n) i).2)) / 2)), .int (nI n)]) (rest := []) ⟨hx, hb, hml, hown, hts⟩ (c_X3_isEnough l E M 0 Hb a a (nI ((((l_bs (fun w9 => r_enough Hb a (nI w9) n) i).1) + ((l_bs (fun w9 => r_enough Hb a (nI w9) n) i).2)) / 2)) n (by omega) (by omega) (by omega) (h4) (by omega) _) (cwV 2 hts gX3_waxWanted_X3_isEnough rfl rfl rfl ⟨rfl, hd_X3_isEnough⟩ ⟨Nat.le_of_ble_eq_true rfl, Nat.le_of_ble_eq_true rfl⟩) (pwV (ci := 3) (q0 := 0) (C := RX3) hw hK rfl rfl rfl (rpS (AV := [.ref (M 0), .int (nI ((((l_bs (fun w9 => r_enough Hb a (nI w9) n) i).1) + ((l_bs (fun w9 => r_enough Hb a (nI w9) n) i).2)) / 2)), .int (nI n)]) hw hK hG rp_75)) rfl rfl hl.1 rfl (lv_room (Nat.le_of_ble_eq_true rfl)) dX3_waxWanted_56 ⟨Nat.le_of_ble_eq_true rfl, Nat.le_of_ble_eq_true rfl⟩) hw hA rp_75 (fun H locs hw => ?_)
      refine lv_if_eq (tgt := 68) hx hb dX3_waxWanted_59 (by decide) (fun c_2 => ?_) (fun c_2 => ?_)
      · have c_2 := bI_z c_2
        refine lv_iload hx hb dX3_waxWanted_68 (lv_at hl 0 rfl) ?_
        refine lv_iconst (v := 1) hx hb dX3_waxWanted_70 (by decide) ?_
        refine k_iaddN (a := (((l_bs (fun w9 => r_enough Hb a (nI w9) n) i).1) + ((l_bs (fun w9 => r_enough Hb a (nI w9) n) i).2)) / 2) (b := 1) hx hb dX3_waxWanted_71 ?_
        refine lv_istore_n (lv' := [(2, .int (nI (((((l_bs (fun w9 => r_enough Hb a (nI w9) n) i).1) + ((l_bs (fun w9 => r_enough Hb a (nI w9) n) i).2)) / 2) + 1))), (4, .int (nI ((((l_bs (fun w9 => r_enough Hb a (nI w9) n) i).1) + ((l_bs (fun w9 => r_enough Hb a (nI w9) n) i).2)) / 2))), (0, .ref (M 0)), (1, .int (nI n)), (3, .int (nI ((l_bs (fun w9 => r_enough Hb a (nI w9) n) i).2)))]) hx hb dX3_waxWanted_72 rfl hl (by decide) rfl (fun ls hl => ?_)
        refine lv_goto (tgt := 40) hx hb dX3_waxWanted_73 (by decide) ?_
        exact ih_40 (i + 1) _ _ _ (by omega) hw (by rw [show (.int (nI ((l_bs (fun w9 => r_enough Hb a (nI w9) n) (i + 1)).1)) : Value) = .int (nI (((((l_bs (fun w9 => r_enough Hb a (nI w9) n) i).1) + ((l_bs (fun w9 => r_enough Hb a (nI w9) n) i).2)) / 2) + 1)) from (by simp only [l_bs, c_2, if_true, if_false, Bool.false_eq_true, Bool.true_eq_false, reduceIte, reduceCtorEq])]; rw [show (.int (nI ((l_bs (fun w9 => r_enough Hb a (nI w9) n) (i + 1)).2)) : Value) = .int (nI ((l_bs (fun w9 => r_enough Hb a (nI w9) n) i).2)) from (by simp only [l_bs, c_2, if_true, if_false, Bool.false_eq_true, Bool.true_eq_false, reduceIte, reduceCtorEq])]; exact lv_sub hl [2, 3, 0, 4] rfl)
      · have c_2 := bI_nz c_2
        refine lv_iload hx hb dX3_waxWanted_62 (lv_at hl 0 rfl) ?_
        refine lv_istore_n (lv' := [(3, .int (nI ((((l_bs (fun w9 => r_enough Hb a (nI w9) n) i).1) + ((l_bs (fun w9 => r_enough Hb a (nI w9) n) i).2)) / 2))), (4, .int (nI ((((l_bs (fun w9 => r_enough Hb a (nI w9) n) i).1) + ((l_bs (fun w9 => r_enough Hb a (nI w9) n) i).2)) / 2))), (0, .ref (M 0)), (1, .int (nI n)), (2, .int (nI ((l_bs (fun w9 => r_enough Hb a (nI w9) n) i).1)))]) hx hb dX3_waxWanted_64 rfl hl (by decide) rfl (fun ls hl => ?_)
        refine lv_goto (tgt := 73) hx hb dX3_waxWanted_65 (by decide) ?_
        refine lv_goto (tgt := 40) hx hb dX3_waxWanted_73 (by decide) ?_
        exact ih_40 (i + 1) _ _ _ (by omega) hw (by rw [show (.int (nI ((l_bs (fun w9 => r_enough Hb a (nI w9) n) (i + 1)).1)) : Value) = .int (nI ((l_bs (fun w9 => r_enough Hb a (nI w9) n) i).1)) from (by simp only [l_bs, c_2, if_true, if_false, Bool.false_eq_true, Bool.true_eq_false, reduceIte, reduceCtorEq])]; rw [show (.int (nI ((l_bs (fun w9 => r_enough Hb a (nI w9) n) (i + 1)).2)) : Value) = .int (nI ((((l_bs (fun w9 => r_enough Hb a (nI w9) n) i).1) + ((l_bs (fun w9 => r_enough Hb a (nI w9) n) i).2)) / 2)) from (by simp only [l_bs, c_2, if_true, if_false, Bool.false_eq_true, Bool.true_eq_false, reduceIte, reduceCtorEq])]; exact lv_sub hl [2, 3, 4, 0] rfl)
  exact L_40 (K - 0) 0 _ _ _ (by omega) hw (lv_sub hl [2, 3, 1, 0] rfl)
abbrev rm_X3_meanTrust : Room := { frames := 0, cells := 0, slots := 0, locals := 0 }
set_option maxHeartbeats 4000000 in
set_option maxRecDepth 100000 in
theorem c_X3_meanTrust (l : Launch) (E : Ev) (M : Nat → Nat) (th : Int32) (Hb : MH) (a k : Fn) (h1 : n_ns Hb ≤ 5) (h2 : n_np Hb ≤ 16) (h3 : n_nw Hb ≤ 4) (h4 : ∀ p, p < n_np Hb → n_so Hb p < 5) (hnan : ¬ nI (n_nw Hb) = 0 → vf_n64 (FP.ddiv (FP.i2d (l_msum a (n_nw Hb))) (FP.i2d (nI (n_nw Hb))))) : MD l E yX3_meanTrust wsX3_meanTrust rm_X3_meanTrust [.ref (M 0)] (wN E M (th, Hb, a, k)) (r_mean Hb a) (wN E M (0, Hb, a, k)) := by
  refine k_bD (cc := cX3_meanTrust) (maxL := 3) (ret := (some .double)) (by decide) rfl (Nat.le_of_ble_eq_true rfl) ?_
  intro p9 e s9 m args below meth c A9 ls hC hl hw
  obtain ⟨hx, hb, hml, hr, hown, hts, hlocks, hK, hG, hA⟩ := hC
  have hf29 := hts (.fieldLink RX3 29 "SailorCandlesModel" "thrown" "I") (List.mem_of_getElem? (i := 1) rfl)
  have hinX3 : ∀ w ∈ wsX30, w ∈ wsX3_meanTrust := fun w h => List.mem_cons_of_mem _ (List.mem_append_right _ h)
  have hf43 := hts (.fieldLink RX3 43 "SailorCandlesModel" "watchers" "I") (List.mem_of_getElem? (i := 2) rfl)
  have hf23 := hts (.fieldLink RX3 23 "SailorCandlesModel" "now" "[I") (List.mem_of_getElem? (i := 3) rfl)
  have hl : lv_has ls 3 [(0, .ref (M 0))] := hl
  refine lv_aload_n hx hb dX3_meanTrust_0 rfl (lv_at hl 0 rfl) ?_
  refine lv_iconst (v := 0) hx hb dX3_meanTrust_1 (by decide) ?_
  refine k_put (ci := 3) (C := RX3) (T := TX3) (N := 10) (ws' := wN E M (0, Hb, a, k)) hx hb hown hK hw hts hinX3 tyX3 tyX3_ok nmX3 0 rfl rfl 0 (by decide) hf29 rfl rfl (Nat.le_of_ble_eq_true rfl) dX3_meanTrust_2 rfl (fun H locs hw => ?_)
  refine lv_iconst (v := 0) hx hb dX3_meanTrust_5 (by decide) ?_
  refine lv_istore_n (lv' := [(1, .int 0), (0, .ref (M 0))]) hx hb dX3_meanTrust_6 rfl hl (by decide) rfl (fun ls hl => ?_)
  refine lv_iconst (v := 0) hx hb dX3_meanTrust_7 (by decide) ?_
  refine lv_istore_n (lv' := [(2, .int 0), (1, .int 0), (0, .ref (M 0))]) hx hb dX3_meanTrust_8 rfl hl (by decide) rfl (fun ls hl => ?_)
  have L_9 : ∀ (k9 i : Nat) (H : Heap) (locs : List Loc) (ls : Array Slot), i + k9 = (n_nw Hb) → Wd E A9 s9.heap (wN E M (0, Hb, a, k)) H locs → lv_has ls 3 [(0, .ref (M 0)), (1, .int (l_msum a i)), (2, .int (nI i))] → W p9 l e rm_X3_meanTrust s9 m args below meth c H locs 0 0 (EndD E A9 (r_mean Hb a) (wN E M (0, Hb, a, k)) below args s9 (rm_X3_meanTrust).cells (rm_X3_meanTrust).slots) (F0 m 9 ls []) := by
    intro k9
    induction k9 with
    | zero =>
      intro i H locs ls hi hw hl
      have hz_1 : n_nw Hb = i := by omega
      refine lv_iload_n hx hb dX3_meanTrust_9 rfl (lv_at hl 2 rfl) ?_
      refine lv_aload_n hx hb dX3_meanTrust_10 rfl (lv_at hl 0 rfl) ?_
      refine k_get (ci := 3) (v := .int (nI (n_nw Hb))) (C := RX3) (T := TX3) (N := 10) hx hb hown hK hw hts hinX3 0 rfl rfl 7 (by decide) hf43 rfl dX3_meanTrust_11 ?_
      refine lv_icmp_ge (tgt := 35) hx hb dX3_meanTrust_14 (by decide) (fun _ => ?_) (fun q8 => absurd (by rw [← hz_1]; exact Int32.le_refl _) q8)
      refine lv_aload_n hx hb dX3_meanTrust_35 rfl (lv_at hl 0 rfl) ?_
      refine k_get (ci := 3) (v := .int (nI (n_nw Hb))) (C := RX3) (T := TX3) (N := 10) hx hb hown hK hw hts hinX3 0 rfl rfl 7 (by decide) hf43 rfl dX3_meanTrust_36 ?_
      refine lv_if_ne (tgt := 46) hx hb dX3_meanTrust_39 (by decide) (fun c_2 => ?_) (fun c_2 => ?_)
      · refine lv_iload_n hx hb dX3_meanTrust_46 rfl (lv_at hl 1 rfl) ?_
        refine lv_i2d hx hb dX3_meanTrust_47 ?_
        refine lv_aload_n hx hb dX3_meanTrust_48 rfl (lv_at hl 0 rfl) ?_
        refine k_get (ci := 3) (v := .int (nI (n_nw Hb))) (C := RX3) (T := TX3) (N := 10) hx hb hown hK hw hts hinX3 0 rfl rfl 7 (by decide) hf43 rfl dX3_meanTrust_49 ?_
        refine lv_i2d hx hb dX3_meanTrust_52 ?_
        refine lv_ddiv hx hb dX3_meanTrust_53 (by subst hz_1; exact hnan c_2) ?_
        exact k_dret hx hb hr hlocks hK hw dX3_meanTrust_54 (by subst hz_1; first | assumption | (simp only [r_mean, l_msum, if_neg c_2, if_true, if_false, Bool.false_eq_true, Bool.true_eq_false, reduceIte, reduceCtorEq]; done) | (simp only [r_mean, l_msum, if_neg c_2, if_true, if_false, Bool.false_eq_true, Bool.true_eq_false, reduceIte, reduceCtorEq]; rfl) | rfl | (simp [r_mean, l_msum, if_neg c_2, if_true, if_false, Bool.false_eq_true, Bool.true_eq_false, reduceIte, reduceCtorEq]; done) | (simp [bI, r_mean, l_msum, c_2]; done)) rfl
      · refine lv_dconst0 hx hb dX3_meanTrust_42 ?_
        refine lv_goto (tgt := 54) hx hb dX3_meanTrust_43 (by decide) ?_
        exact k_dret hx hb hr hlocks hK hw dX3_meanTrust_54 (by subst hz_1; first | assumption | (simp only [r_mean, l_msum, if_pos c_2, if_true, if_false, Bool.false_eq_true, Bool.true_eq_false, reduceIte, reduceCtorEq]; done) | (simp only [r_mean, l_msum, if_pos c_2, if_true, if_false, Bool.false_eq_true, Bool.true_eq_false, reduceIte, reduceCtorEq]; rfl) | rfl | (simp [r_mean, l_msum, if_pos c_2, if_true, if_false, Bool.false_eq_true, Bool.true_eq_false, reduceIte, reduceCtorEq]; done) | (simp [bI, r_mean, l_msum, c_2]; done)) rfl
    | succ k9 ih_9 =>
      intro i H locs ls hi hw hl
      have hi9 : i < n_nw Hb := by omega
      refine lv_iload_n hx hb dX3_meanTrust_9 rfl (lv_at hl 2 rfl) ?_
      refine lv_aload_n hx hb dX3_meanTrust_10 rfl (lv_at hl 0 rfl) ?_
      refine k_get (ci := 3) (v := .int (nI (n_nw Hb))) (C := RX3) (T := TX3) (N := 10) hx hb hown hK hw hts hinX3 0 rfl rfl 7 (by decide) hf43 rfl dX3_meanTrust_11 ?_
      refine lv_icmp_ge (tgt := 35) hx hb dX3_meanTrust_14 (by decide) (fun q8 => absurd q8 (nI_ge (a := i) (b := n_nw Hb) (by omega) (by omega))) (fun _ => ?_)
      refine lv_iload_n hx hb dX3_meanTrust_17 rfl (lv_at hl 1 rfl) ?_
      refine lv_aload_n hx hb dX3_meanTrust_18 rfl (lv_at hl 0 rfl) ?_
      refine k_get (ci := 3) (v := .ref (M 5)) (C := RX3) (T := TX3) (N := 10) hx hb hown hK hw hts hinX3 0 rfl rfl 8 (by decide) hf23 rfl dX3_meanTrust_19 ?_
      refine lv_bipush (v := 50) hx hb dX3_meanTrust_22 (by decide) ?_
      refine lv_iload_n hx hb dX3_meanTrust_24 rfl (lv_at hl 2 rfl) ?_
      refine k_iaddN (a := 50) (b := i) hx hb dX3_meanTrust_25 ?_
      refine k_ildN (i := 50 + i) (f := a) hx hb hK hw 5 rfl (by omega) (by omega) dX3_meanTrust_26 ?_
      refine lv_iadd hx hb dX3_meanTrust_27 ?_
      refine lv_istore_n (lv' := [(1, .int ((l_msum a i) + (a (50 + i)))), (0, .ref (M 0)), (2, .int (nI i))]) hx hb dX3_meanTrust_28 rfl hl (by decide) rfl (fun ls hl => ?_)
      refine lv_iinc (v := nI (i + 1)) (lv' := [(2, .int (nI (i + 1))), (1, .int ((l_msum a i) + (a (50 + i)))), (0, .ref (M 0))]) hx hb dX3_meanTrust_29 hl (k := 2) rfl (nI_add i 1) (by decide) rfl (fun ls hl => ?_)
      refine lv_goto (tgt := 9) hx hb dX3_meanTrust_32 (by decide) ?_
      exact ih_9 (i + 1) _ _ _ (by omega) hw (by rw [show (.int (l_msum a (i + 1)) : Value) = .int ((l_msum a i) + (a (50 + i))) from (by first | rfl | assumption | (simp only [r_mean, l_msum, if_true, if_false, Bool.false_eq_true, Bool.true_eq_false, reduceIte, reduceCtorEq]; done) | (simp only [r_mean, l_msum, if_true, if_false, Bool.false_eq_true, Bool.true_eq_false, reduceIte, reduceCtorEq]; rfl) | (simp [r_mean, l_msum, if_true, if_false, Bool.false_eq_true, Bool.true_eq_false, reduceIte, reduceCtorEq]; done) | (simp [bI, r_mean, l_msum]; done))]; exact lv_sub hl [2, 1, 0] rfl)
  exact L_9 ((n_nw Hb) - 0) 0 _ _ _ (by omega) hw (lv_sub hl [2, 1, 0] rfl)
abbrev rm_X3_digest : Room := { frames := 4, cells := 22, slots := 129, locals := 85 }
set_option maxHeartbeats 4000000 in
set_option maxRecDepth 100000 in
theorem c_X3_digest (l : Launch) (E : Ev) (M : Nat → Nat) (th : Int32) (Hb : MH) (a k : Fn) (h1 : n_ns Hb ≤ 5) (h2 : n_np Hb ≤ 16) (h3 : n_nw Hb ≤ 4) (h4 : ∀ p, p < n_np Hb → n_so Hb p < 5) : ML l E yX3_digest wsX3_digest rm_X3_digest [.ref (M 0)] (wN E M (th, Hb, a, k)) (r_digest Hb a) (wN E M (0, Hb, a, k)) := by
  refine k_bL (cc := cX3_digest) (maxL := 11) (ret := (some .long)) (by decide) rfl (Nat.le_of_ble_eq_true rfl) ?_
  intro p9 e s9 m args below meth c A9 ls hC hl hw
  obtain ⟨hx, hb, hml, hr, hown, hts, hlocks, hK, hG, hA⟩ := hC
  have hf29 := hts (.fieldLink RX3 29 "SailorCandlesModel" "thrown" "I") (List.mem_of_getElem? (i := 1) rfl)
  have hinX3 : ∀ w ∈ wsX30, w ∈ wsX3_digest := fun w h => List.mem_cons_of_mem _ (List.mem_append_right _ h)
  have hq2 := hts (.arrayClass .int) (List.mem_of_getElem? (i := 2) rfl)
  have hf33 := hts (.fieldLink RX3 33 "SailorCandlesModel" "ships" "I") (List.mem_of_getElem? (i := 3) rfl)
  have hf40 := hts (.fieldLink RX3 40 "SailorCandlesModel" "sailors" "I") (List.mem_of_getElem? (i := 4) rfl)
  have hf43 := hts (.fieldLink RX3 43 "SailorCandlesModel" "watchers" "I") (List.mem_of_getElem? (i := 5) rfl)
  have hf23 := hts (.fieldLink RX3 23 "SailorCandlesModel" "now" "[I") (List.mem_of_getElem? (i := 6) rfl)
  have hf13 := hts (.fieldLink RX3 13 "SailorCandlesModel" "shipOf" "[I") (List.mem_of_getElem? (i := 10) rfl)
  have hf16 := hts (.fieldLink RX3 16 "SailorCandlesModel" "mastOf" "[I") (List.mem_of_getElem? (i := 11) rfl)
  have hf19 := hts (.fieldLink RX3 19 "SailorCandlesModel" "voter" "[Z") (List.mem_of_getElem? (i := 12) rfl)
  have hf9 := hts (.fieldLink RX3 9 "SailorCandlesModel" "masts" "[I") (List.mem_of_getElem? (i := 9) rfl)
  have hl : lv_has ls 11 [(0, .ref (M 0))] := hl
  refine lv_aload_n hx hb dX3_digest_0 rfl (lv_at hl 0 rfl) ?_
  refine lv_iconst (v := 0) hx hb dX3_digest_1 (by decide) ?_
  refine k_put (ci := 3) (C := RX3) (T := TX3) (N := 10) (ws' := wN E M (0, Hb, a, k)) hx hb hown hK hw hts hinX3 tyX3 tyX3_ok nmX3 0 rfl rfl 0 (by decide) hf29 rfl rfl (Nat.le_of_ble_eq_true rfl) dX3_digest_2 rfl (fun H locs hw => ?_)
  refine lv_bipush (v := 9) hx hb dX3_digest_5 (by decide) ?_
  refine k_newI (N := 9) hx hb hq2 hK hw hA (by decide) (Nat.le_of_ble_eq_true rfl) (Nat.le_of_ble_eq_true rfl) dX3_digest_7 (fun q7 H hw => ?_)
  have hw : Wd E A9 s9.heap (wN E M (0, Hb, a, k) ++ [(q7, aI E 9 (fun _ => 0))]) H _ := hw
  refine lv_dup hx hb dX3_digest_9 rfl ?_
  refine lv_iconst (v := 0) hx hb dX3_digest_10 (by decide) ?_
  refine lv_aload_n hx hb dX3_digest_11 rfl (lv_at hl 0 rfl) ?_
  refine k_get (ci := 3) (v := .int (nI (n_ns Hb))) (C := RX3) (T := TX3) (N := 10) hx hb hown hK hw hts hinX3 0 rfl rfl 1 (by decide) hf33 rfl dX3_digest_12 ?_
  refine k_istN (i := 0) (ws' := wN E M (0, Hb, a, k) ++ [(q7, aI E 9 (upd (fun _ => 0) 0 (nI (n_ns Hb))))]) hx hb hK hw 7 rfl (by omega) (by omega) dX3_digest_15 rfl (fun H locs hw => ?_)
  refine lv_dup hx hb dX3_digest_16 rfl ?_
  refine lv_iconst (v := 1) hx hb dX3_digest_17 (by decide) ?_
  refine lv_aload_n hx hb dX3_digest_18 rfl (lv_at hl 0 rfl) ?_
  refine k_get (ci := 3) (v := .int (nI (n_np Hb))) (C := RX3) (T := TX3) (N := 10) hx hb hown hK hw hts hinX3 0 rfl rfl 3 (by decide) hf40 rfl dX3_digest_19 ?_
  refine k_istN (i := 1) (ws' := wN E M (0, Hb, a, k) ++ [(q7, aI E 9 (upd (upd (fun _ => 0) 0 (nI (n_ns Hb))) 1 (nI (n_np Hb))))]) hx hb hK hw 7 rfl (by omega) (by omega) dX3_digest_22 rfl (fun H locs hw => ?_)
  refine lv_dup hx hb dX3_digest_23 rfl ?_
  refine lv_iconst (v := 2) hx hb dX3_digest_24 (by decide) ?_
  refine lv_aload_n hx hb dX3_digest_25 rfl (lv_at hl 0 rfl) ?_
  refine k_get (ci := 3) (v := .int (nI (n_nw Hb))) (C := RX3) (T := TX3) (N := 10) hx hb hown hK hw hts hinX3 0 rfl rfl 7 (by decide) hf43 rfl dX3_digest_26 ?_
  refine k_istN (i := 2) (ws' := wN E M (0, Hb, a, k) ++ [(q7, aI E 9 (upd (upd (upd (fun _ => 0) 0 (nI (n_ns Hb))) 1 (nI (n_np Hb))) 2 (nI (n_nw Hb))))]) hx hb hK hw 7 rfl (by omega) (by omega) dX3_digest_29 rfl (fun H locs hw => ?_)
  refine lv_dup hx hb dX3_digest_30 rfl ?_
  refine lv_iconst (v := 3) hx hb dX3_digest_31 (by decide) ?_
  refine lv_aload_n hx hb dX3_digest_32 rfl (lv_at hl 0 rfl) ?_
  refine kr_i (ws' := wN E M (0, Hb, a, k) ++ [(q7, aI E 9 (upd (upd (upd (fun _ => 0) 0 (nI (n_ns Hb))) 1 (nI (n_np Hb))) 2 (nI (n_nw Hb))))]) (va_runV (As := []) (rest := [.int 3, .ref q7, .ref q7]) ⟨hx, hb, hml, hown, hts⟩ (c_X3_allSightings l E M 0 Hb a k (by omega) (by omega) (by omega) (h4) _) (cwV 0 hts gX3_digest_X3_allSightings rfl rfl rfl ⟨rfl, hd_X3_allSightings⟩ ⟨Nat.le_of_ble_eq_true rfl, Nat.le_of_ble_eq_true rfl⟩) (pwV (ci := 3) (q0 := 0) (C := RX3) hw hK rfl rfl rfl (rpS (AV := [.ref (M 0)]) hw hK hG rp_77)) rfl rfl hl.1 rfl (lv_room (Nat.le_of_ble_eq_true rfl)) dX3_digest_33 ⟨Nat.le_of_ble_eq_true rfl, Nat.le_of_ble_eq_true rfl⟩) hw hA rp_77 (fun H locs hw => ?_)
  refine k_istN (i := 3) (ws' := wN E M (0, Hb, a, k) ++ [(q7, aI E 9 (upd (upd (upd (upd (fun _ => 0) 0 (nI (n_ns Hb))) 1 (nI (n_np Hb))) 2 (nI (n_nw Hb))) 3 (l_mal a 20)))]) hx hb hK hw 7 rfl (by omega) (by omega) dX3_digest_36 rfl (fun H locs hw => ?_)
  refine lv_dup hx hb dX3_digest_37 rfl ?_
  refine lv_iconst (v := 4) hx hb dX3_digest_38 (by decide) ?_
  refine lv_aload_n hx hb dX3_digest_39 rfl (lv_at hl 0 rfl) ?_
  refine k_get (ci := 3) (v := .ref (M 5)) (C := RX3) (T := TX3) (N := 10) hx hb hown hK hw hts hinX3 0 rfl rfl 8 (by decide) hf23 rfl dX3_digest_40 ?_
  refine lv_iconst (v := 0) hx hb dX3_digest_43 (by decide) ?_
  refine k_ildN (i := 0) (f := a) hx hb hK hw 5 rfl (by omega) (by omega) dX3_digest_44 ?_
  refine k_istN (i := 4) (ws' := wN E M (0, Hb, a, k) ++ [(q7, aI E 9 (upd (upd (upd (upd (upd (fun _ => 0) 0 (nI (n_ns Hb))) 1 (nI (n_np Hb))) 2 (nI (n_nw Hb))) 3 (l_mal a 20)) 4 (a 0)))]) hx hb hK hw 7 rfl (by omega) (by omega) dX3_digest_45 rfl (fun H locs hw => ?_)
  refine lv_dup hx hb dX3_digest_46 rfl ?_
  refine lv_iconst (v := 5) hx hb dX3_digest_47 (by decide) ?_
  refine lv_aload_n hx hb dX3_digest_48 rfl (lv_at hl 0 rfl) ?_
  refine k_get (ci := 3) (v := .ref (M 5)) (C := RX3) (T := TX3) (N := 10) hx hb hown hK hw hts hinX3 0 rfl rfl 8 (by decide) hf23 rfl dX3_digest_49 ?_
  refine lv_iconst (v := 1) hx hb dX3_digest_52 (by decide) ?_
  refine k_ildN (i := 1) (f := a) hx hb hK hw 5 rfl (by omega) (by omega) dX3_digest_53 ?_
  refine k_istN (i := 5) (ws' := wN E M (0, Hb, a, k) ++ [(q7, aI E 9 (upd (upd (upd (upd (upd (upd (fun _ => 0) 0 (nI (n_ns Hb))) 1 (nI (n_np Hb))) 2 (nI (n_nw Hb))) 3 (l_mal a 20)) 4 (a 0)) 5 (a 1)))]) hx hb hK hw 7 rfl (by omega) (by omega) dX3_digest_54 rfl (fun H locs hw => ?_)
  refine lv_dup hx hb dX3_digest_55 rfl ?_
  refine lv_bipush (v := 6) hx hb dX3_digest_56 (by decide) ?_
  refine lv_aload_n hx hb dX3_digest_58 rfl (lv_at hl 0 rfl) ?_
  refine kr_i (ws' := wN E M (0, Hb, a, k) ++ [(q7, aI E 9 (upd (upd (upd (upd (upd (upd (fun _ => 0) 0 (nI (n_ns Hb))) 1 (nI (n_np Hb))) 2 (nI (n_nw Hb))) 3 (l_mal a 20)) 4 (a 0)) 5 (a 1)))]) (va_runV (As := []) (rest := [.int 6, .ref q7, .ref q7]) ⟨hx, hb, hml, hown, hts⟩ (c_X3_allDark l E M 0 Hb a k (by omega) (by omega) (by omega) (h4) _) (cwV 0 hts gX3_digest_X3_allDark rfl rfl rfl ⟨rfl, hd_X3_allDark⟩ ⟨Nat.le_of_ble_eq_true rfl, Nat.le_of_ble_eq_true rfl⟩) (pwV (ci := 3) (q0 := 0) (C := RX3) hw hK rfl rfl rfl (rpS (AV := [.ref (M 0)]) hw hK hG rp_77)) rfl rfl hl.1 rfl (lv_room (Nat.le_of_ble_eq_true rfl)) dX3_digest_59 ⟨Nat.le_of_ble_eq_true rfl, Nat.le_of_ble_eq_true rfl⟩) hw hA rp_77 (fun H locs hw => ?_)
  refine k_istN (i := 6) (ws' := wN E M (0, Hb, a, k) ++ [(q7, aI E 9 (upd (upd (upd (upd (upd (upd (upd (fun _ => 0) 0 (nI (n_ns Hb))) 1 (nI (n_np Hb))) 2 (nI (n_nw Hb))) 3 (l_mal a 20)) 4 (a 0)) 5 (a 1)) 6 (l_mdk Hb a (n_np Hb))))]) hx hb hK hw 7 rfl (by omega) (by omega) dX3_digest_62 rfl (fun H locs hw => ?_)
  refine lv_dup hx hb dX3_digest_63 rfl ?_
  refine lv_bipush (v := 7) hx hb dX3_digest_64 (by decide) ?_
  refine lv_aload_n hx hb dX3_digest_66 rfl (lv_at hl 0 rfl) ?_
  refine k_get (ci := 3) (v := .ref (M 5)) (C := RX3) (T := TX3) (N := 10) hx hb hown hK hw hts hinX3 0 rfl rfl 8 (by decide) hf23 rfl dX3_digest_67 ?_
  refine lv_iconst (v := 2) hx hb dX3_digest_70 (by decide) ?_
  refine k_ildN (i := 2) (f := a) hx hb hK hw 5 rfl (by omega) (by omega) dX3_digest_71 ?_
  refine k_istN (i := 7) (ws' := wN E M (0, Hb, a, k) ++ [(q7, aI E 9 (upd (upd (upd (upd (upd (upd (upd (upd (fun _ => 0) 0 (nI (n_ns Hb))) 1 (nI (n_np Hb))) 2 (nI (n_nw Hb))) 3 (l_mal a 20)) 4 (a 0)) 5 (a 1)) 6 (l_mdk Hb a (n_np Hb))) 7 (a 2)))]) hx hb hK hw 7 rfl (by omega) (by omega) dX3_digest_72 rfl (fun H locs hw => ?_)
  refine lv_dup hx hb dX3_digest_73 rfl ?_
  refine lv_bipush (v := 8) hx hb dX3_digest_74 (by decide) ?_
  refine lv_aload_n hx hb dX3_digest_76 rfl (lv_at hl 0 rfl) ?_
  refine kr_i (ws' := wN E M (0, Hb, a, k) ++ [(q7, aI E 9 (upd (upd (upd (upd (upd (upd (upd (upd (fun _ => 0) 0 (nI (n_ns Hb))) 1 (nI (n_np Hb))) 2 (nI (n_nw Hb))) 3 (l_mal a 20)) 4 (a 0)) 5 (a 1)) 6 (l_mdk Hb a (n_np Hb))) 7 (a 2)))]) (va_runV (As := []) (rest := [.int 8, .ref q7, .ref q7]) ⟨hx, hb, hml, hown, hts⟩ (c_X3_onWall l E M 0 Hb a k (by omega) (by omega) (by omega) (h4) _) (cwV 0 hts gX3_digest_X3_onWall rfl rfl rfl ⟨rfl, hd_X3_onWall⟩ ⟨Nat.le_of_ble_eq_true rfl, Nat.le_of_ble_eq_true rfl⟩) (pwV (ci := 3) (q0 := 0) (C := RX3) hw hK rfl rfl rfl (rpS (AV := [.ref (M 0)]) hw hK hG rp_77)) rfl rfl hl.1 rfl (lv_room (Nat.le_of_ble_eq_true rfl)) dX3_digest_77 ⟨Nat.le_of_ble_eq_true rfl, Nat.le_of_ble_eq_true rfl⟩) hw hA rp_77 (fun H locs hw => ?_)
  refine k_istN (i := 8) (ws' := wN E M (0, Hb, a, k) ++ [(q7, aI E 9 (upd (upd (upd (upd (upd (upd (upd (upd (upd (fun _ => 0) 0 (nI (n_ns Hb))) 1 (nI (n_np Hb))) 2 (nI (n_nw Hb))) 3 (l_mal a 20)) 4 (a 0)) 5 (a 1)) 6 (l_mdk Hb a (n_np Hb))) 7 (a 2)) 8 (l_mwl Hb a (n_np Hb))))]) hx hb hK hw 7 rfl (by omega) (by omega) dX3_digest_80 rfl (fun H locs hw => ?_)
  refine lv_astore_n (lv' := [(1, .ref q7), (0, .ref (M 0))]) hx hb dX3_digest_81 rfl hl (by decide) rfl (fun ls hl => ?_)
  refine lv_ldc2 (v := 1949) hx hb hown (hts (.constantLong RX3 148 1949) (by decide +kernel)) dX3_digest_82 ?_
  refine lv_lstore_n (lv' := [(2, .long 1949), (1, .ref q7), (0, .ref (M 0))]) hx hb dX3_digest_85 rfl hl (by decide) rfl (fun ls hl => ?_)
  refine lv_aload_n hx hb dX3_digest_86 rfl (lv_at hl 1 rfl) ?_
  refine lv_astore (lv' := [(4, .ref q7), (2, .long 1949), (1, .ref q7), (0, .ref (M 0))]) hx hb dX3_digest_87 hl (by decide) rfl (fun ls hl => ?_)
  refine lv_aload hx hb dX3_digest_89 (lv_at hl 0 rfl) ?_
  refine k_lenI hx hb hK hw 7 rfl dX3_digest_91 ?_
  refine lv_istore (lv' := [(5, .int (nI 9)), (4, .ref q7), (2, .long 1949), (1, .ref q7), (0, .ref (M 0))]) hx hb dX3_digest_92 hl (by decide) rfl (fun ls hl => ?_)
  have hw : Wd E A9 s9.heap (wN E M (0, Hb, a, k) ++ [(q7, aI E 9 (x_all Hb a))]) H locs := hw
  refine lv_iconst (v := 0) hx hb dX3_digest_94 (by decide) ?_
  refine lv_istore (lv' := [(6, .int 0), (5, .int (nI 9)), (4, .ref q7), (2, .long 1949), (1, .ref q7), (0, .ref (M 0))]) hx hb dX3_digest_95 hl (by decide) rfl (fun ls hl => ?_)
  have L_97 : ∀ (k9 i1 : Nat) (H : Heap) (locs : List Loc) (ls : Array Slot), i1 + k9 = 9 → Wd E A9 s9.heap (wN E M (0, Hb, a, k) ++ [(q7, aI E 9 (x_all Hb a))]) H locs → lv_has ls 11 [(0, .ref (M 0)), (2, .long (l_mix (x_all Hb a) 1949 i1)), (4, .ref q7), (5, .int (nI 9)), (6, .int (nI i1))] → W p9 l e rm_X3_digest s9 m args below meth c H locs 1 9 (EndL E A9 (r_digest Hb a) (wN E M (0, Hb, a, k)) below args s9 (rm_X3_digest).cells (rm_X3_digest).slots) (F0 m 97 ls []) := by
    intro k9
    induction k9 with
    | zero =>
      intro i1 H locs ls hi hw hl
      have hz_1 : 9 = i1 := by omega
      refine lv_iload hx hb dX3_digest_97 (lv_at hl 4 rfl) ?_
      refine lv_iload hx hb dX3_digest_99 (lv_at hl 3 rfl) ?_
      refine lv_icmp_ge (tgt := 127) hx hb dX3_digest_101 (by decide) (fun _ => ?_) (fun q8 => absurd (by rw [← hz_1]; exact Int32.le_refl _) q8)
      have hw := Wd.drop hw
      refine lv_iconst (v := 0) hx hb dX3_digest_127 (by decide) ?_
      refine lv_istore (lv' := [(4, .int 0), (0, .ref (M 0)), (2, .long (l_mix (x_all Hb a) 1949 i1)), (5, .int (nI 9)), (6, .int (nI i1))]) hx hb dX3_digest_128 hl (by decide) rfl (fun ls hl => ?_)
      have L_130 : ∀ (k9 i2 : Nat) (H : Heap) (locs : List Loc) (ls : Array Slot), i2 + k9 = (n_ns Hb) → Wd E A9 s9.heap (wN E M (0, Hb, a, k)) H locs → lv_has ls 11 [(0, .ref (M 0)), (2, .long (l_dgS Hb a ((l_mix (x_all Hb a) 1949 i1)) i2)), (4, .int (nI i2))] → W p9 l e rm_X3_digest s9 m args below meth c H locs ((1) + i2) ((9) + 8 * i2) (EndL E A9 (r_digest Hb a) (wN E M (0, Hb, a, k)) below args s9 (rm_X3_digest).cells (rm_X3_digest).slots) (F0 m 130 ls []) := by
        intro k9
        induction k9 with
        | zero =>
          intro i2 H locs ls hi hw hl
          have hz_2 : n_ns Hb = i2 := by omega
          refine lv_iload hx hb dX3_digest_130 (lv_at hl 2 rfl) ?_
          refine lv_aload_n hx hb dX3_digest_132 rfl (lv_at hl 0 rfl) ?_
          refine k_get (ci := 3) (v := .int (nI (n_ns Hb))) (C := RX3) (T := TX3) (N := 10) hx hb hown hK hw hts hinX3 0 rfl rfl 1 (by decide) hf33 rfl dX3_digest_133 ?_
          refine lv_icmp_ge (tgt := 302) hx hb dX3_digest_136 (by decide) (fun _ => ?_) (fun q8 => absurd (by rw [← hz_2]; exact Int32.le_refl _) q8)
          refine lv_iconst (v := 0) hx hb dX3_digest_302 (by decide) ?_
          refine lv_istore (lv' := [(4, .int 0), (0, .ref (M 0)), (2, .long (l_dgS Hb a ((l_mix (x_all Hb a) 1949 i1)) i2))]) hx hb dX3_digest_303 hl (by decide) rfl (fun ls hl => ?_)
          have L_305 : ∀ (k9 i3 : Nat) (H : Heap) (locs : List Loc) (ls : Array Slot), i3 + k9 = (n_np Hb) → Wd E A9 s9.heap (wN E M (0, Hb, a, k)) H locs → lv_has ls 11 [(0, .ref (M 0)), (2, .long (l_dgP Hb a ((l_dgS Hb a ((l_mix (x_all Hb a) 1949 i1)) i2)) i3)), (4, .int (nI i3))] → W p9 l e rm_X3_digest s9 m args below meth c H locs ((((1) + i2)) + i3) ((((9) + 8 * i2)) + 5 * i3) (EndL E A9 (r_digest Hb a) (wN E M (0, Hb, a, k)) below args s9 (rm_X3_digest).cells (rm_X3_digest).slots) (F0 m 305 ls []) := by
            intro k9
            induction k9 with
            | zero =>
              intro i3 H locs ls hi hw hl
              have hz_3 : n_np Hb = i3 := by omega
              refine lv_iload hx hb dX3_digest_305 (lv_at hl 2 rfl) ?_
              refine lv_aload_n hx hb dX3_digest_307 rfl (lv_at hl 0 rfl) ?_
              refine k_get (ci := 3) (v := .int (nI (n_np Hb))) (C := RX3) (T := TX3) (N := 10) hx hb hown hK hw hts hinX3 0 rfl rfl 3 (by decide) hf40 rfl dX3_digest_308 ?_
              refine lv_icmp_ge (tgt := 433) hx hb dX3_digest_311 (by decide) (fun _ => ?_) (fun q8 => absurd (by rw [← hz_3]; exact Int32.le_refl _) q8)
              refine lv_iconst (v := 0) hx hb dX3_digest_433 (by decide) ?_
              refine lv_istore (lv' := [(4, .int 0), (0, .ref (M 0)), (2, .long (l_dgP Hb a ((l_dgS Hb a ((l_mix (x_all Hb a) 1949 i1)) i2)) i3))]) hx hb dX3_digest_434 hl (by decide) rfl (fun ls hl => ?_)
              have L_436 : ∀ (k9 i4 : Nat) (H : Heap) (locs : List Loc) (ls : Array Slot), i4 + k9 = (n_nw Hb) → Wd E A9 s9.heap (wN E M (0, Hb, a, k)) H locs → lv_has ls 11 [(0, .ref (M 0)), (2, .long (l_dgW a ((l_dgP Hb a ((l_dgS Hb a ((l_mix (x_all Hb a) 1949 i1)) i2)) i3)) i4)), (4, .int (nI i4))] → W p9 l e rm_X3_digest s9 m args below meth c H locs ((((1) + i2)) + i3) ((((9) + 8 * i2)) + 5 * i3) (EndL E A9 (r_digest Hb a) (wN E M (0, Hb, a, k)) below args s9 (rm_X3_digest).cells (rm_X3_digest).slots) (F0 m 436 ls []) := by
                intro k9
                induction k9 with
                | zero =>
                  intro i4 H locs ls hi hw hl
                  have hz_4 : n_nw Hb = i4 := by omega
                  refine lv_iload hx hb dX3_digest_436 (lv_at hl 2 rfl) ?_
                  refine lv_aload_n hx hb dX3_digest_438 rfl (lv_at hl 0 rfl) ?_
                  refine k_get (ci := 3) (v := .int (nI (n_nw Hb))) (C := RX3) (T := TX3) (N := 10) hx hb hown hK hw hts hinX3 0 rfl rfl 7 (by decide) hf43 rfl dX3_digest_439 ?_
                  refine lv_icmp_ge (tgt := 469) hx hb dX3_digest_442 (by decide) (fun _ => ?_) (fun q8 => absurd (by rw [← hz_4]; exact Int32.le_refl _) q8)
                  refine lv_lload_n hx hb dX3_digest_469 rfl (lv_at hl 1 rfl) ?_
                  refine W.widen (k := (rm_X3_digest).cells) (n := (rm_X3_digest).slots) (show (((1) + i2)) + i3 ≤ 22 by omega) (show (((9) + 8 * i2)) + 5 * i3 ≤ 129 by omega) ?_
                  exact k_lret hx hb hr hlocks hK hw dX3_digest_470 (by subst hz_4 hz_3 hz_2 hz_1; exact rfl) rfl
                | succ k9 ih_436 =>
                  intro i4 H locs ls hi hw hl
                  have hi9 : i4 < n_nw Hb := by omega
                  refine lv_iload hx hb dX3_digest_436 (lv_at hl 2 rfl) ?_
                  refine lv_aload_n hx hb dX3_digest_438 rfl (lv_at hl 0 rfl) ?_
                  refine k_get (ci := 3) (v := .int (nI (n_nw Hb))) (C := RX3) (T := TX3) (N := 10) hx hb hown hK hw hts hinX3 0 rfl rfl 7 (by decide) hf43 rfl dX3_digest_439 ?_
                  refine lv_icmp_ge (tgt := 469) hx hb dX3_digest_442 (by decide) (fun q8 => absurd q8 (nI_ge (a := i4) (b := n_nw Hb) (by omega) (by omega))) (fun _ => ?_)
                  refine lv_lload_n hx hb dX3_digest_445 rfl (lv_at hl 1 rfl) ?_
                  refine lv_ldc2 (v := 31) hx hb hown (hts (.constantLong RX3 150 31) (by decide +kernel)) dX3_digest_446 ?_
                  refine lv_lmul hx hb dX3_digest_449 ?_
                  refine lv_aload_n hx hb dX3_digest_450 rfl (lv_at hl 0 rfl) ?_
                  refine k_get (ci := 3) (v := .ref (M 5)) (C := RX3) (T := TX3) (N := 10) hx hb hown hK hw hts hinX3 0 rfl rfl 8 (by decide) hf23 rfl dX3_digest_451 ?_
                  refine lv_bipush (v := 50) hx hb dX3_digest_454 (by decide) ?_
                  refine lv_iload hx hb dX3_digest_456 (lv_at hl 2 rfl) ?_
                  refine k_iaddN (a := 50) (b := i4) hx hb dX3_digest_458 ?_
                  refine k_ildN (i := 50 + i4) (f := a) hx hb hK hw 5 rfl (by omega) (by omega) dX3_digest_459 ?_
                  refine lv_i2l (v := (a (50 + i4) : Int32).toInt64) hx hb dX3_digest_460 rfl ?_
                  refine lv_ladd hx hb dX3_digest_461 ?_
                  refine lv_lstore_n (lv' := [(2, .long (((l_dgW a ((l_dgP Hb a ((l_dgS Hb a ((l_mix (x_all Hb a) 1949 i1)) i2)) i3)) i4) * 31) + ((a (50 + i4) : Int32).toInt64))), (0, .ref (M 0)), (4, .int (nI i4))]) hx hb dX3_digest_462 rfl hl (by decide) rfl (fun ls hl => ?_)
                  refine lv_iinc (v := nI (i4 + 1)) (lv' := [(4, .int (nI (i4 + 1))), (2, .long (((l_dgW a ((l_dgP Hb a ((l_dgS Hb a ((l_mix (x_all Hb a) 1949 i1)) i2)) i3)) i4) * 31) + ((a (50 + i4) : Int32).toInt64))), (0, .ref (M 0))]) hx hb dX3_digest_463 hl (k := 2) rfl (nI_add i4 1) (by decide) rfl (fun ls hl => ?_)
                  refine lv_goto (tgt := 436) hx hb dX3_digest_466 (by decide) ?_
                  exact ih_436 (i4 + 1) _ _ _ (by omega) hw (by rw [show (.long (l_dgW a ((l_dgP Hb a ((l_dgS Hb a ((l_mix (x_all Hb a) 1949 i1)) i2)) i3)) (i4 + 1)) : Value) = .long (((l_dgW a ((l_dgP Hb a ((l_dgS Hb a ((l_mix (x_all Hb a) 1949 i1)) i2)) i3)) i4) * 31) + ((a (50 + i4) : Int32).toInt64)) from (by subst hz_3 hz_2 hz_1; first | (rw [l_dgW]; done) | (rw [l_dgP]; done) | (rw [l_dgS]; done) | (rw [l_mix]; done))]; exact lv_sub hl [2, 1, 0] rfl)
              exact L_436 ((n_nw Hb) - 0) 0 _ _ _ (by omega) hw (lv_sub hl [1, 2, 0] rfl)
            | succ k9 ih_305 =>
              intro i3 H locs ls hi hw hl
              have hi9 : i3 < n_np Hb := by omega
              refine lv_iload hx hb dX3_digest_305 (lv_at hl 2 rfl) ?_
              refine lv_aload_n hx hb dX3_digest_307 rfl (lv_at hl 0 rfl) ?_
              refine k_get (ci := 3) (v := .int (nI (n_np Hb))) (C := RX3) (T := TX3) (N := 10) hx hb hown hK hw hts hinX3 0 rfl rfl 3 (by decide) hf40 rfl dX3_digest_308 ?_
              refine lv_icmp_ge (tgt := 433) hx hb dX3_digest_311 (by decide) (fun q8 => absurd q8 (nI_ge (a := i3) (b := n_np Hb) (by omega) (by omega))) (fun _ => ?_)
              refine lv_iconst (v := 5) hx hb dX3_digest_314 (by decide) ?_
              refine k_newI (N := 5) hx hb hq2 hK hw hA (by decide) (show (((1) + i2)) + i3 + 1 ≤ 22 by omega) (show (((9) + 8 * i2)) + 5 * i3 + 5 ≤ 129 by omega) dX3_digest_315 (fun q315 H hw => ?_)
              have hw : Wd E A9 s9.heap (wN E M (0, Hb, a, k) ++ [(q315, aI E 5 (fun _ => 0))]) H _ := hw
              refine lv_dup hx hb dX3_digest_317 rfl ?_
              refine lv_iconst (v := 0) hx hb dX3_digest_318 (by decide) ?_
              refine lv_aload_n hx hb dX3_digest_319 rfl (lv_at hl 0 rfl) ?_
              refine k_get (ci := 3) (v := .ref (M 2)) (C := RX3) (T := TX3) (N := 10) hx hb hown hK hw hts hinX3 0 rfl rfl 4 (by decide) hf13 rfl dX3_digest_320 ?_
              refine lv_iload hx hb dX3_digest_323 (lv_at hl 2 rfl) ?_
              refine k_nldN (i := i3) (f := n_so Hb) hx hb hK hw 2 rfl (by omega) (by omega) dX3_digest_325 ?_
              refine k_istN (i := 0) (ws' := wN E M (0, Hb, a, k) ++ [(q315, aI E 5 (upd (fun _ => 0) 0 (nI (n_so Hb i3))))]) hx hb hK hw 7 rfl (by omega) (by omega) dX3_digest_326 rfl (fun H locs hw => ?_)
              refine lv_dup hx hb dX3_digest_327 rfl ?_
              refine lv_iconst (v := 1) hx hb dX3_digest_328 (by decide) ?_
              refine lv_aload_n hx hb dX3_digest_329 rfl (lv_at hl 0 rfl) ?_
              refine k_get (ci := 3) (v := .ref (M 3)) (C := RX3) (T := TX3) (N := 10) hx hb hown hK hw hts hinX3 0 rfl rfl 5 (by decide) hf16 rfl dX3_digest_330 ?_
              refine lv_iload hx hb dX3_digest_333 (lv_at hl 2 rfl) ?_
              refine k_ildN (i := i3) (f := n_mo Hb) hx hb hK hw 3 rfl (by omega) (by omega) dX3_digest_335 ?_
              refine k_istN (i := 1) (ws' := wN E M (0, Hb, a, k) ++ [(q315, aI E 5 (upd (upd (fun _ => 0) 0 (nI (n_so Hb i3))) 1 (n_mo Hb i3)))]) hx hb hK hw 7 rfl (by omega) (by omega) dX3_digest_336 rfl (fun H locs hw => ?_)
              refine lv_dup hx hb dX3_digest_337 rfl ?_
              refine lv_iconst (v := 2) hx hb dX3_digest_338 (by decide) ?_
              refine lv_aload_n hx hb dX3_digest_339 rfl (lv_at hl 0 rfl) ?_
              refine k_get (ci := 3) (v := .ref (M 4)) (C := RX3) (T := TX3) (N := 10) hx hb hown hK hw hts hinX3 0 rfl rfl 6 (by decide) hf19 rfl dX3_digest_340 ?_
              refine lv_iload hx hb dX3_digest_343 (lv_at hl 2 rfl) ?_
              refine k_zldN (i := i3) (f := n_vo Hb) hx hb hK hw 4 rfl (by omega) (by omega) dX3_digest_345 ?_
              refine lv_if_eq (tgt := 353) hx hb dX3_digest_346 (by decide) (fun c_5 => ?_) (fun c_5 => ?_)
              · have c_5 := bI_z c_5
                refine lv_iconst (v := 0) hx hb dX3_digest_353 (by decide) ?_
                refine k_istN (i := 2) (ws' := wN E M (0, Hb, a, k) ++ [(q315, aI E 5 (upd (upd (upd (fun _ => 0) 0 (nI (n_so Hb i3))) 1 (n_mo Hb i3)) 2 0))]) hx hb hK hw 7 rfl (by omega) (by omega) dX3_digest_354 rfl (fun H locs hw => ?_)
                refine lv_dup hx hb dX3_digest_355 rfl ?_
                refine lv_iconst (v := 3) hx hb dX3_digest_356 (by decide) ?_
                refine lv_aload_n hx hb dX3_digest_357 rfl (lv_at hl 0 rfl) ?_
                refine k_get (ci := 3) (v := .ref (M 5)) (C := RX3) (T := TX3) (N := 10) hx hb hown hK hw hts hinX3 0 rfl rfl 8 (by decide) hf23 rfl dX3_digest_358 ?_
                refine lv_iload hx hb dX3_digest_361 (lv_at hl 2 rfl) ?_
                refine lv_iconst (v := 1) hx hb dX3_digest_363 (by decide) ?_
                refine kr_i (ws' := wN E M (0, Hb, a, k) ++ [(q315, aI E 5 (upd (upd (upd (fun _ => 0) 0 (nI (n_so Hb i3))) 1 (n_mo Hb i3)) 2 0))]) (va_runS (As := [.int (nI i3), .int 1]) (rest := [.ref (M 5), .int 3, .ref q315, .ref q315]) ⟨hx, hb, hml, hown, hts⟩ (c_X3_sailor l E i3 1  _) (va_cwS 2 hts gX3_digest_X3_sailor rfl rfl rfl hd_X3_sailor ⟨Nat.le_of_ble_eq_true rfl, Nat.le_of_ble_eq_true rfl⟩) (rpS (AV := [.int (nI i3), .int 1]) hw hK hG rp_78) rfl rfl hl.1 rfl (lv_room (Nat.le_of_ble_eq_true rfl)) dX3_digest_364 ⟨(show (((1) + i2)) + i3 + 1 + 0 ≤ 22 by omega), (show (((9) + 8 * i2)) + 5 * i3 + 5 + 0 ≤ 129 by omega)⟩) hw hA rp_78 (fun H locs hw => ?_)
                refine k_ildN (i := 18 + 2 * i3 + 1) (f := a) hx hb hK hw 5 rfl (by omega) (by omega) dX3_digest_367 ?_
                refine k_istN (i := 3) (ws' := wN E M (0, Hb, a, k) ++ [(q315, aI E 5 (upd (upd (upd (upd (fun _ => 0) 0 (nI (n_so Hb i3))) 1 (n_mo Hb i3)) 2 0) 3 (a (18 + 2 * i3 + 1))))]) hx hb hK hw 7 rfl (by omega) (by omega) dX3_digest_368 rfl (fun H locs hw => ?_)
                refine lv_dup hx hb dX3_digest_369 rfl ?_
                refine lv_iconst (v := 4) hx hb dX3_digest_370 (by decide) ?_
                refine lv_aload_n hx hb dX3_digest_371 rfl (lv_at hl 0 rfl) ?_
                refine k_get (ci := 3) (v := .ref (M 5)) (C := RX3) (T := TX3) (N := 10) hx hb hown hK hw hts hinX3 0 rfl rfl 8 (by decide) hf23 rfl dX3_digest_372 ?_
                refine lv_iload hx hb dX3_digest_375 (lv_at hl 2 rfl) ?_
                refine lv_iconst (v := 0) hx hb dX3_digest_377 (by decide) ?_
                refine kr_i (ws' := wN E M (0, Hb, a, k) ++ [(q315, aI E 5 (upd (upd (upd (upd (fun _ => 0) 0 (nI (n_so Hb i3))) 1 (n_mo Hb i3)) 2 0) 3 (a (18 + 2 * i3 + 1))))]) (va_runS (As := [.int (nI i3), .int 0]) (rest := [.ref (M 5), .int 4, .ref q315, .ref q315]) ⟨hx, hb, hml, hown, hts⟩ (c_X3_sailor l E i3 0  _) (va_cwS 2 hts gX3_digest_X3_sailor rfl rfl rfl hd_X3_sailor ⟨Nat.le_of_ble_eq_true rfl, Nat.le_of_ble_eq_true rfl⟩) (rpS (AV := [.int (nI i3), .int 0]) hw hK hG rp_78) rfl rfl hl.1 rfl (lv_room (Nat.le_of_ble_eq_true rfl)) dX3_digest_378 ⟨(show (((1) + i2)) + i3 + 1 + 0 ≤ 22 by omega), (show (((9) + 8 * i2)) + 5 * i3 + 5 + 0 ≤ 129 by omega)⟩) hw hA rp_78 (fun H locs hw => ?_)
                refine k_ildN (i := 18 + 2 * i3 + 0) (f := a) hx hb hK hw 5 rfl (by omega) (by omega) dX3_digest_381 ?_
                refine k_istN (i := 4) (ws' := wN E M (0, Hb, a, k) ++ [(q315, aI E 5 (upd (upd (upd (upd (upd (fun _ => 0) 0 (nI (n_so Hb i3))) 1 (n_mo Hb i3)) 2 0) 3 (a (18 + 2 * i3 + 1))) 4 (a (18 + 2 * i3 + 0))))]) hx hb hK hw 7 rfl (by omega) (by omega) dX3_digest_382 rfl (fun H locs hw => ?_)
                refine lv_astore (lv' := [(5, .ref q315), (0, .ref (M 0)), (2, .long (l_dgP Hb a ((l_dgS Hb a ((l_mix (x_all Hb a) 1949 i1)) i2)) i3)), (4, .int (nI i3))]) hx hb dX3_digest_383 hl (by decide) rfl (fun ls hl => ?_)
                refine lv_aload hx hb dX3_digest_385 (lv_at hl 0 rfl) ?_
                refine lv_astore (lv' := [(6, .ref q315), (5, .ref q315), (0, .ref (M 0)), (2, .long (l_dgP Hb a ((l_dgS Hb a ((l_mix (x_all Hb a) 1949 i1)) i2)) i3)), (4, .int (nI i3))]) hx hb dX3_digest_387 hl (by decide) rfl (fun ls hl => ?_)
                refine lv_aload hx hb dX3_digest_389 (lv_at hl 0 rfl) ?_
                refine k_lenI hx hb hK hw 7 rfl dX3_digest_391 ?_
                refine lv_istore (lv' := [(7, .int (nI 5)), (6, .ref q315), (5, .ref q315), (0, .ref (M 0)), (2, .long (l_dgP Hb a ((l_dgS Hb a ((l_mix (x_all Hb a) 1949 i1)) i2)) i3)), (4, .int (nI i3))]) hx hb dX3_digest_392 hl (by decide) rfl (fun ls hl => ?_)
                have hw : Wd E A9 s9.heap (wN E M (0, Hb, a, k) ++ [(q315, aI E 5 (x_sail Hb a i3))]) H locs := hw.to (by simp only [x_sail, c_5, if_true, if_false, Bool.false_eq_true, Bool.true_eq_false, reduceIte, reduceCtorEq])
                refine lv_iconst (v := 0) hx hb dX3_digest_394 (by decide) ?_
                refine lv_istore (lv' := [(8, .int 0), (7, .int (nI 5)), (6, .ref q315), (5, .ref q315), (0, .ref (M 0)), (2, .long (l_dgP Hb a ((l_dgS Hb a ((l_mix (x_all Hb a) 1949 i1)) i2)) i3)), (4, .int (nI i3))]) hx hb dX3_digest_395 hl (by decide) rfl (fun ls hl => ?_)
                have L_397 : ∀ (k9 j3 : Nat) (H : Heap) (locs : List Loc) (ls : Array Slot), j3 + k9 = 5 → Wd E A9 s9.heap (wN E M (0, Hb, a, k) ++ [(q315, aI E 5 (x_sail Hb a i3))]) H locs → lv_has ls 11 [(0, .ref (M 0)), (2, .long (l_mix (x_sail Hb a i3) ((l_dgP Hb a ((l_dgS Hb a ((l_mix (x_all Hb a) 1949 i1)) i2)) i3)) j3)), (4, .int (nI i3)), (6, .ref q315), (7, .int (nI 5)), (8, .int (nI j3))] → W p9 l e rm_X3_digest s9 m args below meth c H locs ((((1) + i2)) + i3 + 1) ((((9) + 8 * i2)) + 5 * i3 + 5) (EndL E A9 (r_digest Hb a) (wN E M (0, Hb, a, k)) below args s9 (rm_X3_digest).cells (rm_X3_digest).slots) (F0 m 397 ls []) := by
                  intro k9
                  induction k9 with
                  | zero =>
                    intro j3 H locs ls hi hw hl
                    have hz_6 : 5 = j3 := by omega
                    refine lv_iload hx hb dX3_digest_397 (lv_at hl 5 rfl) ?_
                    refine lv_iload hx hb dX3_digest_399 (lv_at hl 4 rfl) ?_
                    refine lv_icmp_ge (tgt := 427) hx hb dX3_digest_401 (by decide) (fun _ => ?_) (fun q8 => absurd (by rw [← hz_6]; exact Int32.le_refl _) q8)
                    have hw := Wd.drop hw
                    refine lv_iinc (v := nI (i3 + 1)) (lv' := [(4, .int (nI (i3 + 1))), (0, .ref (M 0)), (2, .long (l_mix (x_sail Hb a i3) ((l_dgP Hb a ((l_dgS Hb a ((l_mix (x_all Hb a) 1949 i1)) i2)) i3)) j3)), (6, .ref q315), (7, .int (nI 5)), (8, .int (nI j3))]) hx hb dX3_digest_427 hl (k := 2) rfl (nI_add i3 1) (by decide) rfl (fun ls hl => ?_)
                    refine lv_goto (tgt := 305) hx hb dX3_digest_430 (by decide) ?_
                    refine W.widen (k := (((1) + i2)) + (i3 + 1)) (n := (((9) + 8 * i2)) + 5 * (i3 + 1)) (show (((1) + i2)) + i3 + 1 ≤ (((1) + i2)) + (i3 + 1) by omega) (show (((9) + 8 * i2)) + 5 * i3 + 5 ≤ (((9) + 8 * i2)) + 5 * (i3 + 1) by omega) ?_
                    exact ih_305 (i3 + 1) _ _ _ (by omega) hw (by rw [show (.long (l_dgP Hb a ((l_dgS Hb a ((l_mix (x_all Hb a) 1949 i1)) i2)) (i3 + 1)) : Value) = .long (l_mix (x_sail Hb a i3) ((l_dgP Hb a ((l_dgS Hb a ((l_mix (x_all Hb a) 1949 i1)) i2)) i3)) j3) from (by subst hz_6 hz_2 hz_1; first | (rw [l_dgW]; done) | (rw [l_dgP]; done) | (rw [l_dgS]; done) | (rw [l_mix]; done))]; exact lv_sub hl [1, 2, 0] rfl)
                  | succ k9 ih_397 =>
                    intro j3 H locs ls hi hw hl
                    have hi9 : j3 < 5 := by omega
                    refine lv_iload hx hb dX3_digest_397 (lv_at hl 5 rfl) ?_
                    refine lv_iload hx hb dX3_digest_399 (lv_at hl 4 rfl) ?_
                    refine lv_icmp_ge (tgt := 427) hx hb dX3_digest_401 (by decide) (fun q8 => absurd q8 (nI_ge (a := j3) (b := 5) (by omega) (by omega))) (fun _ => ?_)
                    refine lv_aload hx hb dX3_digest_404 (lv_at hl 3 rfl) ?_
                    refine lv_iload hx hb dX3_digest_406 (lv_at hl 5 rfl) ?_
                    refine k_ildN (i := j3) (f := (x_sail Hb a i3)) hx hb hK hw 7 rfl (by omega) (by omega) dX3_digest_408 ?_
                    refine lv_istore (lv' := [(9, .int ((x_sail Hb a i3) j3)), (0, .ref (M 0)), (2, .long (l_mix (x_sail Hb a i3) ((l_dgP Hb a ((l_dgS Hb a ((l_mix (x_all Hb a) 1949 i1)) i2)) i3)) j3)), (4, .int (nI i3)), (6, .ref q315), (7, .int (nI 5)), (8, .int (nI j3))]) hx hb dX3_digest_409 hl (by decide) rfl (fun ls hl => ?_)
                    refine lv_lload_n hx hb dX3_digest_411 rfl (lv_at hl 2 rfl) ?_
                    refine lv_ldc2 (v := 31) hx hb hown (hts (.constantLong RX3 150 31) (by decide +kernel)) dX3_digest_412 ?_
                    refine lv_lmul hx hb dX3_digest_415 ?_
                    refine lv_iload hx hb dX3_digest_416 (lv_at hl 0 rfl) ?_
                    refine lv_i2l (v := ((x_sail Hb a i3) j3 : Int32).toInt64) hx hb dX3_digest_418 rfl ?_
                    refine lv_ladd hx hb dX3_digest_419 ?_
                    refine lv_lstore_n (lv' := [(2, .long (((l_mix (x_sail Hb a i3) ((l_dgP Hb a ((l_dgS Hb a ((l_mix (x_all Hb a) 1949 i1)) i2)) i3)) j3) * 31) + (((x_sail Hb a i3) j3 : Int32).toInt64))), (9, .int ((x_sail Hb a i3) j3)), (0, .ref (M 0)), (4, .int (nI i3)), (6, .ref q315), (7, .int (nI 5)), (8, .int (nI j3))]) hx hb dX3_digest_420 rfl hl (by decide) rfl (fun ls hl => ?_)
                    refine lv_iinc (v := nI (j3 + 1)) (lv' := [(8, .int (nI (j3 + 1))), (2, .long (((l_mix (x_sail Hb a i3) ((l_dgP Hb a ((l_dgS Hb a ((l_mix (x_all Hb a) 1949 i1)) i2)) i3)) j3) * 31) + (((x_sail Hb a i3) j3 : Int32).toInt64))), (9, .int ((x_sail Hb a i3) j3)), (0, .ref (M 0)), (4, .int (nI i3)), (6, .ref q315), (7, .int (nI 5))]) hx hb dX3_digest_421 hl (k := 6) rfl (nI_add j3 1) (by decide) rfl (fun ls hl => ?_)
                    refine lv_goto (tgt := 397) hx hb dX3_digest_424 (by decide) ?_
                    exact ih_397 (j3 + 1) _ _ _ (by omega) hw (by rw [show (.long (l_mix (x_sail Hb a i3) ((l_dgP Hb a ((l_dgS Hb a ((l_mix (x_all Hb a) 1949 i1)) i2)) i3)) (j3 + 1)) : Value) = .long (((l_mix (x_sail Hb a i3) ((l_dgP Hb a ((l_dgS Hb a ((l_mix (x_all Hb a) 1949 i1)) i2)) i3)) j3) * 31) + (((x_sail Hb a i3) j3 : Int32).toInt64)) from (by subst hz_2 hz_1; first | (rw [l_dgW]; done) | (rw [l_dgP]; done) | (rw [l_dgS]; done) | (rw [l_mix]; done))]; exact lv_sub hl [3, 1, 4, 5, 6, 0] rfl)
                exact L_397 (5 - 0) 0 _ _ _ (by omega) hw (lv_sub hl [4, 5, 6, 2, 1, 0] rfl)
              · have c_5 := bI_nz c_5
                refine lv_iconst (v := 1) hx hb dX3_digest_349 (by decide) ?_
                refine lv_goto (tgt := 354) hx hb dX3_digest_350 (by decide) ?_
                refine k_istN (i := 2) (ws' := wN E M (0, Hb, a, k) ++ [(q315, aI E 5 (upd (upd (upd (fun _ => 0) 0 (nI (n_so Hb i3))) 1 (n_mo Hb i3)) 2 1))]) hx hb hK hw 7 rfl (by omega) (by omega) dX3_digest_354 rfl (fun H locs hw => ?_)
                refine lv_dup hx hb dX3_digest_355 rfl ?_
                refine lv_iconst (v := 3) hx hb dX3_digest_356 (by decide) ?_
                refine lv_aload_n hx hb dX3_digest_357 rfl (lv_at hl 0 rfl) ?_
                refine k_get (ci := 3) (v := .ref (M 5)) (C := RX3) (T := TX3) (N := 10) hx hb hown hK hw hts hinX3 0 rfl rfl 8 (by decide) hf23 rfl dX3_digest_358 ?_
                refine lv_iload hx hb dX3_digest_361 (lv_at hl 2 rfl) ?_
                refine lv_iconst (v := 1) hx hb dX3_digest_363 (by decide) ?_
                refine kr_i (ws' := wN E M (0, Hb, a, k) ++ [(q315, aI E 5 (upd (upd (upd (fun _ => 0) 0 (nI (n_so Hb i3))) 1 (n_mo Hb i3)) 2 1))]) (va_runS (As := [.int (nI i3), .int 1]) (rest := [.ref (M 5), .int 3, .ref q315, .ref q315]) ⟨hx, hb, hml, hown, hts⟩ (c_X3_sailor l E i3 1  _) (va_cwS 2 hts gX3_digest_X3_sailor rfl rfl rfl hd_X3_sailor ⟨Nat.le_of_ble_eq_true rfl, Nat.le_of_ble_eq_true rfl⟩) (rpS (AV := [.int (nI i3), .int 1]) hw hK hG rp_78) rfl rfl hl.1 rfl (lv_room (Nat.le_of_ble_eq_true rfl)) dX3_digest_364 ⟨(show (((1) + i2)) + i3 + 1 + 0 ≤ 22 by omega), (show (((9) + 8 * i2)) + 5 * i3 + 5 + 0 ≤ 129 by omega)⟩) hw hA rp_78 (fun H locs hw => ?_)
                refine k_ildN (i := 18 + 2 * i3 + 1) (f := a) hx hb hK hw 5 rfl (by omega) (by omega) dX3_digest_367 ?_
                refine k_istN (i := 3) (ws' := wN E M (0, Hb, a, k) ++ [(q315, aI E 5 (upd (upd (upd (upd (fun _ => 0) 0 (nI (n_so Hb i3))) 1 (n_mo Hb i3)) 2 1) 3 (a (18 + 2 * i3 + 1))))]) hx hb hK hw 7 rfl (by omega) (by omega) dX3_digest_368 rfl (fun H locs hw => ?_)
                refine lv_dup hx hb dX3_digest_369 rfl ?_
                refine lv_iconst (v := 4) hx hb dX3_digest_370 (by decide) ?_
                refine lv_aload_n hx hb dX3_digest_371 rfl (lv_at hl 0 rfl) ?_
                refine k_get (ci := 3) (v := .ref (M 5)) (C := RX3) (T := TX3) (N := 10) hx hb hown hK hw hts hinX3 0 rfl rfl 8 (by decide) hf23 rfl dX3_digest_372 ?_
                refine lv_iload hx hb dX3_digest_375 (lv_at hl 2 rfl) ?_
                refine lv_iconst (v := 0) hx hb dX3_digest_377 (by decide) ?_
                refine kr_i (ws' := wN E M (0, Hb, a, k) ++ [(q315, aI E 5 (upd (upd (upd (upd (fun _ => 0) 0 (nI (n_so Hb i3))) 1 (n_mo Hb i3)) 2 1) 3 (a (18 + 2 * i3 + 1))))]) (va_runS (As := [.int (nI i3), .int 0]) (rest := [.ref (M 5), .int 4, .ref q315, .ref q315]) ⟨hx, hb, hml, hown, hts⟩ (c_X3_sailor l E i3 0  _) (va_cwS 2 hts gX3_digest_X3_sailor rfl rfl rfl hd_X3_sailor ⟨Nat.le_of_ble_eq_true rfl, Nat.le_of_ble_eq_true rfl⟩) (rpS (AV := [.int (nI i3), .int 0]) hw hK hG rp_78) rfl rfl hl.1 rfl (lv_room (Nat.le_of_ble_eq_true rfl)) dX3_digest_378 ⟨(show (((1) + i2)) + i3 + 1 + 0 ≤ 22 by omega), (show (((9) + 8 * i2)) + 5 * i3 + 5 + 0 ≤ 129 by omega)⟩) hw hA rp_78 (fun H locs hw => ?_)
                refine k_ildN (i := 18 + 2 * i3 + 0) (f := a) hx hb hK hw 5 rfl (by omega) (by omega) dX3_digest_381 ?_
                refine k_istN (i := 4) (ws' := wN E M (0, Hb, a, k) ++ [(q315, aI E 5 (upd (upd (upd (upd (upd (fun _ => 0) 0 (nI (n_so Hb i3))) 1 (n_mo Hb i3)) 2 1) 3 (a (18 + 2 * i3 + 1))) 4 (a (18 + 2 * i3 + 0))))]) hx hb hK hw 7 rfl (by omega) (by omega) dX3_digest_382 rfl (fun H locs hw => ?_)
                refine lv_astore (lv' := [(5, .ref q315), (0, .ref (M 0)), (2, .long (l_dgP Hb a ((l_dgS Hb a ((l_mix (x_all Hb a) 1949 i1)) i2)) i3)), (4, .int (nI i3))]) hx hb dX3_digest_383 hl (by decide) rfl (fun ls hl => ?_)
                refine lv_aload hx hb dX3_digest_385 (lv_at hl 0 rfl) ?_
                refine lv_astore (lv' := [(6, .ref q315), (5, .ref q315), (0, .ref (M 0)), (2, .long (l_dgP Hb a ((l_dgS Hb a ((l_mix (x_all Hb a) 1949 i1)) i2)) i3)), (4, .int (nI i3))]) hx hb dX3_digest_387 hl (by decide) rfl (fun ls hl => ?_)
                refine lv_aload hx hb dX3_digest_389 (lv_at hl 0 rfl) ?_
                refine k_lenI hx hb hK hw 7 rfl dX3_digest_391 ?_
                refine lv_istore (lv' := [(7, .int (nI 5)), (6, .ref q315), (5, .ref q315), (0, .ref (M 0)), (2, .long (l_dgP Hb a ((l_dgS Hb a ((l_mix (x_all Hb a) 1949 i1)) i2)) i3)), (4, .int (nI i3))]) hx hb dX3_digest_392 hl (by decide) rfl (fun ls hl => ?_)
                have hw : Wd E A9 s9.heap (wN E M (0, Hb, a, k) ++ [(q315, aI E 5 (x_sail Hb a i3))]) H locs := hw.to (by simp only [x_sail, c_5, if_true, if_false, Bool.false_eq_true, Bool.true_eq_false, reduceIte, reduceCtorEq])
                refine lv_iconst (v := 0) hx hb dX3_digest_394 (by decide) ?_
                refine lv_istore (lv' := [(8, .int 0), (7, .int (nI 5)), (6, .ref q315), (5, .ref q315), (0, .ref (M 0)), (2, .long (l_dgP Hb a ((l_dgS Hb a ((l_mix (x_all Hb a) 1949 i1)) i2)) i3)), (4, .int (nI i3))]) hx hb dX3_digest_395 hl (by decide) rfl (fun ls hl => ?_)
                have L_397 : ∀ (k9 j3 : Nat) (H : Heap) (locs : List Loc) (ls : Array Slot), j3 + k9 = 5 → Wd E A9 s9.heap (wN E M (0, Hb, a, k) ++ [(q315, aI E 5 (x_sail Hb a i3))]) H locs → lv_has ls 11 [(0, .ref (M 0)), (2, .long (l_mix (x_sail Hb a i3) ((l_dgP Hb a ((l_dgS Hb a ((l_mix (x_all Hb a) 1949 i1)) i2)) i3)) j3)), (4, .int (nI i3)), (6, .ref q315), (7, .int (nI 5)), (8, .int (nI j3))] → W p9 l e rm_X3_digest s9 m args below meth c H locs ((((1) + i2)) + i3 + 1) ((((9) + 8 * i2)) + 5 * i3 + 5) (EndL E A9 (r_digest Hb a) (wN E M (0, Hb, a, k)) below args s9 (rm_X3_digest).cells (rm_X3_digest).slots) (F0 m 397 ls []) := by
                  intro k9
                  induction k9 with
                  | zero =>
                    intro j3 H locs ls hi hw hl
                    have hz_7 : 5 = j3 := by omega
                    refine lv_iload hx hb dX3_digest_397 (lv_at hl 5 rfl) ?_
                    refine lv_iload hx hb dX3_digest_399 (lv_at hl 4 rfl) ?_
                    refine lv_icmp_ge (tgt := 427) hx hb dX3_digest_401 (by decide) (fun _ => ?_) (fun q8 => absurd (by rw [← hz_7]; exact Int32.le_refl _) q8)
                    have hw := Wd.drop hw
                    refine lv_iinc (v := nI (i3 + 1)) (lv' := [(4, .int (nI (i3 + 1))), (0, .ref (M 0)), (2, .long (l_mix (x_sail Hb a i3) ((l_dgP Hb a ((l_dgS Hb a ((l_mix (x_all Hb a) 1949 i1)) i2)) i3)) j3)), (6, .ref q315), (7, .int (nI 5)), (8, .int (nI j3))]) hx hb dX3_digest_427 hl (k := 2) rfl (nI_add i3 1) (by decide) rfl (fun ls hl => ?_)
                    refine lv_goto (tgt := 305) hx hb dX3_digest_430 (by decide) ?_
                    refine W.widen (k := (((1) + i2)) + (i3 + 1)) (n := (((9) + 8 * i2)) + 5 * (i3 + 1)) (show (((1) + i2)) + i3 + 1 ≤ (((1) + i2)) + (i3 + 1) by omega) (show (((9) + 8 * i2)) + 5 * i3 + 5 ≤ (((9) + 8 * i2)) + 5 * (i3 + 1) by omega) ?_
                    exact ih_305 (i3 + 1) _ _ _ (by omega) hw (by rw [show (.long (l_dgP Hb a ((l_dgS Hb a ((l_mix (x_all Hb a) 1949 i1)) i2)) (i3 + 1)) : Value) = .long (l_mix (x_sail Hb a i3) ((l_dgP Hb a ((l_dgS Hb a ((l_mix (x_all Hb a) 1949 i1)) i2)) i3)) j3) from (by subst hz_7 hz_2 hz_1; first | (rw [l_dgW]; done) | (rw [l_dgP]; done) | (rw [l_dgS]; done) | (rw [l_mix]; done))]; exact lv_sub hl [1, 2, 0] rfl)
                  | succ k9 ih_397 =>
                    intro j3 H locs ls hi hw hl
                    have hi9 : j3 < 5 := by omega
                    refine lv_iload hx hb dX3_digest_397 (lv_at hl 5 rfl) ?_
                    refine lv_iload hx hb dX3_digest_399 (lv_at hl 4 rfl) ?_
                    refine lv_icmp_ge (tgt := 427) hx hb dX3_digest_401 (by decide) (fun q8 => absurd q8 (nI_ge (a := j3) (b := 5) (by omega) (by omega))) (fun _ => ?_)
                    refine lv_aload hx hb dX3_digest_404 (lv_at hl 3 rfl) ?_
                    refine lv_iload hx hb dX3_digest_406 (lv_at hl 5 rfl) ?_
                    refine k_ildN (i := j3) (f := (x_sail Hb a i3)) hx hb hK hw 7 rfl (by omega) (by omega) dX3_digest_408 ?_
                    refine lv_istore (lv' := [(9, .int ((x_sail Hb a i3) j3)), (0, .ref (M 0)), (2, .long (l_mix (x_sail Hb a i3) ((l_dgP Hb a ((l_dgS Hb a ((l_mix (x_all Hb a) 1949 i1)) i2)) i3)) j3)), (4, .int (nI i3)), (6, .ref q315), (7, .int (nI 5)), (8, .int (nI j3))]) hx hb dX3_digest_409 hl (by decide) rfl (fun ls hl => ?_)
                    refine lv_lload_n hx hb dX3_digest_411 rfl (lv_at hl 2 rfl) ?_
                    refine lv_ldc2 (v := 31) hx hb hown (hts (.constantLong RX3 150 31) (by decide +kernel)) dX3_digest_412 ?_
                    refine lv_lmul hx hb dX3_digest_415 ?_
                    refine lv_iload hx hb dX3_digest_416 (lv_at hl 0 rfl) ?_
                    refine lv_i2l (v := ((x_sail Hb a i3) j3 : Int32).toInt64) hx hb dX3_digest_418 rfl ?_
                    refine lv_ladd hx hb dX3_digest_419 ?_
                    refine lv_lstore_n (lv' := [(2, .long (((l_mix (x_sail Hb a i3) ((l_dgP Hb a ((l_dgS Hb a ((l_mix (x_all Hb a) 1949 i1)) i2)) i3)) j3) * 31) + (((x_sail Hb a i3) j3 : Int32).toInt64))), (9, .int ((x_sail Hb a i3) j3)), (0, .ref (M 0)), (4, .int (nI i3)), (6, .ref q315), (7, .int (nI 5)), (8, .int (nI j3))]) hx hb dX3_digest_420 rfl hl (by decide) rfl (fun ls hl => ?_)
                    refine lv_iinc (v := nI (j3 + 1)) (lv' := [(8, .int (nI (j3 + 1))), (2, .long (((l_mix (x_sail Hb a i3) ((l_dgP Hb a ((l_dgS Hb a ((l_mix (x_all Hb a) 1949 i1)) i2)) i3)) j3) * 31) + (((x_sail Hb a i3) j3 : Int32).toInt64))), (9, .int ((x_sail Hb a i3) j3)), (0, .ref (M 0)), (4, .int (nI i3)), (6, .ref q315), (7, .int (nI 5))]) hx hb dX3_digest_421 hl (k := 6) rfl (nI_add j3 1) (by decide) rfl (fun ls hl => ?_)
                    refine lv_goto (tgt := 397) hx hb dX3_digest_424 (by decide) ?_
                    exact ih_397 (j3 + 1) _ _ _ (by omega) hw (by rw [show (.long (l_mix (x_sail Hb a i3) ((l_dgP Hb a ((l_dgS Hb a ((l_mix (x_all Hb a) 1949 i1)) i2)) i3)) (j3 + 1)) : Value) = .long (((l_mix (x_sail Hb a i3) ((l_dgP Hb a ((l_dgS Hb a ((l_mix (x_all Hb a) 1949 i1)) i2)) i3)) j3) * 31) + (((x_sail Hb a i3) j3 : Int32).toInt64)) from (by subst hz_2 hz_1; first | (rw [l_dgW]; done) | (rw [l_dgP]; done) | (rw [l_dgS]; done) | (rw [l_mix]; done))]; exact lv_sub hl [3, 1, 4, 5, 6, 0] rfl)
                exact L_397 (5 - 0) 0 _ _ _ (by omega) hw (lv_sub hl [4, 5, 6, 2, 1, 0] rfl)
          exact L_305 ((n_np Hb) - 0) 0 _ _ _ (by omega) hw (lv_sub hl [1, 2, 0] rfl)
        | succ k9 ih_130 =>
          intro i2 H locs ls hi hw hl
          have hi9 : i2 < n_ns Hb := by omega
          refine lv_iload hx hb dX3_digest_130 (lv_at hl 2 rfl) ?_
          refine lv_aload_n hx hb dX3_digest_132 rfl (lv_at hl 0 rfl) ?_
          refine k_get (ci := 3) (v := .int (nI (n_ns Hb))) (C := RX3) (T := TX3) (N := 10) hx hb hown hK hw hts hinX3 0 rfl rfl 1 (by decide) hf33 rfl dX3_digest_133 ?_
          refine lv_icmp_ge (tgt := 302) hx hb dX3_digest_136 (by decide) (fun q8 => absurd q8 (nI_ge (a := i2) (b := n_ns Hb) (by omega) (by omega))) (fun _ => ?_)
          refine lv_aload_n hx hb dX3_digest_139 rfl (lv_at hl 0 rfl) ?_
          refine k_get (ci := 3) (v := .ref (M 5)) (C := RX3) (T := TX3) (N := 10) hx hb hown hK hw hts hinX3 0 rfl rfl 8 (by decide) hf23 rfl dX3_digest_140 ?_
          refine lv_iload hx hb dX3_digest_143 (lv_at hl 2 rfl) ?_
          refine lv_iconst (v := 0) hx hb dX3_digest_145 (by decide) ?_
          refine kr_i (ws' := wN E M (0, Hb, a, k)) (va_runS (As := [.int (nI i2), .int 0]) (rest := [.ref (M 5)]) ⟨hx, hb, hml, hown, hts⟩ (c_X3_ship l E i2 0  _) (va_cwS 2 hts gX3_digest_X3_ship rfl rfl rfl hd_X3_ship ⟨Nat.le_of_ble_eq_true rfl, Nat.le_of_ble_eq_true rfl⟩) (rpS (AV := [.int (nI i2), .int 0]) hw hK hG rp_74) rfl rfl hl.1 rfl (lv_room (Nat.le_of_ble_eq_true rfl)) dX3_digest_146 ⟨(show (1) + i2 + 0 ≤ 22 by omega), (show (9) + 8 * i2 + 0 ≤ 129 by omega)⟩) hw hA rp_74 (fun H locs hw => ?_)
          refine k_ildN (i := 3 + 3 * i2 + 0) (f := a) hx hb hK hw 5 rfl (by omega) (by omega) dX3_digest_149 ?_
          refine lv_istore (lv' := [(5, .int (a (3 + 3 * i2 + 0))), (0, .ref (M 0)), (2, .long (l_dgS Hb a ((l_mix (x_all Hb a) 1949 i1)) i2)), (4, .int (nI i2))]) hx hb dX3_digest_150 hl (by decide) rfl (fun ls hl => ?_)
          refine lv_bipush (v := 8) hx hb dX3_digest_152 (by decide) ?_
          refine k_newI (N := 8) hx hb hq2 hK hw hA (by decide) (show (1) + i2 + 1 ≤ 22 by omega) (show (9) + 8 * i2 + 8 ≤ 129 by omega) dX3_digest_154 (fun q154 H hw => ?_)
          have hw : Wd E A9 s9.heap (wN E M (0, Hb, a, k) ++ [(q154, aI E 8 (fun _ => 0))]) H _ := hw
          refine lv_dup hx hb dX3_digest_156 rfl ?_
          refine lv_iconst (v := 0) hx hb dX3_digest_157 (by decide) ?_
          refine lv_aload_n hx hb dX3_digest_158 rfl (lv_at hl 1 rfl) ?_
          refine k_get (ci := 3) (v := .ref (M 1)) (C := RX3) (T := TX3) (N := 10) hx hb hown hK hw hts hinX3 0 rfl rfl 2 (by decide) hf9 rfl dX3_digest_159 ?_
          refine lv_iload hx hb dX3_digest_162 (lv_at hl 3 rfl) ?_
          refine k_ildN (i := i2) (f := n_ma Hb) hx hb hK hw 1 rfl (by omega) (by omega) dX3_digest_164 ?_
          refine k_istN (i := 0) (ws' := wN E M (0, Hb, a, k) ++ [(q154, aI E 8 (upd (fun _ => 0) 0 (n_ma Hb i2)))]) hx hb hK hw 7 rfl (by omega) (by omega) dX3_digest_165 rfl (fun H locs hw => ?_)
          refine lv_dup hx hb dX3_digest_166 rfl ?_
          refine lv_iconst (v := 1) hx hb dX3_digest_167 (by decide) ?_
          refine lv_iload hx hb dX3_digest_168 (lv_at hl 0 rfl) ?_
          refine lv_if_ne (tgt := 177) hx hb dX3_digest_170 (by decide) (fun c_8 => ?_) (fun c_8 => ?_)
          · refine lv_iconst (v := 1) hx hb dX3_digest_177 (by decide) ?_
            refine k_istN (i := 1) (ws' := wN E M (0, Hb, a, k) ++ [(q154, aI E 8 (upd (upd (fun _ => 0) 0 (n_ma Hb i2)) 1 1))]) hx hb hK hw 7 rfl (by omega) (by omega) dX3_digest_178 rfl (fun H locs hw => ?_)
            refine lv_dup hx hb dX3_digest_179 rfl ?_
            refine lv_iconst (v := 2) hx hb dX3_digest_180 (by decide) ?_
            refine lv_iload hx hb dX3_digest_181 (lv_at hl 0 rfl) ?_
            refine lv_iconst (v := 2) hx hb dX3_digest_183 (by decide) ?_
            refine lv_icmp_ne (tgt := 191) hx hb dX3_digest_184 (by decide) (fun c_9 => ?_) (fun c_9 => ?_)
            · refine lv_iconst (v := 0) hx hb dX3_digest_191 (by decide) ?_
              refine k_istN (i := 2) (ws' := wN E M (0, Hb, a, k) ++ [(q154, aI E 8 (upd (upd (upd (fun _ => 0) 0 (n_ma Hb i2)) 1 1) 2 0))]) hx hb hK hw 7 rfl (by omega) (by omega) dX3_digest_192 rfl (fun H locs hw => ?_)
              refine lv_dup hx hb dX3_digest_193 rfl ?_
              refine lv_iconst (v := 3) hx hb dX3_digest_194 (by decide) ?_
              refine lv_aload_n hx hb dX3_digest_195 rfl (lv_at hl 1 rfl) ?_
              refine k_get (ci := 3) (v := .ref (M 5)) (C := RX3) (T := TX3) (N := 10) hx hb hown hK hw hts hinX3 0 rfl rfl 8 (by decide) hf23 rfl dX3_digest_196 ?_
              refine lv_iload hx hb dX3_digest_199 (lv_at hl 3 rfl) ?_
              refine lv_iconst (v := 1) hx hb dX3_digest_201 (by decide) ?_
              refine kr_i (ws' := wN E M (0, Hb, a, k) ++ [(q154, aI E 8 (upd (upd (upd (fun _ => 0) 0 (n_ma Hb i2)) 1 1) 2 0))]) (va_runS (As := [.int (nI i2), .int 1]) (rest := [.ref (M 5), .int 3, .ref q154, .ref q154]) ⟨hx, hb, hml, hown, hts⟩ (c_X3_ship l E i2 1  _) (va_cwS 2 hts gX3_digest_X3_ship rfl rfl rfl hd_X3_ship ⟨Nat.le_of_ble_eq_true rfl, Nat.le_of_ble_eq_true rfl⟩) (rpS (AV := [.int (nI i2), .int 1]) hw hK hG rp_79) rfl rfl hl.1 rfl (lv_room (Nat.le_of_ble_eq_true rfl)) dX3_digest_202 ⟨(show (1) + i2 + 1 + 0 ≤ 22 by omega), (show (9) + 8 * i2 + 8 + 0 ≤ 129 by omega)⟩) hw hA rp_79 (fun H locs hw => ?_)
              refine k_ildN (i := 3 + 3 * i2 + 1) (f := a) hx hb hK hw 5 rfl (by omega) (by omega) dX3_digest_205 ?_
              refine k_istN (i := 3) (ws' := wN E M (0, Hb, a, k) ++ [(q154, aI E 8 (upd (upd (upd (upd (fun _ => 0) 0 (n_ma Hb i2)) 1 1) 2 0) 3 (a (3 + 3 * i2 + 1))))]) hx hb hK hw 7 rfl (by omega) (by omega) dX3_digest_206 rfl (fun H locs hw => ?_)
              refine lv_dup hx hb dX3_digest_207 rfl ?_
              refine lv_iconst (v := 4) hx hb dX3_digest_208 (by decide) ?_
              refine lv_aload_n hx hb dX3_digest_209 rfl (lv_at hl 1 rfl) ?_
              refine k_get (ci := 3) (v := .ref (M 5)) (C := RX3) (T := TX3) (N := 10) hx hb hown hK hw hts hinX3 0 rfl rfl 8 (by decide) hf23 rfl dX3_digest_210 ?_
              refine lv_iload hx hb dX3_digest_213 (lv_at hl 3 rfl) ?_
              refine lv_iconst (v := 2) hx hb dX3_digest_215 (by decide) ?_
              refine kr_i (ws' := wN E M (0, Hb, a, k) ++ [(q154, aI E 8 (upd (upd (upd (upd (fun _ => 0) 0 (n_ma Hb i2)) 1 1) 2 0) 3 (a (3 + 3 * i2 + 1))))]) (va_runS (As := [.int (nI i2), .int 2]) (rest := [.ref (M 5), .int 4, .ref q154, .ref q154]) ⟨hx, hb, hml, hown, hts⟩ (c_X3_ship l E i2 2  _) (va_cwS 2 hts gX3_digest_X3_ship rfl rfl rfl hd_X3_ship ⟨Nat.le_of_ble_eq_true rfl, Nat.le_of_ble_eq_true rfl⟩) (rpS (AV := [.int (nI i2), .int 2]) hw hK hG rp_79) rfl rfl hl.1 rfl (lv_room (Nat.le_of_ble_eq_true rfl)) dX3_digest_216 ⟨(show (1) + i2 + 1 + 0 ≤ 22 by omega), (show (9) + 8 * i2 + 8 + 0 ≤ 129 by omega)⟩) hw hA rp_79 (fun H locs hw => ?_)
              refine k_ildN (i := 3 + 3 * i2 + 2) (f := a) hx hb hK hw 5 rfl (by omega) (by omega) dX3_digest_219 ?_
              refine k_istN (i := 4) (ws' := wN E M (0, Hb, a, k) ++ [(q154, aI E 8 (upd (upd (upd (upd (upd (fun _ => 0) 0 (n_ma Hb i2)) 1 1) 2 0) 3 (a (3 + 3 * i2 + 1))) 4 (a (3 + 3 * i2 + 2))))]) hx hb hK hw 7 rfl (by omega) (by omega) dX3_digest_220 rfl (fun H locs hw => ?_)
              refine lv_dup hx hb dX3_digest_221 rfl ?_
              refine lv_iconst (v := 5) hx hb dX3_digest_222 (by decide) ?_
              refine lv_aload_n hx hb dX3_digest_223 rfl (lv_at hl 1 rfl) ?_
              refine lv_iload hx hb dX3_digest_224 (lv_at hl 3 rfl) ?_
              refine kr_i (ws' := wN E M (0, Hb, a, k) ++ [(q154, aI E 8 (upd (upd (upd (upd (upd (fun _ => 0) 0 (n_ma Hb i2)) 1 1) 2 0) 3 (a (3 + 3 * i2 + 1))) 4 (a (3 + 3 * i2 + 2))))]) (va_runV (As := [.int (nI i2)]) (rest := [.int 5, .ref q154, .ref q154]) ⟨hx, hb, hml, hown, hts⟩ (c_X3_trust l E M 0 Hb a k i2 (by omega) (by omega) (by omega) (h4) (by omega) _) (cwV 1 hts gX3_digest_X3_trust rfl rfl rfl ⟨rfl, hd_X3_trust⟩ ⟨Nat.le_of_ble_eq_true rfl, Nat.le_of_ble_eq_true rfl⟩) (pwV (ci := 3) (q0 := 0) (C := RX3) hw hK rfl rfl rfl (rpS (AV := [.ref (M 0), .int (nI i2)]) hw hK hG rp_80)) rfl rfl hl.1 rfl (lv_room (Nat.le_of_ble_eq_true rfl)) dX3_digest_226 ⟨(show (1) + i2 + 1 + 0 ≤ 22 by omega), (show (9) + 8 * i2 + 8 + 0 ≤ 129 by omega)⟩) hw hA rp_80 (fun H locs hw => ?_)
              refine k_istN (i := 5) (ws' := wN E M (0, Hb, a, k) ++ [(q154, aI E 8 (upd (upd (upd (upd (upd (upd (fun _ => 0) 0 (n_ma Hb i2)) 1 1) 2 0) 3 (a (3 + 3 * i2 + 1))) 4 (a (3 + 3 * i2 + 2))) 5 (l_mtr a i2 (n_nw Hb))))]) hx hb hK hw 7 rfl (by omega) (by omega) dX3_digest_229 rfl (fun H locs hw => ?_)
              refine lv_dup hx hb dX3_digest_230 rfl ?_
              refine lv_bipush (v := 6) hx hb dX3_digest_231 (by decide) ?_
              refine lv_aload_n hx hb dX3_digest_233 rfl (lv_at hl 1 rfl) ?_
              refine lv_iload hx hb dX3_digest_234 (lv_at hl 3 rfl) ?_
              refine lv_iconst (v := 0) hx hb dX3_digest_236 (by decide) ?_
              refine kr_i (ws' := wN E M (0, Hb, a, k) ++ [(q154, aI E 8 (upd (upd (upd (upd (upd (upd (fun _ => 0) 0 (n_ma Hb i2)) 1 1) 2 0) 3 (a (3 + 3 * i2 + 1))) 4 (a (3 + 3 * i2 + 2))) 5 (l_mtr a i2 (n_nw Hb))))]) (va_runV (As := [.int (nI i2), .int 0]) (rest := [.int 6, .ref q154, .ref q154]) ⟨hx, hb, hml, hown, hts⟩ (c_X3_voters l E M 0 Hb a k i2 false (by omega) (by omega) (by omega) (h4) (by omega) _) (cwV 2 hts gX3_digest_X3_voters rfl rfl rfl ⟨rfl, hd_X3_voters⟩ ⟨Nat.le_of_ble_eq_true rfl, Nat.le_of_ble_eq_true rfl⟩) (pwV (ci := 3) (q0 := 0) (C := RX3) hw hK rfl rfl rfl (rpS (AV := [.ref (M 0), .int (nI i2), .int 0]) hw hK hG rp_80)) rfl rfl hl.1 rfl (lv_room (Nat.le_of_ble_eq_true rfl)) dX3_digest_237 ⟨(show (1) + i2 + 1 + 0 ≤ 22 by omega), (show (9) + 8 * i2 + 8 + 0 ≤ 129 by omega)⟩) hw hA rp_80 (fun H locs hw => ?_)
              refine k_istN (i := 6) (ws' := wN E M (0, Hb, a, k) ++ [(q154, aI E 8 (upd (upd (upd (upd (upd (upd (upd (fun _ => 0) 0 (n_ma Hb i2)) 1 1) 2 0) 3 (a (3 + 3 * i2 + 1))) 4 (a (3 + 3 * i2 + 2))) 5 (l_mtr a i2 (n_nw Hb))) 6 (l_mvo Hb a i2 false (n_np Hb))))]) hx hb hK hw 7 rfl (by omega) (by omega) dX3_digest_240 rfl (fun H locs hw => ?_)
              refine lv_dup hx hb dX3_digest_241 rfl ?_
              refine lv_bipush (v := 7) hx hb dX3_digest_242 (by decide) ?_
              refine lv_aload_n hx hb dX3_digest_244 rfl (lv_at hl 1 rfl) ?_
              refine lv_iload hx hb dX3_digest_245 (lv_at hl 3 rfl) ?_
              refine lv_iconst (v := 1) hx hb dX3_digest_247 (by decide) ?_
              refine kr_i (ws' := wN E M (0, Hb, a, k) ++ [(q154, aI E 8 (upd (upd (upd (upd (upd (upd (upd (fun _ => 0) 0 (n_ma Hb i2)) 1 1) 2 0) 3 (a (3 + 3 * i2 + 1))) 4 (a (3 + 3 * i2 + 2))) 5 (l_mtr a i2 (n_nw Hb))) 6 (l_mvo Hb a i2 false (n_np Hb))))]) (va_runV (As := [.int (nI i2), .int 1]) (rest := [.int 7, .ref q154, .ref q154]) ⟨hx, hb, hml, hown, hts⟩ (c_X3_voters l E M 0 Hb a k i2 true (by omega) (by omega) (by omega) (h4) (by omega) _) (cwV 2 hts gX3_digest_X3_voters rfl rfl rfl ⟨rfl, hd_X3_voters⟩ ⟨Nat.le_of_ble_eq_true rfl, Nat.le_of_ble_eq_true rfl⟩) (pwV (ci := 3) (q0 := 0) (C := RX3) hw hK rfl rfl rfl (rpS (AV := [.ref (M 0), .int (nI i2), .int 1]) hw hK hG rp_80)) rfl rfl hl.1 rfl (lv_room (Nat.le_of_ble_eq_true rfl)) dX3_digest_248 ⟨(show (1) + i2 + 1 + 0 ≤ 22 by omega), (show (9) + 8 * i2 + 8 + 0 ≤ 129 by omega)⟩) hw hA rp_80 (fun H locs hw => ?_)
              refine k_istN (i := 7) (ws' := wN E M (0, Hb, a, k) ++ [(q154, aI E 8 (upd (upd (upd (upd (upd (upd (upd (upd (fun _ => 0) 0 (n_ma Hb i2)) 1 1) 2 0) 3 (a (3 + 3 * i2 + 1))) 4 (a (3 + 3 * i2 + 2))) 5 (l_mtr a i2 (n_nw Hb))) 6 (l_mvo Hb a i2 false (n_np Hb))) 7 (l_mvo Hb a i2 true (n_np Hb))))]) hx hb hK hw 7 rfl (by omega) (by omega) dX3_digest_251 rfl (fun H locs hw => ?_)
              refine lv_astore (lv' := [(6, .ref q154), (5, .int (a (3 + 3 * i2 + 0))), (0, .ref (M 0)), (2, .long (l_dgS Hb a ((l_mix (x_all Hb a) 1949 i1)) i2)), (4, .int (nI i2))]) hx hb dX3_digest_252 hl (by decide) rfl (fun ls hl => ?_)
              refine lv_aload hx hb dX3_digest_254 (lv_at hl 0 rfl) ?_
              refine lv_astore (lv' := [(7, .ref q154), (6, .ref q154), (5, .int (a (3 + 3 * i2 + 0))), (0, .ref (M 0)), (2, .long (l_dgS Hb a ((l_mix (x_all Hb a) 1949 i1)) i2)), (4, .int (nI i2))]) hx hb dX3_digest_256 hl (by decide) rfl (fun ls hl => ?_)
              refine lv_aload hx hb dX3_digest_258 (lv_at hl 0 rfl) ?_
              refine k_lenI hx hb hK hw 7 rfl dX3_digest_260 ?_
              refine lv_istore (lv' := [(8, .int (nI 8)), (7, .ref q154), (6, .ref q154), (5, .int (a (3 + 3 * i2 + 0))), (0, .ref (M 0)), (2, .long (l_dgS Hb a ((l_mix (x_all Hb a) 1949 i1)) i2)), (4, .int (nI i2))]) hx hb dX3_digest_261 hl (by decide) rfl (fun ls hl => ?_)
              have hw : Wd E A9 s9.heap (wN E M (0, Hb, a, k) ++ [(q154, aI E 8 (x_ship Hb a i2))]) H locs := hw.to (by simp only [x_ship, if_neg c_8, if_neg c_9, if_true, if_false, Bool.false_eq_true, Bool.true_eq_false, reduceIte, reduceCtorEq])
              refine lv_iconst (v := 0) hx hb dX3_digest_263 (by decide) ?_
              refine lv_istore (lv' := [(9, .int 0), (8, .int (nI 8)), (7, .ref q154), (6, .ref q154), (5, .int (a (3 + 3 * i2 + 0))), (0, .ref (M 0)), (2, .long (l_dgS Hb a ((l_mix (x_all Hb a) 1949 i1)) i2)), (4, .int (nI i2))]) hx hb dX3_digest_264 hl (by decide) rfl (fun ls hl => ?_)
              have L_266 : ∀ (k9 j2 : Nat) (H : Heap) (locs : List Loc) (ls : Array Slot), j2 + k9 = 8 → Wd E A9 s9.heap (wN E M (0, Hb, a, k) ++ [(q154, aI E 8 (x_ship Hb a i2))]) H locs → lv_has ls 11 [(0, .ref (M 0)), (2, .long (l_mix (x_ship Hb a i2) ((l_dgS Hb a ((l_mix (x_all Hb a) 1949 i1)) i2)) j2)), (4, .int (nI i2)), (7, .ref q154), (8, .int (nI 8)), (9, .int (nI j2))] → W p9 l e rm_X3_digest s9 m args below meth c H locs ((1) + i2 + 1) ((9) + 8 * i2 + 8) (EndL E A9 (r_digest Hb a) (wN E M (0, Hb, a, k)) below args s9 (rm_X3_digest).cells (rm_X3_digest).slots) (F0 m 266 ls []) := by
                intro k9
                induction k9 with
                | zero =>
                  intro j2 H locs ls hi hw hl
                  have hz_10 : 8 = j2 := by omega
                  refine lv_iload hx hb dX3_digest_266 (lv_at hl 5 rfl) ?_
                  refine lv_iload hx hb dX3_digest_268 (lv_at hl 4 rfl) ?_
                  refine lv_icmp_ge (tgt := 296) hx hb dX3_digest_270 (by decide) (fun _ => ?_) (fun q8 => absurd (by rw [← hz_10]; exact Int32.le_refl _) q8)
                  have hw := Wd.drop hw
                  refine lv_iinc (v := nI (i2 + 1)) (lv' := [(4, .int (nI (i2 + 1))), (0, .ref (M 0)), (2, .long (l_mix (x_ship Hb a i2) ((l_dgS Hb a ((l_mix (x_all Hb a) 1949 i1)) i2)) j2)), (7, .ref q154), (8, .int (nI 8)), (9, .int (nI j2))]) hx hb dX3_digest_296 hl (k := 2) rfl (nI_add i2 1) (by decide) rfl (fun ls hl => ?_)
                  refine lv_goto (tgt := 130) hx hb dX3_digest_299 (by decide) ?_
                  refine W.widen (k := (1) + (i2 + 1)) (n := (9) + 8 * (i2 + 1)) (show (1) + i2 + 1 ≤ (1) + (i2 + 1) by omega) (show (9) + 8 * i2 + 8 ≤ (9) + 8 * (i2 + 1) by omega) ?_
                  exact ih_130 (i2 + 1) _ _ _ (by omega) hw (by rw [show (.long (l_dgS Hb a ((l_mix (x_all Hb a) 1949 i1)) (i2 + 1)) : Value) = .long (l_mix (x_ship Hb a i2) ((l_dgS Hb a ((l_mix (x_all Hb a) 1949 i1)) i2)) j2) from (by subst hz_10 hz_1; first | (rw [l_dgW]; done) | (rw [l_dgP]; done) | (rw [l_dgS]; done) | (rw [l_mix]; done))]; exact lv_sub hl [1, 2, 0] rfl)
                | succ k9 ih_266 =>
                  intro j2 H locs ls hi hw hl
                  have hi9 : j2 < 8 := by omega
                  refine lv_iload hx hb dX3_digest_266 (lv_at hl 5 rfl) ?_
                  refine lv_iload hx hb dX3_digest_268 (lv_at hl 4 rfl) ?_
                  refine lv_icmp_ge (tgt := 296) hx hb dX3_digest_270 (by decide) (fun q8 => absurd q8 (nI_ge (a := j2) (b := 8) (by omega) (by omega))) (fun _ => ?_)
                  refine lv_aload hx hb dX3_digest_273 (lv_at hl 3 rfl) ?_
                  refine lv_iload hx hb dX3_digest_275 (lv_at hl 5 rfl) ?_
                  refine k_ildN (i := j2) (f := (x_ship Hb a i2)) hx hb hK hw 7 rfl (by omega) (by omega) dX3_digest_277 ?_
                  refine lv_istore (lv' := [(10, .int ((x_ship Hb a i2) j2)), (0, .ref (M 0)), (2, .long (l_mix (x_ship Hb a i2) ((l_dgS Hb a ((l_mix (x_all Hb a) 1949 i1)) i2)) j2)), (4, .int (nI i2)), (7, .ref q154), (8, .int (nI 8)), (9, .int (nI j2))]) hx hb dX3_digest_278 hl (by decide) rfl (fun ls hl => ?_)
                  refine lv_lload_n hx hb dX3_digest_280 rfl (lv_at hl 2 rfl) ?_
                  refine lv_ldc2 (v := 31) hx hb hown (hts (.constantLong RX3 150 31) (by decide +kernel)) dX3_digest_281 ?_
                  refine lv_lmul hx hb dX3_digest_284 ?_
                  refine lv_iload hx hb dX3_digest_285 (lv_at hl 0 rfl) ?_
                  refine lv_i2l (v := ((x_ship Hb a i2) j2 : Int32).toInt64) hx hb dX3_digest_287 rfl ?_
                  refine lv_ladd hx hb dX3_digest_288 ?_
                  refine lv_lstore_n (lv' := [(2, .long (((l_mix (x_ship Hb a i2) ((l_dgS Hb a ((l_mix (x_all Hb a) 1949 i1)) i2)) j2) * 31) + (((x_ship Hb a i2) j2 : Int32).toInt64))), (10, .int ((x_ship Hb a i2) j2)), (0, .ref (M 0)), (4, .int (nI i2)), (7, .ref q154), (8, .int (nI 8)), (9, .int (nI j2))]) hx hb dX3_digest_289 rfl hl (by decide) rfl (fun ls hl => ?_)
                  refine lv_iinc (v := nI (j2 + 1)) (lv' := [(9, .int (nI (j2 + 1))), (2, .long (((l_mix (x_ship Hb a i2) ((l_dgS Hb a ((l_mix (x_all Hb a) 1949 i1)) i2)) j2) * 31) + (((x_ship Hb a i2) j2 : Int32).toInt64))), (10, .int ((x_ship Hb a i2) j2)), (0, .ref (M 0)), (4, .int (nI i2)), (7, .ref q154), (8, .int (nI 8))]) hx hb dX3_digest_290 hl (k := 6) rfl (nI_add j2 1) (by decide) rfl (fun ls hl => ?_)
                  refine lv_goto (tgt := 266) hx hb dX3_digest_293 (by decide) ?_
                  exact ih_266 (j2 + 1) _ _ _ (by omega) hw (by rw [show (.long (l_mix (x_ship Hb a i2) ((l_dgS Hb a ((l_mix (x_all Hb a) 1949 i1)) i2)) (j2 + 1)) : Value) = .long (((l_mix (x_ship Hb a i2) ((l_dgS Hb a ((l_mix (x_all Hb a) 1949 i1)) i2)) j2) * 31) + (((x_ship Hb a i2) j2 : Int32).toInt64)) from (by subst hz_1; first | (rw [l_dgW]; done) | (rw [l_dgP]; done) | (rw [l_dgS]; done) | (rw [l_mix]; done))]; exact lv_sub hl [3, 1, 4, 5, 6, 0] rfl)
              exact L_266 (8 - 0) 0 _ _ _ (by omega) hw (lv_sub hl [5, 6, 7, 2, 1, 0] rfl)
            · refine lv_iconst (v := 1) hx hb dX3_digest_187 (by decide) ?_
              refine lv_goto (tgt := 192) hx hb dX3_digest_188 (by decide) ?_
              refine k_istN (i := 2) (ws' := wN E M (0, Hb, a, k) ++ [(q154, aI E 8 (upd (upd (upd (fun _ => 0) 0 (n_ma Hb i2)) 1 1) 2 1))]) hx hb hK hw 7 rfl (by omega) (by omega) dX3_digest_192 rfl (fun H locs hw => ?_)
              refine lv_dup hx hb dX3_digest_193 rfl ?_
              refine lv_iconst (v := 3) hx hb dX3_digest_194 (by decide) ?_
              refine lv_aload_n hx hb dX3_digest_195 rfl (lv_at hl 1 rfl) ?_
              refine k_get (ci := 3) (v := .ref (M 5)) (C := RX3) (T := TX3) (N := 10) hx hb hown hK hw hts hinX3 0 rfl rfl 8 (by decide) hf23 rfl dX3_digest_196 ?_
              refine lv_iload hx hb dX3_digest_199 (lv_at hl 3 rfl) ?_
              refine lv_iconst (v := 1) hx hb dX3_digest_201 (by decide) ?_
              refine kr_i (ws' := wN E M (0, Hb, a, k) ++ [(q154, aI E 8 (upd (upd (upd (fun _ => 0) 0 (n_ma Hb i2)) 1 1) 2 1))]) (va_runS (As := [.int (nI i2), .int 1]) (rest := [.ref (M 5), .int 3, .ref q154, .ref q154]) ⟨hx, hb, hml, hown, hts⟩ (c_X3_ship l E i2 1  _) (va_cwS 2 hts gX3_digest_X3_ship rfl rfl rfl hd_X3_ship ⟨Nat.le_of_ble_eq_true rfl, Nat.le_of_ble_eq_true rfl⟩) (rpS (AV := [.int (nI i2), .int 1]) hw hK hG rp_79) rfl rfl hl.1 rfl (lv_room (Nat.le_of_ble_eq_true rfl)) dX3_digest_202 ⟨(show (1) + i2 + 1 + 0 ≤ 22 by omega), (show (9) + 8 * i2 + 8 + 0 ≤ 129 by omega)⟩) hw hA rp_79 (fun H locs hw => ?_)
              refine k_ildN (i := 3 + 3 * i2 + 1) (f := a) hx hb hK hw 5 rfl (by omega) (by omega) dX3_digest_205 ?_
              refine k_istN (i := 3) (ws' := wN E M (0, Hb, a, k) ++ [(q154, aI E 8 (upd (upd (upd (upd (fun _ => 0) 0 (n_ma Hb i2)) 1 1) 2 1) 3 (a (3 + 3 * i2 + 1))))]) hx hb hK hw 7 rfl (by omega) (by omega) dX3_digest_206 rfl (fun H locs hw => ?_)
              refine lv_dup hx hb dX3_digest_207 rfl ?_
              refine lv_iconst (v := 4) hx hb dX3_digest_208 (by decide) ?_
              refine lv_aload_n hx hb dX3_digest_209 rfl (lv_at hl 1 rfl) ?_
              refine k_get (ci := 3) (v := .ref (M 5)) (C := RX3) (T := TX3) (N := 10) hx hb hown hK hw hts hinX3 0 rfl rfl 8 (by decide) hf23 rfl dX3_digest_210 ?_
              refine lv_iload hx hb dX3_digest_213 (lv_at hl 3 rfl) ?_
              refine lv_iconst (v := 2) hx hb dX3_digest_215 (by decide) ?_
              refine kr_i (ws' := wN E M (0, Hb, a, k) ++ [(q154, aI E 8 (upd (upd (upd (upd (fun _ => 0) 0 (n_ma Hb i2)) 1 1) 2 1) 3 (a (3 + 3 * i2 + 1))))]) (va_runS (As := [.int (nI i2), .int 2]) (rest := [.ref (M 5), .int 4, .ref q154, .ref q154]) ⟨hx, hb, hml, hown, hts⟩ (c_X3_ship l E i2 2  _) (va_cwS 2 hts gX3_digest_X3_ship rfl rfl rfl hd_X3_ship ⟨Nat.le_of_ble_eq_true rfl, Nat.le_of_ble_eq_true rfl⟩) (rpS (AV := [.int (nI i2), .int 2]) hw hK hG rp_79) rfl rfl hl.1 rfl (lv_room (Nat.le_of_ble_eq_true rfl)) dX3_digest_216 ⟨(show (1) + i2 + 1 + 0 ≤ 22 by omega), (show (9) + 8 * i2 + 8 + 0 ≤ 129 by omega)⟩) hw hA rp_79 (fun H locs hw => ?_)
              refine k_ildN (i := 3 + 3 * i2 + 2) (f := a) hx hb hK hw 5 rfl (by omega) (by omega) dX3_digest_219 ?_
              refine k_istN (i := 4) (ws' := wN E M (0, Hb, a, k) ++ [(q154, aI E 8 (upd (upd (upd (upd (upd (fun _ => 0) 0 (n_ma Hb i2)) 1 1) 2 1) 3 (a (3 + 3 * i2 + 1))) 4 (a (3 + 3 * i2 + 2))))]) hx hb hK hw 7 rfl (by omega) (by omega) dX3_digest_220 rfl (fun H locs hw => ?_)
              refine lv_dup hx hb dX3_digest_221 rfl ?_
              refine lv_iconst (v := 5) hx hb dX3_digest_222 (by decide) ?_
              refine lv_aload_n hx hb dX3_digest_223 rfl (lv_at hl 1 rfl) ?_
              refine lv_iload hx hb dX3_digest_224 (lv_at hl 3 rfl) ?_
              refine kr_i (ws' := wN E M (0, Hb, a, k) ++ [(q154, aI E 8 (upd (upd (upd (upd (upd (fun _ => 0) 0 (n_ma Hb i2)) 1 1) 2 1) 3 (a (3 + 3 * i2 + 1))) 4 (a (3 + 3 * i2 + 2))))]) (va_runV (As := [.int (nI i2)]) (rest := [.int 5, .ref q154, .ref q154]) ⟨hx, hb, hml, hown, hts⟩ (c_X3_trust l E M 0 Hb a k i2 (by omega) (by omega) (by omega) (h4) (by omega) _) (cwV 1 hts gX3_digest_X3_trust rfl rfl rfl ⟨rfl, hd_X3_trust⟩ ⟨Nat.le_of_ble_eq_true rfl, Nat.le_of_ble_eq_true rfl⟩) (pwV (ci := 3) (q0 := 0) (C := RX3) hw hK rfl rfl rfl (rpS (AV := [.ref (M 0), .int (nI i2)]) hw hK hG rp_80)) rfl rfl hl.1 rfl (lv_room (Nat.le_of_ble_eq_true rfl)) dX3_digest_226 ⟨(show (1) + i2 + 1 + 0 ≤ 22 by omega), (show (9) + 8 * i2 + 8 + 0 ≤ 129 by omega)⟩) hw hA rp_80 (fun H locs hw => ?_)
              refine k_istN (i := 5) (ws' := wN E M (0, Hb, a, k) ++ [(q154, aI E 8 (upd (upd (upd (upd (upd (upd (fun _ => 0) 0 (n_ma Hb i2)) 1 1) 2 1) 3 (a (3 + 3 * i2 + 1))) 4 (a (3 + 3 * i2 + 2))) 5 (l_mtr a i2 (n_nw Hb))))]) hx hb hK hw 7 rfl (by omega) (by omega) dX3_digest_229 rfl (fun H locs hw => ?_)
              refine lv_dup hx hb dX3_digest_230 rfl ?_
              refine lv_bipush (v := 6) hx hb dX3_digest_231 (by decide) ?_
              refine lv_aload_n hx hb dX3_digest_233 rfl (lv_at hl 1 rfl) ?_
              refine lv_iload hx hb dX3_digest_234 (lv_at hl 3 rfl) ?_
              refine lv_iconst (v := 0) hx hb dX3_digest_236 (by decide) ?_
              refine kr_i (ws' := wN E M (0, Hb, a, k) ++ [(q154, aI E 8 (upd (upd (upd (upd (upd (upd (fun _ => 0) 0 (n_ma Hb i2)) 1 1) 2 1) 3 (a (3 + 3 * i2 + 1))) 4 (a (3 + 3 * i2 + 2))) 5 (l_mtr a i2 (n_nw Hb))))]) (va_runV (As := [.int (nI i2), .int 0]) (rest := [.int 6, .ref q154, .ref q154]) ⟨hx, hb, hml, hown, hts⟩ (c_X3_voters l E M 0 Hb a k i2 false (by omega) (by omega) (by omega) (h4) (by omega) _) (cwV 2 hts gX3_digest_X3_voters rfl rfl rfl ⟨rfl, hd_X3_voters⟩ ⟨Nat.le_of_ble_eq_true rfl, Nat.le_of_ble_eq_true rfl⟩) (pwV (ci := 3) (q0 := 0) (C := RX3) hw hK rfl rfl rfl (rpS (AV := [.ref (M 0), .int (nI i2), .int 0]) hw hK hG rp_80)) rfl rfl hl.1 rfl (lv_room (Nat.le_of_ble_eq_true rfl)) dX3_digest_237 ⟨(show (1) + i2 + 1 + 0 ≤ 22 by omega), (show (9) + 8 * i2 + 8 + 0 ≤ 129 by omega)⟩) hw hA rp_80 (fun H locs hw => ?_)
              refine k_istN (i := 6) (ws' := wN E M (0, Hb, a, k) ++ [(q154, aI E 8 (upd (upd (upd (upd (upd (upd (upd (fun _ => 0) 0 (n_ma Hb i2)) 1 1) 2 1) 3 (a (3 + 3 * i2 + 1))) 4 (a (3 + 3 * i2 + 2))) 5 (l_mtr a i2 (n_nw Hb))) 6 (l_mvo Hb a i2 false (n_np Hb))))]) hx hb hK hw 7 rfl (by omega) (by omega) dX3_digest_240 rfl (fun H locs hw => ?_)
              refine lv_dup hx hb dX3_digest_241 rfl ?_
              refine lv_bipush (v := 7) hx hb dX3_digest_242 (by decide) ?_
              refine lv_aload_n hx hb dX3_digest_244 rfl (lv_at hl 1 rfl) ?_
              refine lv_iload hx hb dX3_digest_245 (lv_at hl 3 rfl) ?_
              refine lv_iconst (v := 1) hx hb dX3_digest_247 (by decide) ?_
              refine kr_i (ws' := wN E M (0, Hb, a, k) ++ [(q154, aI E 8 (upd (upd (upd (upd (upd (upd (upd (fun _ => 0) 0 (n_ma Hb i2)) 1 1) 2 1) 3 (a (3 + 3 * i2 + 1))) 4 (a (3 + 3 * i2 + 2))) 5 (l_mtr a i2 (n_nw Hb))) 6 (l_mvo Hb a i2 false (n_np Hb))))]) (va_runV (As := [.int (nI i2), .int 1]) (rest := [.int 7, .ref q154, .ref q154]) ⟨hx, hb, hml, hown, hts⟩ (c_X3_voters l E M 0 Hb a k i2 true (by omega) (by omega) (by omega) (h4) (by omega) _) (cwV 2 hts gX3_digest_X3_voters rfl rfl rfl ⟨rfl, hd_X3_voters⟩ ⟨Nat.le_of_ble_eq_true rfl, Nat.le_of_ble_eq_true rfl⟩) (pwV (ci := 3) (q0 := 0) (C := RX3) hw hK rfl rfl rfl (rpS (AV := [.ref (M 0), .int (nI i2), .int 1]) hw hK hG rp_80)) rfl rfl hl.1 rfl (lv_room (Nat.le_of_ble_eq_true rfl)) dX3_digest_248 ⟨(show (1) + i2 + 1 + 0 ≤ 22 by omega), (show (9) + 8 * i2 + 8 + 0 ≤ 129 by omega)⟩) hw hA rp_80 (fun H locs hw => ?_)
              refine k_istN (i := 7) (ws' := wN E M (0, Hb, a, k) ++ [(q154, aI E 8 (upd (upd (upd (upd (upd (upd (upd (upd (fun _ => 0) 0 (n_ma Hb i2)) 1 1) 2 1) 3 (a (3 + 3 * i2 + 1))) 4 (a (3 + 3 * i2 + 2))) 5 (l_mtr a i2 (n_nw Hb))) 6 (l_mvo Hb a i2 false (n_np Hb))) 7 (l_mvo Hb a i2 true (n_np Hb))))]) hx hb hK hw 7 rfl (by omega) (by omega) dX3_digest_251 rfl (fun H locs hw => ?_)
              refine lv_astore (lv' := [(6, .ref q154), (5, .int (a (3 + 3 * i2 + 0))), (0, .ref (M 0)), (2, .long (l_dgS Hb a ((l_mix (x_all Hb a) 1949 i1)) i2)), (4, .int (nI i2))]) hx hb dX3_digest_252 hl (by decide) rfl (fun ls hl => ?_)
              refine lv_aload hx hb dX3_digest_254 (lv_at hl 0 rfl) ?_
              refine lv_astore (lv' := [(7, .ref q154), (6, .ref q154), (5, .int (a (3 + 3 * i2 + 0))), (0, .ref (M 0)), (2, .long (l_dgS Hb a ((l_mix (x_all Hb a) 1949 i1)) i2)), (4, .int (nI i2))]) hx hb dX3_digest_256 hl (by decide) rfl (fun ls hl => ?_)
              refine lv_aload hx hb dX3_digest_258 (lv_at hl 0 rfl) ?_
              refine k_lenI hx hb hK hw 7 rfl dX3_digest_260 ?_
              refine lv_istore (lv' := [(8, .int (nI 8)), (7, .ref q154), (6, .ref q154), (5, .int (a (3 + 3 * i2 + 0))), (0, .ref (M 0)), (2, .long (l_dgS Hb a ((l_mix (x_all Hb a) 1949 i1)) i2)), (4, .int (nI i2))]) hx hb dX3_digest_261 hl (by decide) rfl (fun ls hl => ?_)
              have hw : Wd E A9 s9.heap (wN E M (0, Hb, a, k) ++ [(q154, aI E 8 (x_ship Hb a i2))]) H locs := hw.to (by simp only [x_ship, if_neg c_8, if_pos c_9, if_true, if_false, Bool.false_eq_true, Bool.true_eq_false, reduceIte, reduceCtorEq])
              refine lv_iconst (v := 0) hx hb dX3_digest_263 (by decide) ?_
              refine lv_istore (lv' := [(9, .int 0), (8, .int (nI 8)), (7, .ref q154), (6, .ref q154), (5, .int (a (3 + 3 * i2 + 0))), (0, .ref (M 0)), (2, .long (l_dgS Hb a ((l_mix (x_all Hb a) 1949 i1)) i2)), (4, .int (nI i2))]) hx hb dX3_digest_264 hl (by decide) rfl (fun ls hl => ?_)
              have L_266 : ∀ (k9 j2 : Nat) (H : Heap) (locs : List Loc) (ls : Array Slot), j2 + k9 = 8 → Wd E A9 s9.heap (wN E M (0, Hb, a, k) ++ [(q154, aI E 8 (x_ship Hb a i2))]) H locs → lv_has ls 11 [(0, .ref (M 0)), (2, .long (l_mix (x_ship Hb a i2) ((l_dgS Hb a ((l_mix (x_all Hb a) 1949 i1)) i2)) j2)), (4, .int (nI i2)), (7, .ref q154), (8, .int (nI 8)), (9, .int (nI j2))] → W p9 l e rm_X3_digest s9 m args below meth c H locs ((1) + i2 + 1) ((9) + 8 * i2 + 8) (EndL E A9 (r_digest Hb a) (wN E M (0, Hb, a, k)) below args s9 (rm_X3_digest).cells (rm_X3_digest).slots) (F0 m 266 ls []) := by
                intro k9
                induction k9 with
                | zero =>
                  intro j2 H locs ls hi hw hl
                  have hz_11 : 8 = j2 := by omega
                  refine lv_iload hx hb dX3_digest_266 (lv_at hl 5 rfl) ?_
                  refine lv_iload hx hb dX3_digest_268 (lv_at hl 4 rfl) ?_
                  refine lv_icmp_ge (tgt := 296) hx hb dX3_digest_270 (by decide) (fun _ => ?_) (fun q8 => absurd (by rw [← hz_11]; exact Int32.le_refl _) q8)
                  have hw := Wd.drop hw
                  refine lv_iinc (v := nI (i2 + 1)) (lv' := [(4, .int (nI (i2 + 1))), (0, .ref (M 0)), (2, .long (l_mix (x_ship Hb a i2) ((l_dgS Hb a ((l_mix (x_all Hb a) 1949 i1)) i2)) j2)), (7, .ref q154), (8, .int (nI 8)), (9, .int (nI j2))]) hx hb dX3_digest_296 hl (k := 2) rfl (nI_add i2 1) (by decide) rfl (fun ls hl => ?_)
                  refine lv_goto (tgt := 130) hx hb dX3_digest_299 (by decide) ?_
                  refine W.widen (k := (1) + (i2 + 1)) (n := (9) + 8 * (i2 + 1)) (show (1) + i2 + 1 ≤ (1) + (i2 + 1) by omega) (show (9) + 8 * i2 + 8 ≤ (9) + 8 * (i2 + 1) by omega) ?_
                  exact ih_130 (i2 + 1) _ _ _ (by omega) hw (by rw [show (.long (l_dgS Hb a ((l_mix (x_all Hb a) 1949 i1)) (i2 + 1)) : Value) = .long (l_mix (x_ship Hb a i2) ((l_dgS Hb a ((l_mix (x_all Hb a) 1949 i1)) i2)) j2) from (by subst hz_11 hz_1; first | (rw [l_dgW]; done) | (rw [l_dgP]; done) | (rw [l_dgS]; done) | (rw [l_mix]; done))]; exact lv_sub hl [1, 2, 0] rfl)
                | succ k9 ih_266 =>
                  intro j2 H locs ls hi hw hl
                  have hi9 : j2 < 8 := by omega
                  refine lv_iload hx hb dX3_digest_266 (lv_at hl 5 rfl) ?_
                  refine lv_iload hx hb dX3_digest_268 (lv_at hl 4 rfl) ?_
                  refine lv_icmp_ge (tgt := 296) hx hb dX3_digest_270 (by decide) (fun q8 => absurd q8 (nI_ge (a := j2) (b := 8) (by omega) (by omega))) (fun _ => ?_)
                  refine lv_aload hx hb dX3_digest_273 (lv_at hl 3 rfl) ?_
                  refine lv_iload hx hb dX3_digest_275 (lv_at hl 5 rfl) ?_
                  refine k_ildN (i := j2) (f := (x_ship Hb a i2)) hx hb hK hw 7 rfl (by omega) (by omega) dX3_digest_277 ?_
                  refine lv_istore (lv' := [(10, .int ((x_ship Hb a i2) j2)), (0, .ref (M 0)), (2, .long (l_mix (x_ship Hb a i2) ((l_dgS Hb a ((l_mix (x_all Hb a) 1949 i1)) i2)) j2)), (4, .int (nI i2)), (7, .ref q154), (8, .int (nI 8)), (9, .int (nI j2))]) hx hb dX3_digest_278 hl (by decide) rfl (fun ls hl => ?_)
                  refine lv_lload_n hx hb dX3_digest_280 rfl (lv_at hl 2 rfl) ?_
                  refine lv_ldc2 (v := 31) hx hb hown (hts (.constantLong RX3 150 31) (by decide +kernel)) dX3_digest_281 ?_
                  refine lv_lmul hx hb dX3_digest_284 ?_
                  refine lv_iload hx hb dX3_digest_285 (lv_at hl 0 rfl) ?_
                  refine lv_i2l (v := ((x_ship Hb a i2) j2 : Int32).toInt64) hx hb dX3_digest_287 rfl ?_
                  refine lv_ladd hx hb dX3_digest_288 ?_
                  refine lv_lstore_n (lv' := [(2, .long (((l_mix (x_ship Hb a i2) ((l_dgS Hb a ((l_mix (x_all Hb a) 1949 i1)) i2)) j2) * 31) + (((x_ship Hb a i2) j2 : Int32).toInt64))), (10, .int ((x_ship Hb a i2) j2)), (0, .ref (M 0)), (4, .int (nI i2)), (7, .ref q154), (8, .int (nI 8)), (9, .int (nI j2))]) hx hb dX3_digest_289 rfl hl (by decide) rfl (fun ls hl => ?_)
                  refine lv_iinc (v := nI (j2 + 1)) (lv' := [(9, .int (nI (j2 + 1))), (2, .long (((l_mix (x_ship Hb a i2) ((l_dgS Hb a ((l_mix (x_all Hb a) 1949 i1)) i2)) j2) * 31) + (((x_ship Hb a i2) j2 : Int32).toInt64))), (10, .int ((x_ship Hb a i2) j2)), (0, .ref (M 0)), (4, .int (nI i2)), (7, .ref q154), (8, .int (nI 8))]) hx hb dX3_digest_290 hl (k := 6) rfl (nI_add j2 1) (by decide) rfl (fun ls hl => ?_)
                  refine lv_goto (tgt := 266) hx hb dX3_digest_293 (by decide) ?_
                  exact ih_266 (j2 + 1) _ _ _ (by omega) hw (by rw [show (.long (l_mix (x_ship Hb a i2) ((l_dgS Hb a ((l_mix (x_all Hb a) 1949 i1)) i2)) (j2 + 1)) : Value) = .long (((l_mix (x_ship Hb a i2) ((l_dgS Hb a ((l_mix (x_all Hb a) 1949 i1)) i2)) j2) * 31) + (((x_ship Hb a i2) j2 : Int32).toInt64)) from (by subst hz_1; first | (rw [l_dgW]; done) | (rw [l_dgP]; done) | (rw [l_dgS]; done) | (rw [l_mix]; done))]; exact lv_sub hl [3, 1, 4, 5, 6, 0] rfl)
              exact L_266 (8 - 0) 0 _ _ _ (by omega) hw (lv_sub hl [5, 6, 7, 2, 1, 0] rfl)
          · refine lv_iconst (v := 0) hx hb dX3_digest_173 (by decide) ?_
            refine lv_goto (tgt := 178) hx hb dX3_digest_174 (by decide) ?_
            refine k_istN (i := 1) (ws' := wN E M (0, Hb, a, k) ++ [(q154, aI E 8 (upd (upd (fun _ => 0) 0 (n_ma Hb i2)) 1 0))]) hx hb hK hw 7 rfl (by omega) (by omega) dX3_digest_178 rfl (fun H locs hw => ?_)
            refine lv_dup hx hb dX3_digest_179 rfl ?_
            refine lv_iconst (v := 2) hx hb dX3_digest_180 (by decide) ?_
            refine lv_iload hx hb dX3_digest_181 (lv_at hl 0 rfl) ?_
            refine lv_iconst (v := 2) hx hb dX3_digest_183 (by decide) ?_
            refine lv_icmp_ne (tgt := 191) hx hb dX3_digest_184 (by decide) (fun c_12 => ?_) (fun c_12 => ?_)
            · refine lv_iconst (v := 0) hx hb dX3_digest_191 (by decide) ?_
              refine k_istN (i := 2) (ws' := wN E M (0, Hb, a, k) ++ [(q154, aI E 8 (upd (upd (upd (fun _ => 0) 0 (n_ma Hb i2)) 1 0) 2 0))]) hx hb hK hw 7 rfl (by omega) (by omega) dX3_digest_192 rfl (fun H locs hw => ?_)
              refine lv_dup hx hb dX3_digest_193 rfl ?_
              refine lv_iconst (v := 3) hx hb dX3_digest_194 (by decide) ?_
              refine lv_aload_n hx hb dX3_digest_195 rfl (lv_at hl 1 rfl) ?_
              refine k_get (ci := 3) (v := .ref (M 5)) (C := RX3) (T := TX3) (N := 10) hx hb hown hK hw hts hinX3 0 rfl rfl 8 (by decide) hf23 rfl dX3_digest_196 ?_
              refine lv_iload hx hb dX3_digest_199 (lv_at hl 3 rfl) ?_
              refine lv_iconst (v := 1) hx hb dX3_digest_201 (by decide) ?_
              refine kr_i (ws' := wN E M (0, Hb, a, k) ++ [(q154, aI E 8 (upd (upd (upd (fun _ => 0) 0 (n_ma Hb i2)) 1 0) 2 0))]) (va_runS (As := [.int (nI i2), .int 1]) (rest := [.ref (M 5), .int 3, .ref q154, .ref q154]) ⟨hx, hb, hml, hown, hts⟩ (c_X3_ship l E i2 1  _) (va_cwS 2 hts gX3_digest_X3_ship rfl rfl rfl hd_X3_ship ⟨Nat.le_of_ble_eq_true rfl, Nat.le_of_ble_eq_true rfl⟩) (rpS (AV := [.int (nI i2), .int 1]) hw hK hG rp_79) rfl rfl hl.1 rfl (lv_room (Nat.le_of_ble_eq_true rfl)) dX3_digest_202 ⟨(show (1) + i2 + 1 + 0 ≤ 22 by omega), (show (9) + 8 * i2 + 8 + 0 ≤ 129 by omega)⟩) hw hA rp_79 (fun H locs hw => ?_)
              refine k_ildN (i := 3 + 3 * i2 + 1) (f := a) hx hb hK hw 5 rfl (by omega) (by omega) dX3_digest_205 ?_
              refine k_istN (i := 3) (ws' := wN E M (0, Hb, a, k) ++ [(q154, aI E 8 (upd (upd (upd (upd (fun _ => 0) 0 (n_ma Hb i2)) 1 0) 2 0) 3 (a (3 + 3 * i2 + 1))))]) hx hb hK hw 7 rfl (by omega) (by omega) dX3_digest_206 rfl (fun H locs hw => ?_)
              refine lv_dup hx hb dX3_digest_207 rfl ?_
              refine lv_iconst (v := 4) hx hb dX3_digest_208 (by decide) ?_
              refine lv_aload_n hx hb dX3_digest_209 rfl (lv_at hl 1 rfl) ?_
              refine k_get (ci := 3) (v := .ref (M 5)) (C := RX3) (T := TX3) (N := 10) hx hb hown hK hw hts hinX3 0 rfl rfl 8 (by decide) hf23 rfl dX3_digest_210 ?_
              refine lv_iload hx hb dX3_digest_213 (lv_at hl 3 rfl) ?_
              refine lv_iconst (v := 2) hx hb dX3_digest_215 (by decide) ?_
              refine kr_i (ws' := wN E M (0, Hb, a, k) ++ [(q154, aI E 8 (upd (upd (upd (upd (fun _ => 0) 0 (n_ma Hb i2)) 1 0) 2 0) 3 (a (3 + 3 * i2 + 1))))]) (va_runS (As := [.int (nI i2), .int 2]) (rest := [.ref (M 5), .int 4, .ref q154, .ref q154]) ⟨hx, hb, hml, hown, hts⟩ (c_X3_ship l E i2 2  _) (va_cwS 2 hts gX3_digest_X3_ship rfl rfl rfl hd_X3_ship ⟨Nat.le_of_ble_eq_true rfl, Nat.le_of_ble_eq_true rfl⟩) (rpS (AV := [.int (nI i2), .int 2]) hw hK hG rp_79) rfl rfl hl.1 rfl (lv_room (Nat.le_of_ble_eq_true rfl)) dX3_digest_216 ⟨(show (1) + i2 + 1 + 0 ≤ 22 by omega), (show (9) + 8 * i2 + 8 + 0 ≤ 129 by omega)⟩) hw hA rp_79 (fun H locs hw => ?_)
              refine k_ildN (i := 3 + 3 * i2 + 2) (f := a) hx hb hK hw 5 rfl (by omega) (by omega) dX3_digest_219 ?_
              refine k_istN (i := 4) (ws' := wN E M (0, Hb, a, k) ++ [(q154, aI E 8 (upd (upd (upd (upd (upd (fun _ => 0) 0 (n_ma Hb i2)) 1 0) 2 0) 3 (a (3 + 3 * i2 + 1))) 4 (a (3 + 3 * i2 + 2))))]) hx hb hK hw 7 rfl (by omega) (by omega) dX3_digest_220 rfl (fun H locs hw => ?_)
              refine lv_dup hx hb dX3_digest_221 rfl ?_
              refine lv_iconst (v := 5) hx hb dX3_digest_222 (by decide) ?_
              refine lv_aload_n hx hb dX3_digest_223 rfl (lv_at hl 1 rfl) ?_
              refine lv_iload hx hb dX3_digest_224 (lv_at hl 3 rfl) ?_
              refine kr_i (ws' := wN E M (0, Hb, a, k) ++ [(q154, aI E 8 (upd (upd (upd (upd (upd (fun _ => 0) 0 (n_ma Hb i2)) 1 0) 2 0) 3 (a (3 + 3 * i2 + 1))) 4 (a (3 + 3 * i2 + 2))))]) (va_runV (As := [.int (nI i2)]) (rest := [.int 5, .ref q154, .ref q154]) ⟨hx, hb, hml, hown, hts⟩ (c_X3_trust l E M 0 Hb a k i2 (by omega) (by omega) (by omega) (h4) (by omega) _) (cwV 1 hts gX3_digest_X3_trust rfl rfl rfl ⟨rfl, hd_X3_trust⟩ ⟨Nat.le_of_ble_eq_true rfl, Nat.le_of_ble_eq_true rfl⟩) (pwV (ci := 3) (q0 := 0) (C := RX3) hw hK rfl rfl rfl (rpS (AV := [.ref (M 0), .int (nI i2)]) hw hK hG rp_80)) rfl rfl hl.1 rfl (lv_room (Nat.le_of_ble_eq_true rfl)) dX3_digest_226 ⟨(show (1) + i2 + 1 + 0 ≤ 22 by omega), (show (9) + 8 * i2 + 8 + 0 ≤ 129 by omega)⟩) hw hA rp_80 (fun H locs hw => ?_)
              refine k_istN (i := 5) (ws' := wN E M (0, Hb, a, k) ++ [(q154, aI E 8 (upd (upd (upd (upd (upd (upd (fun _ => 0) 0 (n_ma Hb i2)) 1 0) 2 0) 3 (a (3 + 3 * i2 + 1))) 4 (a (3 + 3 * i2 + 2))) 5 (l_mtr a i2 (n_nw Hb))))]) hx hb hK hw 7 rfl (by omega) (by omega) dX3_digest_229 rfl (fun H locs hw => ?_)
              refine lv_dup hx hb dX3_digest_230 rfl ?_
              refine lv_bipush (v := 6) hx hb dX3_digest_231 (by decide) ?_
              refine lv_aload_n hx hb dX3_digest_233 rfl (lv_at hl 1 rfl) ?_
              refine lv_iload hx hb dX3_digest_234 (lv_at hl 3 rfl) ?_
              refine lv_iconst (v := 0) hx hb dX3_digest_236 (by decide) ?_
              refine kr_i (ws' := wN E M (0, Hb, a, k) ++ [(q154, aI E 8 (upd (upd (upd (upd (upd (upd (fun _ => 0) 0 (n_ma Hb i2)) 1 0) 2 0) 3 (a (3 + 3 * i2 + 1))) 4 (a (3 + 3 * i2 + 2))) 5 (l_mtr a i2 (n_nw Hb))))]) (va_runV (As := [.int (nI i2), .int 0]) (rest := [.int 6, .ref q154, .ref q154]) ⟨hx, hb, hml, hown, hts⟩ (c_X3_voters l E M 0 Hb a k i2 false (by omega) (by omega) (by omega) (h4) (by omega) _) (cwV 2 hts gX3_digest_X3_voters rfl rfl rfl ⟨rfl, hd_X3_voters⟩ ⟨Nat.le_of_ble_eq_true rfl, Nat.le_of_ble_eq_true rfl⟩) (pwV (ci := 3) (q0 := 0) (C := RX3) hw hK rfl rfl rfl (rpS (AV := [.ref (M 0), .int (nI i2), .int 0]) hw hK hG rp_80)) rfl rfl hl.1 rfl (lv_room (Nat.le_of_ble_eq_true rfl)) dX3_digest_237 ⟨(show (1) + i2 + 1 + 0 ≤ 22 by omega), (show (9) + 8 * i2 + 8 + 0 ≤ 129 by omega)⟩) hw hA rp_80 (fun H locs hw => ?_)
              refine k_istN (i := 6) (ws' := wN E M (0, Hb, a, k) ++ [(q154, aI E 8 (upd (upd (upd (upd (upd (upd (upd (fun _ => 0) 0 (n_ma Hb i2)) 1 0) 2 0) 3 (a (3 + 3 * i2 + 1))) 4 (a (3 + 3 * i2 + 2))) 5 (l_mtr a i2 (n_nw Hb))) 6 (l_mvo Hb a i2 false (n_np Hb))))]) hx hb hK hw 7 rfl (by omega) (by omega) dX3_digest_240 rfl (fun H locs hw => ?_)
              refine lv_dup hx hb dX3_digest_241 rfl ?_
              refine lv_bipush (v := 7) hx hb dX3_digest_242 (by decide) ?_
              refine lv_aload_n hx hb dX3_digest_244 rfl (lv_at hl 1 rfl) ?_
              refine lv_iload hx hb dX3_digest_245 (lv_at hl 3 rfl) ?_
              refine lv_iconst (v := 1) hx hb dX3_digest_247 (by decide) ?_
              refine kr_i (ws' := wN E M (0, Hb, a, k) ++ [(q154, aI E 8 (upd (upd (upd (upd (upd (upd (upd (fun _ => 0) 0 (n_ma Hb i2)) 1 0) 2 0) 3 (a (3 + 3 * i2 + 1))) 4 (a (3 + 3 * i2 + 2))) 5 (l_mtr a i2 (n_nw Hb))) 6 (l_mvo Hb a i2 false (n_np Hb))))]) (va_runV (As := [.int (nI i2), .int 1]) (rest := [.int 7, .ref q154, .ref q154]) ⟨hx, hb, hml, hown, hts⟩ (c_X3_voters l E M 0 Hb a k i2 true (by omega) (by omega) (by omega) (h4) (by omega) _) (cwV 2 hts gX3_digest_X3_voters rfl rfl rfl ⟨rfl, hd_X3_voters⟩ ⟨Nat.le_of_ble_eq_true rfl, Nat.le_of_ble_eq_true rfl⟩) (pwV (ci := 3) (q0 := 0) (C := RX3) hw hK rfl rfl rfl (rpS (AV := [.ref (M 0), .int (nI i2), .int 1]) hw hK hG rp_80)) rfl rfl hl.1 rfl (lv_room (Nat.le_of_ble_eq_true rfl)) dX3_digest_248 ⟨(show (1) + i2 + 1 + 0 ≤ 22 by omega), (show (9) + 8 * i2 + 8 + 0 ≤ 129 by omega)⟩) hw hA rp_80 (fun H locs hw => ?_)
              refine k_istN (i := 7) (ws' := wN E M (0, Hb, a, k) ++ [(q154, aI E 8 (upd (upd (upd (upd (upd (upd (upd (upd (fun _ => 0) 0 (n_ma Hb i2)) 1 0) 2 0) 3 (a (3 + 3 * i2 + 1))) 4 (a (3 + 3 * i2 + 2))) 5 (l_mtr a i2 (n_nw Hb))) 6 (l_mvo Hb a i2 false (n_np Hb))) 7 (l_mvo Hb a i2 true (n_np Hb))))]) hx hb hK hw 7 rfl (by omega) (by omega) dX3_digest_251 rfl (fun H locs hw => ?_)
              refine lv_astore (lv' := [(6, .ref q154), (5, .int (a (3 + 3 * i2 + 0))), (0, .ref (M 0)), (2, .long (l_dgS Hb a ((l_mix (x_all Hb a) 1949 i1)) i2)), (4, .int (nI i2))]) hx hb dX3_digest_252 hl (by decide) rfl (fun ls hl => ?_)
              refine lv_aload hx hb dX3_digest_254 (lv_at hl 0 rfl) ?_
              refine lv_astore (lv' := [(7, .ref q154), (6, .ref q154), (5, .int (a (3 + 3 * i2 + 0))), (0, .ref (M 0)), (2, .long (l_dgS Hb a ((l_mix (x_all Hb a) 1949 i1)) i2)), (4, .int (nI i2))]) hx hb dX3_digest_256 hl (by decide) rfl (fun ls hl => ?_)
              refine lv_aload hx hb dX3_digest_258 (lv_at hl 0 rfl) ?_
              refine k_lenI hx hb hK hw 7 rfl dX3_digest_260 ?_
              refine lv_istore (lv' := [(8, .int (nI 8)), (7, .ref q154), (6, .ref q154), (5, .int (a (3 + 3 * i2 + 0))), (0, .ref (M 0)), (2, .long (l_dgS Hb a ((l_mix (x_all Hb a) 1949 i1)) i2)), (4, .int (nI i2))]) hx hb dX3_digest_261 hl (by decide) rfl (fun ls hl => ?_)
              have hw : Wd E A9 s9.heap (wN E M (0, Hb, a, k) ++ [(q154, aI E 8 (x_ship Hb a i2))]) H locs := hw.to (by simp only [x_ship, if_pos c_8, if_neg c_12, if_true, if_false, Bool.false_eq_true, Bool.true_eq_false, reduceIte, reduceCtorEq])
              refine lv_iconst (v := 0) hx hb dX3_digest_263 (by decide) ?_
              refine lv_istore (lv' := [(9, .int 0), (8, .int (nI 8)), (7, .ref q154), (6, .ref q154), (5, .int (a (3 + 3 * i2 + 0))), (0, .ref (M 0)), (2, .long (l_dgS Hb a ((l_mix (x_all Hb a) 1949 i1)) i2)), (4, .int (nI i2))]) hx hb dX3_digest_264 hl (by decide) rfl (fun ls hl => ?_)
              have L_266 : ∀ (k9 j2 : Nat) (H : Heap) (locs : List Loc) (ls : Array Slot), j2 + k9 = 8 → Wd E A9 s9.heap (wN E M (0, Hb, a, k) ++ [(q154, aI E 8 (x_ship Hb a i2))]) H locs → lv_has ls 11 [(0, .ref (M 0)), (2, .long (l_mix (x_ship Hb a i2) ((l_dgS Hb a ((l_mix (x_all Hb a) 1949 i1)) i2)) j2)), (4, .int (nI i2)), (7, .ref q154), (8, .int (nI 8)), (9, .int (nI j2))] → W p9 l e rm_X3_digest s9 m args below meth c H locs ((1) + i2 + 1) ((9) + 8 * i2 + 8) (EndL E A9 (r_digest Hb a) (wN E M (0, Hb, a, k)) below args s9 (rm_X3_digest).cells (rm_X3_digest).slots) (F0 m 266 ls []) := by
                intro k9
                induction k9 with
                | zero =>
                  intro j2 H locs ls hi hw hl
                  have hz_13 : 8 = j2 := by omega
                  refine lv_iload hx hb dX3_digest_266 (lv_at hl 5 rfl) ?_
                  refine lv_iload hx hb dX3_digest_268 (lv_at hl 4 rfl) ?_
                  refine lv_icmp_ge (tgt := 296) hx hb dX3_digest_270 (by decide) (fun _ => ?_) (fun q8 => absurd (by rw [← hz_13]; exact Int32.le_refl _) q8)
                  have hw := Wd.drop hw
                  refine lv_iinc (v := nI (i2 + 1)) (lv' := [(4, .int (nI (i2 + 1))), (0, .ref (M 0)), (2, .long (l_mix (x_ship Hb a i2) ((l_dgS Hb a ((l_mix (x_all Hb a) 1949 i1)) i2)) j2)), (7, .ref q154), (8, .int (nI 8)), (9, .int (nI j2))]) hx hb dX3_digest_296 hl (k := 2) rfl (nI_add i2 1) (by decide) rfl (fun ls hl => ?_)
                  refine lv_goto (tgt := 130) hx hb dX3_digest_299 (by decide) ?_
                  refine W.widen (k := (1) + (i2 + 1)) (n := (9) + 8 * (i2 + 1)) (show (1) + i2 + 1 ≤ (1) + (i2 + 1) by omega) (show (9) + 8 * i2 + 8 ≤ (9) + 8 * (i2 + 1) by omega) ?_
                  exact ih_130 (i2 + 1) _ _ _ (by omega) hw (by rw [show (.long (l_dgS Hb a ((l_mix (x_all Hb a) 1949 i1)) (i2 + 1)) : Value) = .long (l_mix (x_ship Hb a i2) ((l_dgS Hb a ((l_mix (x_all Hb a) 1949 i1)) i2)) j2) from (by subst hz_13 hz_1; first | (rw [l_dgW]; done) | (rw [l_dgP]; done) | (rw [l_dgS]; done) | (rw [l_mix]; done))]; exact lv_sub hl [1, 2, 0] rfl)
                | succ k9 ih_266 =>
                  intro j2 H locs ls hi hw hl
                  have hi9 : j2 < 8 := by omega
                  refine lv_iload hx hb dX3_digest_266 (lv_at hl 5 rfl) ?_
                  refine lv_iload hx hb dX3_digest_268 (lv_at hl 4 rfl) ?_
                  refine lv_icmp_ge (tgt := 296) hx hb dX3_digest_270 (by decide) (fun q8 => absurd q8 (nI_ge (a := j2) (b := 8) (by omega) (by omega))) (fun _ => ?_)
                  refine lv_aload hx hb dX3_digest_273 (lv_at hl 3 rfl) ?_
                  refine lv_iload hx hb dX3_digest_275 (lv_at hl 5 rfl) ?_
                  refine k_ildN (i := j2) (f := (x_ship Hb a i2)) hx hb hK hw 7 rfl (by omega) (by omega) dX3_digest_277 ?_
                  refine lv_istore (lv' := [(10, .int ((x_ship Hb a i2) j2)), (0, .ref (M 0)), (2, .long (l_mix (x_ship Hb a i2) ((l_dgS Hb a ((l_mix (x_all Hb a) 1949 i1)) i2)) j2)), (4, .int (nI i2)), (7, .ref q154), (8, .int (nI 8)), (9, .int (nI j2))]) hx hb dX3_digest_278 hl (by decide) rfl (fun ls hl => ?_)
                  refine lv_lload_n hx hb dX3_digest_280 rfl (lv_at hl 2 rfl) ?_
                  refine lv_ldc2 (v := 31) hx hb hown (hts (.constantLong RX3 150 31) (by decide +kernel)) dX3_digest_281 ?_
                  refine lv_lmul hx hb dX3_digest_284 ?_
                  refine lv_iload hx hb dX3_digest_285 (lv_at hl 0 rfl) ?_
                  refine lv_i2l (v := ((x_ship Hb a i2) j2 : Int32).toInt64) hx hb dX3_digest_287 rfl ?_
                  refine lv_ladd hx hb dX3_digest_288 ?_
                  refine lv_lstore_n (lv' := [(2, .long (((l_mix (x_ship Hb a i2) ((l_dgS Hb a ((l_mix (x_all Hb a) 1949 i1)) i2)) j2) * 31) + (((x_ship Hb a i2) j2 : Int32).toInt64))), (10, .int ((x_ship Hb a i2) j2)), (0, .ref (M 0)), (4, .int (nI i2)), (7, .ref q154), (8, .int (nI 8)), (9, .int (nI j2))]) hx hb dX3_digest_289 rfl hl (by decide) rfl (fun ls hl => ?_)
                  refine lv_iinc (v := nI (j2 + 1)) (lv' := [(9, .int (nI (j2 + 1))), (2, .long (((l_mix (x_ship Hb a i2) ((l_dgS Hb a ((l_mix (x_all Hb a) 1949 i1)) i2)) j2) * 31) + (((x_ship Hb a i2) j2 : Int32).toInt64))), (10, .int ((x_ship Hb a i2) j2)), (0, .ref (M 0)), (4, .int (nI i2)), (7, .ref q154), (8, .int (nI 8))]) hx hb dX3_digest_290 hl (k := 6) rfl (nI_add j2 1) (by decide) rfl (fun ls hl => ?_)
                  refine lv_goto (tgt := 266) hx hb dX3_digest_293 (by decide) ?_
                  exact ih_266 (j2 + 1) _ _ _ (by omega) hw (by rw [show (.long (l_mix (x_ship Hb a i2) ((l_dgS Hb a ((l_mix (x_all Hb a) 1949 i1)) i2)) (j2 + 1)) : Value) = .long (((l_mix (x_ship Hb a i2) ((l_dgS Hb a ((l_mix (x_all Hb a) 1949 i1)) i2)) j2) * 31) + (((x_ship Hb a i2) j2 : Int32).toInt64)) from (by subst hz_1; first | (rw [l_dgW]; done) | (rw [l_dgP]; done) | (rw [l_dgS]; done) | (rw [l_mix]; done))]; exact lv_sub hl [3, 1, 4, 5, 6, 0] rfl)
              exact L_266 (8 - 0) 0 _ _ _ (by omega) hw (lv_sub hl [5, 6, 7, 2, 1, 0] rfl)
            · refine lv_iconst (v := 1) hx hb dX3_digest_187 (by decide) ?_
              refine lv_goto (tgt := 192) hx hb dX3_digest_188 (by decide) ?_
              refine k_istN (i := 2) (ws' := wN E M (0, Hb, a, k) ++ [(q154, aI E 8 (upd (upd (upd (fun _ => 0) 0 (n_ma Hb i2)) 1 0) 2 1))]) hx hb hK hw 7 rfl (by omega) (by omega) dX3_digest_192 rfl (fun H locs hw => ?_)
              refine lv_dup hx hb dX3_digest_193 rfl ?_
              refine lv_iconst (v := 3) hx hb dX3_digest_194 (by decide) ?_
              refine lv_aload_n hx hb dX3_digest_195 rfl (lv_at hl 1 rfl) ?_
              refine k_get (ci := 3) (v := .ref (M 5)) (C := RX3) (T := TX3) (N := 10) hx hb hown hK hw hts hinX3 0 rfl rfl 8 (by decide) hf23 rfl dX3_digest_196 ?_
              refine lv_iload hx hb dX3_digest_199 (lv_at hl 3 rfl) ?_
              refine lv_iconst (v := 1) hx hb dX3_digest_201 (by decide) ?_
              refine kr_i (ws' := wN E M (0, Hb, a, k) ++ [(q154, aI E 8 (upd (upd (upd (fun _ => 0) 0 (n_ma Hb i2)) 1 0) 2 1))]) (va_runS (As := [.int (nI i2), .int 1]) (rest := [.ref (M 5), .int 3, .ref q154, .ref q154]) ⟨hx, hb, hml, hown, hts⟩ (c_X3_ship l E i2 1  _) (va_cwS 2 hts gX3_digest_X3_ship rfl rfl rfl hd_X3_ship ⟨Nat.le_of_ble_eq_true rfl, Nat.le_of_ble_eq_true rfl⟩) (rpS (AV := [.int (nI i2), .int 1]) hw hK hG rp_79) rfl rfl hl.1 rfl (lv_room (Nat.le_of_ble_eq_true rfl)) dX3_digest_202 ⟨(show (1) + i2 + 1 + 0 ≤ 22 by omega), (show (9) + 8 * i2 + 8 + 0 ≤ 129 by omega)⟩) hw hA rp_79 (fun H locs hw => ?_)
              refine k_ildN (i := 3 + 3 * i2 + 1) (f := a) hx hb hK hw 5 rfl (by omega) (by omega) dX3_digest_205 ?_
              refine k_istN (i := 3) (ws' := wN E M (0, Hb, a, k) ++ [(q154, aI E 8 (upd (upd (upd (upd (fun _ => 0) 0 (n_ma Hb i2)) 1 0) 2 1) 3 (a (3 + 3 * i2 + 1))))]) hx hb hK hw 7 rfl (by omega) (by omega) dX3_digest_206 rfl (fun H locs hw => ?_)
              refine lv_dup hx hb dX3_digest_207 rfl ?_
              refine lv_iconst (v := 4) hx hb dX3_digest_208 (by decide) ?_
              refine lv_aload_n hx hb dX3_digest_209 rfl (lv_at hl 1 rfl) ?_
              refine k_get (ci := 3) (v := .ref (M 5)) (C := RX3) (T := TX3) (N := 10) hx hb hown hK hw hts hinX3 0 rfl rfl 8 (by decide) hf23 rfl dX3_digest_210 ?_
              refine lv_iload hx hb dX3_digest_213 (lv_at hl 3 rfl) ?_
              refine lv_iconst (v := 2) hx hb dX3_digest_215 (by decide) ?_
              refine kr_i (ws' := wN E M (0, Hb, a, k) ++ [(q154, aI E 8 (upd (upd (upd (upd (fun _ => 0) 0 (n_ma Hb i2)) 1 0) 2 1) 3 (a (3 + 3 * i2 + 1))))]) (va_runS (As := [.int (nI i2), .int 2]) (rest := [.ref (M 5), .int 4, .ref q154, .ref q154]) ⟨hx, hb, hml, hown, hts⟩ (c_X3_ship l E i2 2  _) (va_cwS 2 hts gX3_digest_X3_ship rfl rfl rfl hd_X3_ship ⟨Nat.le_of_ble_eq_true rfl, Nat.le_of_ble_eq_true rfl⟩) (rpS (AV := [.int (nI i2), .int 2]) hw hK hG rp_79) rfl rfl hl.1 rfl (lv_room (Nat.le_of_ble_eq_true rfl)) dX3_digest_216 ⟨(show (1) + i2 + 1 + 0 ≤ 22 by omega), (show (9) + 8 * i2 + 8 + 0 ≤ 129 by omega)⟩) hw hA rp_79 (fun H locs hw => ?_)
              refine k_ildN (i := 3 + 3 * i2 + 2) (f := a) hx hb hK hw 5 rfl (by omega) (by omega) dX3_digest_219 ?_
              refine k_istN (i := 4) (ws' := wN E M (0, Hb, a, k) ++ [(q154, aI E 8 (upd (upd (upd (upd (upd (fun _ => 0) 0 (n_ma Hb i2)) 1 0) 2 1) 3 (a (3 + 3 * i2 + 1))) 4 (a (3 + 3 * i2 + 2))))]) hx hb hK hw 7 rfl (by omega) (by omega) dX3_digest_220 rfl (fun H locs hw => ?_)
              refine lv_dup hx hb dX3_digest_221 rfl ?_
              refine lv_iconst (v := 5) hx hb dX3_digest_222 (by decide) ?_
              refine lv_aload_n hx hb dX3_digest_223 rfl (lv_at hl 1 rfl) ?_
              refine lv_iload hx hb dX3_digest_224 (lv_at hl 3 rfl) ?_
              refine kr_i (ws' := wN E M (0, Hb, a, k) ++ [(q154, aI E 8 (upd (upd (upd (upd (upd (fun _ => 0) 0 (n_ma Hb i2)) 1 0) 2 1) 3 (a (3 + 3 * i2 + 1))) 4 (a (3 + 3 * i2 + 2))))]) (va_runV (As := [.int (nI i2)]) (rest := [.int 5, .ref q154, .ref q154]) ⟨hx, hb, hml, hown, hts⟩ (c_X3_trust l E M 0 Hb a k i2 (by omega) (by omega) (by omega) (h4) (by omega) _) (cwV 1 hts gX3_digest_X3_trust rfl rfl rfl ⟨rfl, hd_X3_trust⟩ ⟨Nat.le_of_ble_eq_true rfl, Nat.le_of_ble_eq_true rfl⟩) (pwV (ci := 3) (q0 := 0) (C := RX3) hw hK rfl rfl rfl (rpS (AV := [.ref (M 0), .int (nI i2)]) hw hK hG rp_80)) rfl rfl hl.1 rfl (lv_room (Nat.le_of_ble_eq_true rfl)) dX3_digest_226 ⟨(show (1) + i2 + 1 + 0 ≤ 22 by omega), (show (9) + 8 * i2 + 8 + 0 ≤ 129 by omega)⟩) hw hA rp_80 (fun H locs hw => ?_)
              refine k_istN (i := 5) (ws' := wN E M (0, Hb, a, k) ++ [(q154, aI E 8 (upd (upd (upd (upd (upd (upd (fun _ => 0) 0 (n_ma Hb i2)) 1 0) 2 1) 3 (a (3 + 3 * i2 + 1))) 4 (a (3 + 3 * i2 + 2))) 5 (l_mtr a i2 (n_nw Hb))))]) hx hb hK hw 7 rfl (by omega) (by omega) dX3_digest_229 rfl (fun H locs hw => ?_)
              refine lv_dup hx hb dX3_digest_230 rfl ?_
              refine lv_bipush (v := 6) hx hb dX3_digest_231 (by decide) ?_
              refine lv_aload_n hx hb dX3_digest_233 rfl (lv_at hl 1 rfl) ?_
              refine lv_iload hx hb dX3_digest_234 (lv_at hl 3 rfl) ?_
              refine lv_iconst (v := 0) hx hb dX3_digest_236 (by decide) ?_
              refine kr_i (ws' := wN E M (0, Hb, a, k) ++ [(q154, aI E 8 (upd (upd (upd (upd (upd (upd (fun _ => 0) 0 (n_ma Hb i2)) 1 0) 2 1) 3 (a (3 + 3 * i2 + 1))) 4 (a (3 + 3 * i2 + 2))) 5 (l_mtr a i2 (n_nw Hb))))]) (va_runV (As := [.int (nI i2), .int 0]) (rest := [.int 6, .ref q154, .ref q154]) ⟨hx, hb, hml, hown, hts⟩ (c_X3_voters l E M 0 Hb a k i2 false (by omega) (by omega) (by omega) (h4) (by omega) _) (cwV 2 hts gX3_digest_X3_voters rfl rfl rfl ⟨rfl, hd_X3_voters⟩ ⟨Nat.le_of_ble_eq_true rfl, Nat.le_of_ble_eq_true rfl⟩) (pwV (ci := 3) (q0 := 0) (C := RX3) hw hK rfl rfl rfl (rpS (AV := [.ref (M 0), .int (nI i2), .int 0]) hw hK hG rp_80)) rfl rfl hl.1 rfl (lv_room (Nat.le_of_ble_eq_true rfl)) dX3_digest_237 ⟨(show (1) + i2 + 1 + 0 ≤ 22 by omega), (show (9) + 8 * i2 + 8 + 0 ≤ 129 by omega)⟩) hw hA rp_80 (fun H locs hw => ?_)
              refine k_istN (i := 6) (ws' := wN E M (0, Hb, a, k) ++ [(q154, aI E 8 (upd (upd (upd (upd (upd (upd (upd (fun _ => 0) 0 (n_ma Hb i2)) 1 0) 2 1) 3 (a (3 + 3 * i2 + 1))) 4 (a (3 + 3 * i2 + 2))) 5 (l_mtr a i2 (n_nw Hb))) 6 (l_mvo Hb a i2 false (n_np Hb))))]) hx hb hK hw 7 rfl (by omega) (by omega) dX3_digest_240 rfl (fun H locs hw => ?_)
              refine lv_dup hx hb dX3_digest_241 rfl ?_
              refine lv_bipush (v := 7) hx hb dX3_digest_242 (by decide) ?_
              refine lv_aload_n hx hb dX3_digest_244 rfl (lv_at hl 1 rfl) ?_
              refine lv_iload hx hb dX3_digest_245 (lv_at hl 3 rfl) ?_
              refine lv_iconst (v := 1) hx hb dX3_digest_247 (by decide) ?_
              refine kr_i (ws' := wN E M (0, Hb, a, k) ++ [(q154, aI E 8 (upd (upd (upd (upd (upd (upd (upd (fun _ => 0) 0 (n_ma Hb i2)) 1 0) 2 1) 3 (a (3 + 3 * i2 + 1))) 4 (a (3 + 3 * i2 + 2))) 5 (l_mtr a i2 (n_nw Hb))) 6 (l_mvo Hb a i2 false (n_np Hb))))]) (va_runV (As := [.int (nI i2), .int 1]) (rest := [.int 7, .ref q154, .ref q154]) ⟨hx, hb, hml, hown, hts⟩ (c_X3_voters l E M 0 Hb a k i2 true (by omega) (by omega) (by omega) (h4) (by omega) _) (cwV 2 hts gX3_digest_X3_voters rfl rfl rfl ⟨rfl, hd_X3_voters⟩ ⟨Nat.le_of_ble_eq_true rfl, Nat.le_of_ble_eq_true rfl⟩) (pwV (ci := 3) (q0 := 0) (C := RX3) hw hK rfl rfl rfl (rpS (AV := [.ref (M 0), .int (nI i2), .int 1]) hw hK hG rp_80)) rfl rfl hl.1 rfl (lv_room (Nat.le_of_ble_eq_true rfl)) dX3_digest_248 ⟨(show (1) + i2 + 1 + 0 ≤ 22 by omega), (show (9) + 8 * i2 + 8 + 0 ≤ 129 by omega)⟩) hw hA rp_80 (fun H locs hw => ?_)
              refine k_istN (i := 7) (ws' := wN E M (0, Hb, a, k) ++ [(q154, aI E 8 (upd (upd (upd (upd (upd (upd (upd (upd (fun _ => 0) 0 (n_ma Hb i2)) 1 0) 2 1) 3 (a (3 + 3 * i2 + 1))) 4 (a (3 + 3 * i2 + 2))) 5 (l_mtr a i2 (n_nw Hb))) 6 (l_mvo Hb a i2 false (n_np Hb))) 7 (l_mvo Hb a i2 true (n_np Hb))))]) hx hb hK hw 7 rfl (by omega) (by omega) dX3_digest_251 rfl (fun H locs hw => ?_)
              refine lv_astore (lv' := [(6, .ref q154), (5, .int (a (3 + 3 * i2 + 0))), (0, .ref (M 0)), (2, .long (l_dgS Hb a ((l_mix (x_all Hb a) 1949 i1)) i2)), (4, .int (nI i2))]) hx hb dX3_digest_252 hl (by decide) rfl (fun ls hl => ?_)
              refine lv_aload hx hb dX3_digest_254 (lv_at hl 0 rfl) ?_
              refine lv_astore (lv' := [(7, .ref q154), (6, .ref q154), (5, .int (a (3 + 3 * i2 + 0))), (0, .ref (M 0)), (2, .long (l_dgS Hb a ((l_mix (x_all Hb a) 1949 i1)) i2)), (4, .int (nI i2))]) hx hb dX3_digest_256 hl (by decide) rfl (fun ls hl => ?_)
              refine lv_aload hx hb dX3_digest_258 (lv_at hl 0 rfl) ?_
              refine k_lenI hx hb hK hw 7 rfl dX3_digest_260 ?_
              refine lv_istore (lv' := [(8, .int (nI 8)), (7, .ref q154), (6, .ref q154), (5, .int (a (3 + 3 * i2 + 0))), (0, .ref (M 0)), (2, .long (l_dgS Hb a ((l_mix (x_all Hb a) 1949 i1)) i2)), (4, .int (nI i2))]) hx hb dX3_digest_261 hl (by decide) rfl (fun ls hl => ?_)
              have hw : Wd E A9 s9.heap (wN E M (0, Hb, a, k) ++ [(q154, aI E 8 (x_ship Hb a i2))]) H locs := hw.to (by simp only [x_ship, if_pos c_8, if_pos c_12, if_true, if_false, Bool.false_eq_true, Bool.true_eq_false, reduceIte, reduceCtorEq])
              refine lv_iconst (v := 0) hx hb dX3_digest_263 (by decide) ?_
              refine lv_istore (lv' := [(9, .int 0), (8, .int (nI 8)), (7, .ref q154), (6, .ref q154), (5, .int (a (3 + 3 * i2 + 0))), (0, .ref (M 0)), (2, .long (l_dgS Hb a ((l_mix (x_all Hb a) 1949 i1)) i2)), (4, .int (nI i2))]) hx hb dX3_digest_264 hl (by decide) rfl (fun ls hl => ?_)
              have L_266 : ∀ (k9 j2 : Nat) (H : Heap) (locs : List Loc) (ls : Array Slot), j2 + k9 = 8 → Wd E A9 s9.heap (wN E M (0, Hb, a, k) ++ [(q154, aI E 8 (x_ship Hb a i2))]) H locs → lv_has ls 11 [(0, .ref (M 0)), (2, .long (l_mix (x_ship Hb a i2) ((l_dgS Hb a ((l_mix (x_all Hb a) 1949 i1)) i2)) j2)), (4, .int (nI i2)), (7, .ref q154), (8, .int (nI 8)), (9, .int (nI j2))] → W p9 l e rm_X3_digest s9 m args below meth c H locs ((1) + i2 + 1) ((9) + 8 * i2 + 8) (EndL E A9 (r_digest Hb a) (wN E M (0, Hb, a, k)) below args s9 (rm_X3_digest).cells (rm_X3_digest).slots) (F0 m 266 ls []) := by
                intro k9
                induction k9 with
                | zero =>
                  intro j2 H locs ls hi hw hl
                  have hz_14 : 8 = j2 := by omega
                  refine lv_iload hx hb dX3_digest_266 (lv_at hl 5 rfl) ?_
                  refine lv_iload hx hb dX3_digest_268 (lv_at hl 4 rfl) ?_
                  refine lv_icmp_ge (tgt := 296) hx hb dX3_digest_270 (by decide) (fun _ => ?_) (fun q8 => absurd (by rw [← hz_14]; exact Int32.le_refl _) q8)
                  have hw := Wd.drop hw
                  refine lv_iinc (v := nI (i2 + 1)) (lv' := [(4, .int (nI (i2 + 1))), (0, .ref (M 0)), (2, .long (l_mix (x_ship Hb a i2) ((l_dgS Hb a ((l_mix (x_all Hb a) 1949 i1)) i2)) j2)), (7, .ref q154), (8, .int (nI 8)), (9, .int (nI j2))]) hx hb dX3_digest_296 hl (k := 2) rfl (nI_add i2 1) (by decide) rfl (fun ls hl => ?_)
                  refine lv_goto (tgt := 130) hx hb dX3_digest_299 (by decide) ?_
                  refine W.widen (k := (1) + (i2 + 1)) (n := (9) + 8 * (i2 + 1)) (show (1) + i2 + 1 ≤ (1) + (i2 + 1) by omega) (show (9) + 8 * i2 + 8 ≤ (9) + 8 * (i2 + 1) by omega) ?_
                  exact ih_130 (i2 + 1) _ _ _ (by omega) hw (by rw [show (.long (l_dgS Hb a ((l_mix (x_all Hb a) 1949 i1)) (i2 + 1)) : Value) = .long (l_mix (x_ship Hb a i2) ((l_dgS Hb a ((l_mix (x_all Hb a) 1949 i1)) i2)) j2) from (by subst hz_14 hz_1; first | (rw [l_dgW]; done) | (rw [l_dgP]; done) | (rw [l_dgS]; done) | (rw [l_mix]; done))]; exact lv_sub hl [1, 2, 0] rfl)
                | succ k9 ih_266 =>
                  intro j2 H locs ls hi hw hl
                  have hi9 : j2 < 8 := by omega
                  refine lv_iload hx hb dX3_digest_266 (lv_at hl 5 rfl) ?_
                  refine lv_iload hx hb dX3_digest_268 (lv_at hl 4 rfl) ?_
                  refine lv_icmp_ge (tgt := 296) hx hb dX3_digest_270 (by decide) (fun q8 => absurd q8 (nI_ge (a := j2) (b := 8) (by omega) (by omega))) (fun _ => ?_)
                  refine lv_aload hx hb dX3_digest_273 (lv_at hl 3 rfl) ?_
                  refine lv_iload hx hb dX3_digest_275 (lv_at hl 5 rfl) ?_
                  refine k_ildN (i := j2) (f := (x_ship Hb a i2)) hx hb hK hw 7 rfl (by omega) (by omega) dX3_digest_277 ?_
                  refine lv_istore (lv' := [(10, .int ((x_ship Hb a i2) j2)), (0, .ref (M 0)), (2, .long (l_mix (x_ship Hb a i2) ((l_dgS Hb a ((l_mix (x_all Hb a) 1949 i1)) i2)) j2)), (4, .int (nI i2)), (7, .ref q154), (8, .int (nI 8)), (9, .int (nI j2))]) hx hb dX3_digest_278 hl (by decide) rfl (fun ls hl => ?_)
                  refine lv_lload_n hx hb dX3_digest_280 rfl (lv_at hl 2 rfl) ?_
                  refine lv_ldc2 (v := 31) hx hb hown (hts (.constantLong RX3 150 31) (by decide +kernel)) dX3_digest_281 ?_
                  refine lv_lmul hx hb dX3_digest_284 ?_
                  refine lv_iload hx hb dX3_digest_285 (lv_at hl 0 rfl) ?_
                  refine lv_i2l (v := ((x_ship Hb a i2) j2 : Int32).toInt64) hx hb dX3_digest_287 rfl ?_
                  refine lv_ladd hx hb dX3_digest_288 ?_
                  refine lv_lstore_n (lv' := [(2, .long (((l_mix (x_ship Hb a i2) ((l_dgS Hb a ((l_mix (x_all Hb a) 1949 i1)) i2)) j2) * 31) + (((x_ship Hb a i2) j2 : Int32).toInt64))), (10, .int ((x_ship Hb a i2) j2)), (0, .ref (M 0)), (4, .int (nI i2)), (7, .ref q154), (8, .int (nI 8)), (9, .int (nI j2))]) hx hb dX3_digest_289 rfl hl (by decide) rfl (fun ls hl => ?_)
                  refine lv_iinc (v := nI (j2 + 1)) (lv' := [(9, .int (nI (j2 + 1))), (2, .long (((l_mix (x_ship Hb a i2) ((l_dgS Hb a ((l_mix (x_all Hb a) 1949 i1)) i2)) j2) * 31) + (((x_ship Hb a i2) j2 : Int32).toInt64))), (10, .int ((x_ship Hb a i2) j2)), (0, .ref (M 0)), (4, .int (nI i2)), (7, .ref q154), (8, .int (nI 8))]) hx hb dX3_digest_290 hl (k := 6) rfl (nI_add j2 1) (by decide) rfl (fun ls hl => ?_)
                  refine lv_goto (tgt := 266) hx hb dX3_digest_293 (by decide) ?_
                  exact ih_266 (j2 + 1) _ _ _ (by omega) hw (by rw [show (.long (l_mix (x_ship Hb a i2) ((l_dgS Hb a ((l_mix (x_all Hb a) 1949 i1)) i2)) (j2 + 1)) : Value) = .long (((l_mix (x_ship Hb a i2) ((l_dgS Hb a ((l_mix (x_all Hb a) 1949 i1)) i2)) j2) * 31) + (((x_ship Hb a i2) j2 : Int32).toInt64)) from (by subst hz_1; first | (rw [l_dgW]; done) | (rw [l_dgP]; done) | (rw [l_dgS]; done) | (rw [l_mix]; done))]; exact lv_sub hl [3, 1, 4, 5, 6, 0] rfl)
              exact L_266 (8 - 0) 0 _ _ _ (by omega) hw (lv_sub hl [5, 6, 7, 2, 1, 0] rfl)
      exact L_130 ((n_ns Hb) - 0) 0 _ _ _ (by omega) hw (lv_sub hl [1, 2, 0] rfl)
    | succ k9 ih_97 =>
      intro i1 H locs ls hi hw hl
      have hi9 : i1 < 9 := by omega
      refine lv_iload hx hb dX3_digest_97 (lv_at hl 4 rfl) ?_
      refine lv_iload hx hb dX3_digest_99 (lv_at hl 3 rfl) ?_
      refine lv_icmp_ge (tgt := 127) hx hb dX3_digest_101 (by decide) (fun q8 => absurd q8 (nI_ge (a := i1) (b := 9) (by omega) (by omega))) (fun _ => ?_)
      refine lv_aload hx hb dX3_digest_104 (lv_at hl 2 rfl) ?_
      refine lv_iload hx hb dX3_digest_106 (lv_at hl 4 rfl) ?_
      refine k_ildN (i := i1) (f := (x_all Hb a)) hx hb hK hw 7 rfl (by omega) (by omega) dX3_digest_108 ?_
      refine lv_istore (lv' := [(7, .int ((x_all Hb a) i1)), (0, .ref (M 0)), (2, .long (l_mix (x_all Hb a) 1949 i1)), (4, .ref q7), (5, .int (nI 9)), (6, .int (nI i1))]) hx hb dX3_digest_109 hl (by decide) rfl (fun ls hl => ?_)
      refine lv_lload_n hx hb dX3_digest_111 rfl (lv_at hl 2 rfl) ?_
      refine lv_ldc2 (v := 31) hx hb hown (hts (.constantLong RX3 150 31) (by decide +kernel)) dX3_digest_112 ?_
      refine lv_lmul hx hb dX3_digest_115 ?_
      refine lv_iload hx hb dX3_digest_116 (lv_at hl 0 rfl) ?_
      refine lv_i2l (v := ((x_all Hb a) i1 : Int32).toInt64) hx hb dX3_digest_118 rfl ?_
      refine lv_ladd hx hb dX3_digest_119 ?_
      refine lv_lstore_n (lv' := [(2, .long (((l_mix (x_all Hb a) 1949 i1) * 31) + (((x_all Hb a) i1 : Int32).toInt64))), (7, .int ((x_all Hb a) i1)), (0, .ref (M 0)), (4, .ref q7), (5, .int (nI 9)), (6, .int (nI i1))]) hx hb dX3_digest_120 rfl hl (by decide) rfl (fun ls hl => ?_)
      refine lv_iinc (v := nI (i1 + 1)) (lv' := [(6, .int (nI (i1 + 1))), (2, .long (((l_mix (x_all Hb a) 1949 i1) * 31) + (((x_all Hb a) i1 : Int32).toInt64))), (7, .int ((x_all Hb a) i1)), (0, .ref (M 0)), (4, .ref q7), (5, .int (nI 9))]) hx hb dX3_digest_121 hl (k := 5) rfl (nI_add i1 1) (by decide) rfl (fun ls hl => ?_)
      refine lv_goto (tgt := 97) hx hb dX3_digest_124 (by decide) ?_
      exact ih_97 (i1 + 1) _ _ _ (by omega) hw (by rw [show (.long (l_mix (x_all Hb a) 1949 (i1 + 1)) : Value) = .long (((l_mix (x_all Hb a) 1949 i1) * 31) + (((x_all Hb a) i1 : Int32).toInt64)) from (by first | (rw [l_dgW]; done) | (rw [l_dgP]; done) | (rw [l_dgS]; done) | (rw [l_mix]; done))]; exact lv_sub hl [3, 1, 4, 5, 0] rfl)
  exact L_97 (9 - 0) 0 _ _ _ (by omega) hw (lv_sub hl [5, 3, 2, 1, 0] rfl)
