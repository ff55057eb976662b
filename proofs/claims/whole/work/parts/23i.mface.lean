abbrev rm_X3_waxAfter : Room := { frames := 4, cells := 0, slots := 0, locals := 86 }
set_option maxHeartbeats 4000000 in
set_option maxRecDepth 100000 in
theorem c_X3_waxAfter_1 (l : Launch) (E : Ev) (M : Nat → Nat) (th : Int32) (Hb : MH) (a k : Fn) (n : Int32) (h1 : n_ns Hb ≤ 5) (h2 : n_np Hb ≤ 16) (h3 : n_nw Hb ≤ 4) (h4 : ∀ p, p < n_np Hb → n_so Hb p < 5) (hd : d_in n 1 200 = false) : MI l E yX3_waxAfter wsX3_waxAfter rm_X3_waxAfter [.ref (M 0), .int n] (wN E M (th, Hb, a, k)) 0 (wN E M (1, Hb, a, k)) := by
  refine k_bI (cc := cX3_waxAfter) (maxL := 3) (ret := (some .int)) (by decide) rfl (Nat.le_of_ble_eq_true rfl) ?_
  intro p9 e s9 m args below meth c A9 ls hC hl hw
  obtain ⟨hx, hb, hml, hr, hown, hts, hlocks, hK, hG, hA⟩ := hC
  have hf29 := hts (.fieldLink RX3 29 "SailorCandlesModel" "thrown" "I") (List.mem_of_getElem? (i := 1) rfl)
  have hinX3 : ∀ w ∈ wsX30, w ∈ wsX3_waxAfter := fun w h => List.mem_cons_of_mem _ (List.mem_append_right _ h)
  have hl : lv_has ls 3 [(0, .ref (M 0)), (1, .int n)] := hl
  refine lv_aload_n hx hb dX3_waxAfter_0 rfl (lv_at hl 0 rfl) ?_
  refine lv_iconst (v := 0) hx hb dX3_waxAfter_1 (by decide) ?_
  refine k_put (ci := 3) (C := RX3) (T := TX3) (N := 10) (ws' := wN E M (0, Hb, a, k)) hx hb hown hK hw hts hinX3 tyX3 tyX3_ok nmX3 0 rfl rfl 0 (by decide) hf29 rfl rfl (Nat.le_of_ble_eq_true rfl) dX3_waxAfter_2 rfl (fun H locs hw => ?_)
  refine lv_iload_n hx hb dX3_waxAfter_5 rfl (lv_at hl 1 rfl) ?_
  refine lv_iconst (v := 1) hx hb dX3_waxAfter_6 (by decide) ?_
  refine lv_sipush (v := 200) hx hb dX3_waxAfter_7 (by decide) ?_
  refine kr_i (ws' := wN E M (0, Hb, a, k)) (va_runS (As := [.int n, .int 1, .int 200]) (rest := []) ⟨hx, hb, hml, hown, hts⟩ (c_X3_isIn l E n 1 200  _) (va_cwS 3 hts gX3_waxAfter_X3_isIn rfl rfl rfl hd_X3_isIn ⟨Nat.le_of_ble_eq_true rfl, Nat.le_of_ble_eq_true rfl⟩) (rpS (AV := [.int n, .int 1, .int 200]) hw hK hG rp_74) rfl rfl hl.1 rfl (lv_room (Nat.le_of_ble_eq_true rfl)) dX3_waxAfter_10 ⟨Nat.le_of_ble_eq_true rfl, Nat.le_of_ble_eq_true rfl⟩) hw hA rp_74 (fun H locs hw => ?_)
  refine lv_if_ne (tgt := 22) hx hb dX3_waxAfter_13 (by decide) (fun q8 => absurd (by rw [hd]; rfl) q8) (fun _ => ?_)
  refine lv_aload_n hx hb dX3_waxAfter_16 rfl (lv_at hl 0 rfl) ?_
  refine lv_iconst (v := 1) hx hb dX3_waxAfter_17 (by decide) ?_
  refine kr_i (ws' := wN E M (1, Hb, a, k)) (va_runV (As := [.int 1]) (rest := []) ⟨hx, hb, hml, hown, hts⟩ (c_X3_no l E M 0 Hb a k 1  _) (cwV 1 hts gX3_waxAfter_X3_no rfl rfl rfl ⟨rfl, hd_X3_no⟩ ⟨Nat.le_of_ble_eq_true rfl, Nat.le_of_ble_eq_true rfl⟩) (pwV (ci := 3) (q0 := 0) (C := RX3) hw hK rfl rfl rfl (rpS (AV := [.ref (M 0), .int 1]) hw hK hG rp_75)) rfl rfl hl.1 rfl (lv_room (Nat.le_of_ble_eq_true rfl)) dX3_waxAfter_18 ⟨Nat.le_of_ble_eq_true rfl, Nat.le_of_ble_eq_true rfl⟩) hw hA rp_76 (fun H locs hw => ?_)
  exact k_iret hx hb hr hlocks hK hw rfl dX3_waxAfter_21 rfl rfl
set_option maxHeartbeats 4000000 in
set_option maxRecDepth 100000 in
theorem c_X3_waxAfter (l : Launch) (E : Ev) (M : Nat → Nat) (th : Int32) (Hb : MH) (a k : Fn) (n : Nat) (h1 : n_ns Hb ≤ 5) (h2 : n_np Hb ≤ 16) (h3 : n_nw Hb ≤ 4) (h4 : ∀ p, p < n_np Hb → n_so Hb p < 5) (hn1 : 1 ≤ n) (hn2 : n ≤ 200) : MI l E yX3_waxAfter wsX3_waxAfter rm_X3_waxAfter [.ref (M 0), .int (nI n)] (wN E M (th, Hb, a, k)) (l_mpass Hb a n 1) (wN E M (0, Hb, a, a)) := by
  refine k_bI (cc := cX3_waxAfter) (maxL := 3) (ret := (some .int)) (by decide) rfl (Nat.le_of_ble_eq_true rfl) ?_
  intro p9 e s9 m args below meth c A9 ls hC hl hw
  obtain ⟨hx, hb, hml, hr, hown, hts, hlocks, hK, hG, hA⟩ := hC
  have hf29 := hts (.fieldLink RX3 29 "SailorCandlesModel" "thrown" "I") (List.mem_of_getElem? (i := 1) rfl)
  have hinX3 : ∀ w ∈ wsX30, w ∈ wsX3_waxAfter := fun w h => List.mem_cons_of_mem _ (List.mem_append_right _ h)
  have hf23 := hts (.fieldLink RX3 23 "SailorCandlesModel" "now" "[I") (List.mem_of_getElem? (i := 2) rfl)
  have hl : lv_has ls 3 [(0, .ref (M 0)), (1, .int (nI n))] := hl
  refine lv_aload_n hx hb dX3_waxAfter_0 rfl (lv_at hl 0 rfl) ?_
  refine lv_iconst (v := 0) hx hb dX3_waxAfter_1 (by decide) ?_
  refine k_put (ci := 3) (C := RX3) (T := TX3) (N := 10) (ws' := wN E M (0, Hb, a, k)) hx hb hown hK hw hts hinX3 tyX3 tyX3_ok nmX3 0 rfl rfl 0 (by decide) hf29 rfl rfl (Nat.le_of_ble_eq_true rfl) dX3_waxAfter_2 rfl (fun H locs hw => ?_)
  refine lv_iload_n hx hb dX3_waxAfter_5 rfl (lv_at hl 1 rfl) ?_
  refine lv_iconst (v := 1) hx hb dX3_waxAfter_6 (by decide) ?_
  refine lv_sipush (v := 200) hx hb dX3_waxAfter_7 (by decide) ?_
  refine kr_i (ws' := wN E M (0, Hb, a, k)) (va_runS (As := [.int (nI n), .int 1, .int 200]) (rest := []) ⟨hx, hb, hml, hown, hts⟩ (c_X3_isIn l E (nI n) 1 200  _) (va_cwS 3 hts gX3_waxAfter_X3_isIn rfl rfl rfl hd_X3_isIn ⟨Nat.le_of_ble_eq_true rfl, Nat.le_of_ble_eq_true rfl⟩) (rpS (AV := [.int (nI n), .int 1, .int 200]) hw hK hG rp_74) rfl rfl hl.1 rfl (lv_room (Nat.le_of_ble_eq_true rfl)) dX3_waxAfter_10 ⟨Nat.le_of_ble_eq_true rfl, Nat.le_of_ble_eq_true rfl⟩) hw hA rp_74 (fun H locs hw => ?_)
  refine lv_if_ne (tgt := 22) hx hb dX3_waxAfter_13 (by decide) (fun _ => ?_) (fun q8 => absurd q8 (fun q7 => absurd ((d_in_lo (j := 1) (k := 200) (by omega) (by omega) (by omega)).symm.trans (bI_z q7)) (by decide)))
  refine lv_aload_n hx hb dX3_waxAfter_22 rfl (lv_at hl 0 rfl) ?_
  refine kr_v (ws' := wN E M (0, Hb, a, a)) (va_runV (As := []) (rest := []) ⟨hx, hb, hml, hown, hts⟩ (c_X3_keep l E M 0 Hb a k  _) (cwV 0 hts gX3_waxAfter_X3_keep rfl rfl rfl ⟨rfl, hd_X3_keep⟩ ⟨Nat.le_of_ble_eq_true rfl, Nat.le_of_ble_eq_true rfl⟩) (pwV (ci := 3) (q0 := 0) (C := RX3) hw hK rfl rfl rfl (rpS (AV := [.ref (M 0)]) hw hK hG rp_75)) rfl rfl hl.1 rfl (lv_room (Nat.le_of_ble_eq_true rfl)) dX3_waxAfter_23 ⟨Nat.le_of_ble_eq_true rfl, Nat.le_of_ble_eq_true rfl⟩) hw hA rp_76 (fun H locs hw => ?_)
  refine lv_iconst (v := 0) hx hb dX3_waxAfter_26 (by decide) ?_
  refine lv_istore_n (lv' := [(2, .int 0), (0, .ref (M 0)), (1, .int (nI n))]) hx hb dX3_waxAfter_27 rfl hl (by decide) rfl (fun ls hl => ?_)
  have L_28 : ∀ (k9 i : Nat) (H : Heap) (locs : List Loc) (ls : Array Slot), i + k9 = n → Wd E A9 s9.heap (wN E M (0, Hb, l_mpass Hb a i, a)) H locs → lv_has ls 3 [(0, .ref (M 0)), (1, .int (nI n)), (2, .int (nI i))] → W p9 l e rm_X3_waxAfter s9 m args below meth c H locs 0 0 (EndI E A9 (l_mpass Hb a n 1) (wN E M (0, Hb, a, a)) below args s9 (rm_X3_waxAfter).cells (rm_X3_waxAfter).slots) (F0 m 28 ls []) := by
    intro k9
    induction k9 with
    | zero =>
      intro i H locs ls hi hw hl
      have hz_1 : n = i := by omega
      refine lv_iload_n hx hb dX3_waxAfter_28 rfl (lv_at hl 2 rfl) ?_
      refine lv_iload_n hx hb dX3_waxAfter_29 rfl (lv_at hl 1 rfl) ?_
      refine lv_icmp_ge (tgt := 44) hx hb dX3_waxAfter_30 (by decide) (fun _ => ?_) (fun q8 => absurd (by rw [← hz_1]; exact Int32.le_refl _) q8)
      refine lv_aload_n hx hb dX3_waxAfter_44 rfl (lv_at hl 0 rfl) ?_
      refine k_get (ci := 3) (v := .ref (M 5)) (C := RX3) (T := TX3) (N := 10) hx hb hown hK hw hts hinX3 0 rfl rfl 8 (by decide) hf23 rfl dX3_waxAfter_45 ?_
      refine lv_iconst (v := 1) hx hb dX3_waxAfter_48 (by decide) ?_
      refine k_ildN (i := 1) (f := l_mpass Hb a i) hx hb hK hw 5 rfl (by omega) (by omega) dX3_waxAfter_49 ?_
      refine lv_istore_n (lv' := [(2, .int ((l_mpass Hb a i) 1)), (0, .ref (M 0)), (1, .int (nI n))]) hx hb dX3_waxAfter_50 rfl hl (by decide) rfl (fun ls hl => ?_)
      refine lv_aload_n hx hb dX3_waxAfter_51 rfl (lv_at hl 1 rfl) ?_
      refine kr_v (ws' := wN E M (0, Hb, a, a)) (va_runV (As := []) (rest := []) ⟨hx, hb, hml, hown, hts⟩ (c_X3_bringBack l E M 0 Hb (l_mpass Hb a i) a  _) (cwV 0 hts gX3_waxAfter_X3_bringBack rfl rfl rfl ⟨rfl, hd_X3_bringBack⟩ ⟨Nat.le_of_ble_eq_true rfl, Nat.le_of_ble_eq_true rfl⟩) (pwV (ci := 3) (q0 := 0) (C := RX3) hw hK rfl rfl rfl (rpS (AV := [.ref (M 0)]) hw hK hG rp_75)) rfl rfl hl.1 rfl (lv_room (Nat.le_of_ble_eq_true rfl)) dX3_waxAfter_52 ⟨Nat.le_of_ble_eq_true rfl, Nat.le_of_ble_eq_true rfl⟩) hw hA rp_76 (fun H locs hw => ?_)
      refine lv_iload_n hx hb dX3_waxAfter_55 rfl (lv_at hl 0 rfl) ?_
      exact k_iret hx hb hr hlocks hK hw rfl dX3_waxAfter_56 (by subst hz_1; first | rfl | assumption | (simp only [l_mpass, if_true, if_false, Bool.false_eq_true, Bool.true_eq_false, reduceIte, reduceCtorEq]; done) | (simp only [l_mpass, if_true, if_false, Bool.false_eq_true, Bool.true_eq_false, reduceIte, reduceCtorEq]; rfl) | (simp [l_mpass, if_true, if_false, Bool.false_eq_true, Bool.true_eq_false, reduceIte, reduceCtorEq]; done) | (simp [bI, l_mpass]; done)) rfl
    | succ k9 ih_28 =>
      intro i H locs ls hi hw hl
      have hi9 : i < n := by omega
      refine lv_iload_n hx hb dX3_waxAfter_28 rfl (lv_at hl 2 rfl) ?_
      refine lv_iload_n hx hb dX3_waxAfter_29 rfl (lv_at hl 1 rfl) ?_
      refine lv_icmp_ge (tgt := 44) hx hb dX3_waxAfter_30 (by decide) (fun q8 => absurd q8 (nI_ge (a := i) (b := n) (by omega) (by omega))) (fun _ => ?_)
      refine lv_aload_n hx hb dX3_waxAfter_33 rfl (lv_at hl 0 rfl) ?_
      refine kr_i (ws' := wN E M (0, Hb, r_night Hb (l_mpass Hb a i), a)) (va_runV (As := []) (rest := []) ⟨hx, hb, hml, hown, hts⟩ (c_X3_nightOn l E M 0 Hb (l_mpass Hb a i) a (by omega) (by omega) (by omega) (h4) _) (cwV 0 hts gX3_waxAfter_X3_nightOn rfl rfl rfl ⟨rfl, hd_X3_nightOn⟩ ⟨Nat.le_of_ble_eq_true rfl, Nat.le_of_ble_eq_true rfl⟩) (pwV (ci := 3) (q0 := 0) (C := RX3) hw hK rfl rfl rfl (rpS (AV := [.ref (M 0)]) hw hK hG rp_75)) rfl rfl hl.1 rfl (lv_room (Nat.le_of_ble_eq_true rfl)) dX3_waxAfter_34 ⟨Nat.le_of_ble_eq_true rfl, Nat.le_of_ble_eq_true rfl⟩) hw hA rp_76 (fun H locs hw => ?_)
      refine lv_pop hx hb dX3_waxAfter_37 rfl ?_
      refine lv_iinc (v := nI (i + 1)) (lv' := [(2, .int (nI (i + 1))), (0, .ref (M 0)), (1, .int (nI n))]) hx hb dX3_waxAfter_38 hl (k := 2) rfl (nI_add i 1) (by decide) rfl (fun ls hl => ?_)
      refine lv_goto (tgt := 28) hx hb dX3_waxAfter_41 (by decide) ?_
      exact ih_28 (i + 1) _ _ _ (by omega) (hw.to (by first | rfl | assumption | (simp only [l_mpass, if_true, if_false, Bool.false_eq_true, Bool.true_eq_false, reduceIte, reduceCtorEq]; done) | (simp only [l_mpass, if_true, if_false, Bool.false_eq_true, Bool.true_eq_false, reduceIte, reduceCtorEq]; rfl) | (simp [l_mpass, if_true, if_false, Bool.false_eq_true, Bool.true_eq_false, reduceIte, reduceCtorEq]; done) | (simp [bI, l_mpass]; done))) (lv_sub hl [1, 2, 0] rfl)
  exact L_28 (n - 0) 0 _ _ _ (by omega) hw (lv_sub hl [1, 2, 0] rfl)
