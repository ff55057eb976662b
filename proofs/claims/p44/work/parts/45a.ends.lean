abbrev rm_X3_ends : Room := { frames := 2, cells := 21, slots := 420, locals := 50 }
set_option maxHeartbeats 4000000 in
set_option maxRecDepth 100000 in
theorem c_X3_ends (l : Launch) (E : Ev) (q : Nat) (P : AP) (v_ni v_wa v_un : Int32) (v_ns v_np v_nw v_ng : Nat) (v_ma v_st v_ou v_ru : Fn) (v_so : FnN) (v_mt v_vo v_gi v_ca v_tr : Fn) (v_sw v_ss : FnN) (v_sg : Fn) (s : Nat) (hns : v_ns ≤ 5) (hnp : v_np ≤ 16) (hnw : v_nw ≤ 4) (hng : v_ng ≤ 20) (hso : ∀ p, p < v_np → v_so p < v_ns) (hsw : ∀ j, j < v_ng → v_sw j < v_nw) (hs : s < v_ns) : MC l E yX3_ends wsX3_ends rm_X3_ends [.ref q, .int (nI s)] (wS E q P (mkS v_ni v_wa v_un v_ns v_np v_nw v_ng v_ma v_st v_ou v_ru v_so v_mt v_vo v_gi v_ca v_tr v_sw v_ss v_sg)) (fun (u : AP) => True) (fun (u : AP) => wS E q u (mkS v_ni ((l_en (v_so) s (v_ca) (v_wa) (v_np)).2) v_un v_ns v_np v_nw (d_n (v_ss) (v_sg) (nI s) 99 (v_ng)) v_ma v_st v_ou (upd (v_ru) s 0) v_so v_mt v_vo v_gi ((l_en (v_so) s (v_ca) (v_wa) (v_np)).1) v_tr (fun j => v_sw (d_ix (v_ss) (v_sg) (nI s) 99 (v_ng) j)) (fun j => v_ss (d_ix (v_ss) (v_sg) (nI s) 99 (v_ng) j)) (fun j => v_sg (d_ix (v_ss) (v_sg) (nI s) 99 (v_ng) j)))) := by
  refine k_bC (cc := cX3_ends) (maxL := 6) (ret := none) (by decide) rfl (Nat.le_of_ble_eq_true rfl) ?_
  intro p9 e s9 m args below meth c A9 ls hC hin9 hl hw
  obtain ⟨hx, hb, hml, hr, hown, hts, hlocks, hK, hG, hA⟩ := hC
  have hf9 := hts (.fieldLink RX3 9 "SailorCandlesLaw$Sim" "ships" "[[I") (List.mem_of_getElem? (i := 1) rfl)
  have hinX3 : ∀ w ∈ wsX30, w ∈ wsX3_ends := fun w h => List.mem_cons_of_mem _ (List.mem_append_right _ h)
  have hf15 := hts (.fieldLink RX3 15 "SailorCandlesLaw$Sim" "sailors" "[[I") (List.mem_of_getElem? (i := 2) rfl)
  have hf33 := hts (.fieldLink RX3 33 "SailorCandlesLaw$Sim" "wax" "I") (List.mem_of_getElem? (i := 3) rfl)
  have hl : lv_has ls 6 [(0, .ref q), (1, .int (nI s))] := hl
  refine lv_aload_n hx hb dX3_ends_0 rfl (lv_at hl 0 rfl) ?_
  refine lv_iload_n hx hb dX3_ends_1 rfl (lv_at hl 1 rfl) ?_
  refine lv_bipush (v := 99) hx hb dX3_ends_2 (by decide) ?_
  have hn4 : Rn (wS E q P (mkS v_ni v_wa v_un v_ns v_np v_nw v_ng v_ma v_st v_ou v_ru v_so v_mt v_vo v_gi v_ca v_tr v_sw v_ss v_sg)) (wS E q P (mkS v_ni v_wa v_un v_ns v_np v_nw v_ng v_ma v_st v_ou v_ru v_so v_mt v_vo v_gi v_ca v_tr v_sw v_ss v_sg)) (([] : va_W)) := perm9 (fun a => by simp only [cnt9_app, cnt9_cons, cnt9_nil] <;> omega)
  refine kr_new (va_runV (As := [.int (nI s), .int 99]) (rest := []) ⟨hx, hb, hml, hown, hts⟩ (c_X3_drop l E q P v_ni v_wa v_un v_ns v_np v_nw v_ng v_ma v_st v_ou v_ru v_so v_mt v_vo v_gi v_ca v_tr v_sw v_ss v_sg (nI s) 99 hns hnp hnw hng hso hsw _) (cwV 2 hts gX3_ends_X3_drop rfl rfl rfl ⟨rfl, hd_X3_drop⟩ ⟨Nat.le_of_ble_eq_true rfl, Nat.le_of_ble_eq_true rfl⟩) (pwV (ci := 3) (q0 := 0) (C := RX3) hw hK rfl rfl rfl (rpS (AV := [.ref q, .int (nI s), .int 99]) hw hK hG hn4.rp)) rfl rfl hl.1 rfl (lv_room (Nat.le_of_ble_eq_true rfl)) dX3_ends_4 ⟨Nat.le_of_ble_eq_true rfl, Nat.le_of_ble_eq_true rfl⟩) hw hA hn4 (fun u_1 H locs _ hw => ?_)
  have hw : Wd E A9 s9.heap (wS E q u_1 (mkS v_ni v_wa v_un v_ns v_np v_nw (d_n (v_ss) (v_sg) (nI s) 99 (v_ng)) v_ma v_st v_ou v_ru v_so v_mt v_vo v_gi v_ca v_tr (fun j => v_sw (d_ix (v_ss) (v_sg) (nI s) 99 (v_ng) j)) (fun j => v_ss (d_ix (v_ss) (v_sg) (nI s) 99 (v_ng) j)) (fun j => v_sg (d_ix (v_ss) (v_sg) (nI s) 99 (v_ng) j)))) H _ := Wd.perm hw (perm9 (fun a => by simp only [cnt9_app, cnt9_cons, cnt9_nil] <;> omega))
  refine lv_aload_n hx hb dX3_ends_7 rfl (lv_at hl 0 rfl) ?_
  refine k_get (ci := 3) (v := .ref (u_1.1 1)) (C := RX3) (T := TX3) (N := 7) hx hb hown hK hw hts hinX3 0 rfl rfl 3 (by decide) hf9 rfl dX3_ends_8 ?_
  refine lv_iload_n hx hb dX3_ends_11 rfl (lv_at hl 1 rfl) ?_
  refine k_qld (i := s) (y := u_1.2.1 s) (n := v_ns) hx hb hK hw 1 rfl (show s < v_ns from hs) (show v_ns < 2 ^ 31 by omega) rfl dX3_ends_12 ?_
  refine lv_iconst (v := 3) hx hb dX3_ends_13 (by decide) ?_
  refine lv_iconst (v := 0) hx hb dX3_ends_14 (by decide) ?_
  refine k_istP (i := 3) (ws' := wS E q u_1 (mkS v_ni v_wa v_un v_ns v_np v_nw (d_n (v_ss) (v_sg) (nI s) 99 (v_ng)) v_ma v_st v_ou (upd v_ru s 0) v_so v_mt v_vo v_gi v_ca v_tr (fun j => v_sw (d_ix (v_ss) (v_sg) (nI s) 99 (v_ng) j)) (fun j => v_ss (d_ix (v_ss) (v_sg) (nI s) 99 (v_ng) j)) (fun j => v_sg (d_ix (v_ss) (v_sg) (nI s) 99 (v_ng) j)))) hx hb hK hw (Pk_ru 0 (i := s) (show s < v_ns from hs)) (by decide) (by decide) dX3_ends_15 (fun H locs hw => ?_)
  refine lv_aload_n hx hb dX3_ends_16 rfl (lv_at hl 0 rfl) ?_
  refine k_get (ci := 3) (v := .ref (u_1.1 2)) (C := RX3) (T := TX3) (N := 7) hx hb hown hK hw hts hinX3 0 rfl rfl 4 (by decide) hf15 rfl dX3_ends_17 ?_
  refine lv_astore_n (lv' := [(2, .ref (u_1.1 2)), (0, .ref q), (1, .int (nI s))]) hx hb dX3_ends_20 rfl hl (by decide) rfl (fun ls hl => ?_)
  refine lv_aload_n hx hb dX3_ends_21 rfl (lv_at hl 0 rfl) ?_
  refine k_lenQ (n := v_np) hx hb hK hw 2 rfl dX3_ends_22 ?_
  refine lv_istore_n (lv' := [(3, .int (nI v_np)), (2, .ref (u_1.1 2)), (0, .ref q), (1, .int (nI s))]) hx hb dX3_ends_23 rfl hl (by decide) rfl (fun ls hl => ?_)
  refine lv_iconst (v := 0) hx hb dX3_ends_24 (by decide) ?_
  refine lv_istore (lv' := [(4, .int 0), (3, .int (nI v_np)), (2, .ref (u_1.1 2)), (0, .ref q), (1, .int (nI s))]) hx hb dX3_ends_25 hl (by decide) rfl (fun ls hl => ?_)
  have L_27 : ∀ (k9 j : Nat) (H : Heap) (locs : List Loc) (ls : Array Slot), j + k9 = v_np → Wd E A9 s9.heap (wS E q u_1 (mkS v_ni ((l_en (v_so) s (v_ca) (v_wa) j).2) v_un v_ns v_np v_nw (d_n (v_ss) (v_sg) (nI s) 99 (v_ng)) v_ma v_st v_ou (upd v_ru s 0) v_so v_mt v_vo v_gi ((l_en (v_so) s (v_ca) (v_wa) j).1) v_tr (fun j => v_sw (d_ix (v_ss) (v_sg) (nI s) 99 (v_ng) j)) (fun j => v_ss (d_ix (v_ss) (v_sg) (nI s) 99 (v_ng) j)) (fun j => v_sg (d_ix (v_ss) (v_sg) (nI s) 99 (v_ng) j)))) H locs → lv_has ls 6 [(0, .ref q), (1, .int (nI s)), (2, .ref (u_1.1 2)), (3, .int (nI v_np)), (4, .int (nI j))] → W p9 l e rm_X3_ends s9 m args below meth c H locs 21 420 (EndC E A9 (fun (u : AP) => True) (fun (u : AP) => wS E q u (mkS v_ni ((l_en (v_so) s (v_ca) (v_wa) (v_np)).2) v_un v_ns v_np v_nw (d_n (v_ss) (v_sg) (nI s) 99 (v_ng)) v_ma v_st v_ou (upd (v_ru) s 0) v_so v_mt v_vo v_gi ((l_en (v_so) s (v_ca) (v_wa) (v_np)).1) v_tr (fun j => v_sw (d_ix (v_ss) (v_sg) (nI s) 99 (v_ng) j)) (fun j => v_ss (d_ix (v_ss) (v_sg) (nI s) 99 (v_ng) j)) (fun j => v_sg (d_ix (v_ss) (v_sg) (nI s) 99 (v_ng) j)))) below args s9 (rm_X3_ends).cells (rm_X3_ends).slots) (F0 m 27 ls []) := by
    intro k9
    induction k9 with
    | zero =>
      intro j H locs ls hi hw hl
      have hz_2 : v_np = j := by omega
      refine lv_iload hx hb dX3_ends_27 (lv_at hl 4 rfl) ?_
      refine lv_iload_n hx hb dX3_ends_29 rfl (lv_at hl 3 rfl) ?_
      refine lv_icmp_ge (tgt := 74) hx hb dX3_ends_30 (by decide) (fun _ => ?_) (fun q8 => absurd (by rw [← hz_2]; exact Int32.le_refl _) q8)
      refine W.widen (k := (rm_X3_ends).cells) (n := (rm_X3_ends).slots) (Nat.le_of_ble_eq_true rfl) (Nat.le_of_ble_eq_true rfl) ?_
      exact k_cret u_1 hx hb hr hlocks hK (hw.to (by rw [← hz_2])) dX3_ends_74 trivial rfl
    | succ k9 ih_27 =>
      intro j H locs ls hi hw hl
      have hi9 : j < v_np := by omega
      refine lv_iload hx hb dX3_ends_27 (lv_at hl 4 rfl) ?_
      refine lv_iload_n hx hb dX3_ends_29 rfl (lv_at hl 3 rfl) ?_
      refine lv_icmp_ge (tgt := 74) hx hb dX3_ends_30 (by decide) (fun q8 => absurd q8 (nI_ge (a := j) (b := v_np) (by omega) (by omega))) (fun _ => ?_)
      refine lv_aload_n hx hb dX3_ends_33 rfl (lv_at hl 2 rfl) ?_
      refine lv_iload hx hb dX3_ends_34 (lv_at hl 4 rfl) ?_
      refine k_qld (i := j) (y := u_1.2.2.1 j) (n := v_np) hx hb hK hw 2 rfl (show j < v_np from by omega) (show v_np < 2 ^ 31 by omega) rfl dX3_ends_36 ?_
      refine lv_astore (lv' := [(5, .ref (u_1.2.2.1 j)), (0, .ref q), (1, .int (nI s)), (2, .ref (u_1.1 2)), (3, .int (nI v_np)), (4, .int (nI j))]) hx hb dX3_ends_37 hl (by decide) rfl (fun ls hl => ?_)
      refine lv_aload hx hb dX3_ends_39 (lv_at hl 0 rfl) ?_
      refine lv_iconst (v := 0) hx hb dX3_ends_41 (by decide) ?_
      refine k_ildP (i := 0) (v := nI (v_so j)) hx hb hK hw (Pk_5 (i := j) (show j < v_np from by omega)) (by decide) (by decide) rfl dX3_ends_42 ?_
      refine lv_iload_n hx hb dX3_ends_43 rfl (lv_at hl 2 rfl) ?_
      refine lv_icmp_eq (tgt := 50) hx hb dX3_ends_44 (by decide) (fun c_3 => ?_) (fun c_3 => ?_)
      · have c_3 : (nI (v_so j) : Int32) = nI s := c_3
        refine lv_aload_n hx hb dX3_ends_50 rfl (lv_at hl 1 rfl) ?_
        refine lv_dup hx hb dX3_ends_51 rfl ?_
        refine k_get (ci := 3) (v := .int ((l_en (v_so) s (v_ca) (v_wa) j).2)) (C := RX3) (T := TX3) (N := 7) hx hb hown hK hw hts hinX3 0 rfl rfl 1 (by decide) hf33 rfl dX3_ends_52 ?_
        refine lv_aload hx hb dX3_ends_55 (lv_at hl 0 rfl) ?_
        refine lv_iconst (v := 4) hx hb dX3_ends_57 (by decide) ?_
        refine k_ildP (i := 4) (v := ((l_en (v_so) s (v_ca) (v_wa) j).1) j) hx hb hK hw (Pk_5 (i := j) (show j < v_np from by omega)) (by decide) (by decide) rfl dX3_ends_58 ?_
        refine lv_iadd hx hb dX3_ends_59 ?_
        refine k_putP (ws' := wS E q u_1 (mkS v_ni (((l_en (v_so) s (v_ca) (v_wa) j).2) + (((l_en (v_so) s (v_ca) (v_wa) j).1) j)) v_un v_ns v_np v_nw (d_n (v_ss) (v_sg) (nI s) 99 (v_ng)) v_ma v_st v_ou (upd v_ru s 0) v_so v_mt v_vo v_gi ((l_en (v_so) s (v_ca) (v_wa) j).1) v_tr (fun j => v_sw (d_ix (v_ss) (v_sg) (nI s) 99 (v_ng) j)) (fun j => v_ss (d_ix (v_ss) (v_sg) (nI s) 99 (v_ng) j)) (fun j => v_sg (d_ix (v_ss) (v_sg) (nI s) 99 (v_ng) j)))) hx hb hown hK hw hts hinX3 1 (Pk_wa (((l_en (v_so) s (v_ca) (v_wa) j).2) + (((l_en (v_so) s (v_ca) (v_wa) j).1) j))) (by decide) hf33 rfl rfl (Nat.le_of_ble_eq_true rfl) dX3_ends_60 (fun H locs hw => ?_)
        refine lv_aload hx hb dX3_ends_63 (lv_at hl 0 rfl) ?_
        refine lv_iconst (v := 4) hx hb dX3_ends_65 (by decide) ?_
        refine lv_iconst (v := 0) hx hb dX3_ends_66 (by decide) ?_
        refine k_istP (i := 4) (ws' := wS E q u_1 (mkS v_ni (((l_en (v_so) s (v_ca) (v_wa) j).2) + (((l_en (v_so) s (v_ca) (v_wa) j).1) j)) v_un v_ns v_np v_nw (d_n (v_ss) (v_sg) (nI s) 99 (v_ng)) v_ma v_st v_ou (upd v_ru s 0) v_so v_mt v_vo v_gi (upd ((l_en (v_so) s (v_ca) (v_wa) j).1) j 0) v_tr (fun j => v_sw (d_ix (v_ss) (v_sg) (nI s) 99 (v_ng) j)) (fun j => v_ss (d_ix (v_ss) (v_sg) (nI s) 99 (v_ng) j)) (fun j => v_sg (d_ix (v_ss) (v_sg) (nI s) 99 (v_ng) j)))) hx hb hK hw (Pk_ca 0 (i := j) (show j < v_np from by omega)) (by decide) (by decide) dX3_ends_67 (fun H locs hw => ?_)
        refine lv_iinc (v := nI (j + 1)) (lv' := [(4, .int (nI (j + 1))), (5, .ref (u_1.2.2.1 j)), (0, .ref q), (1, .int (nI s)), (2, .ref (u_1.1 2)), (3, .int (nI v_np))]) hx hb dX3_ends_68 hl (k := 5) rfl (nI_add j 1) (by decide) rfl (fun ls hl => ?_)
        refine lv_goto (tgt := 27) hx hb dX3_ends_71 (by decide) ?_
        exact ih_27 (j + 1) _ _ _ (by omega) (hw.to (by first | assumption | (simp only [l_en, if_pos c_3, if_true, if_false, Bool.false_eq_true, Bool.true_eq_false, reduceIte, reduceCtorEq]; done) | (simp only [l_en, if_pos c_3, if_true, if_false, Bool.false_eq_true, Bool.true_eq_false, reduceIte, reduceCtorEq]; rfl) | rfl | (simp [l_en, if_pos c_3, if_true, if_false, Bool.false_eq_true, Bool.true_eq_false, reduceIte, reduceCtorEq]; done) | (simp [bI, l_en, c_3]; done))) (lv_sub hl [2, 3, 4, 5, 0] rfl)
      · have c_3 : ¬ (nI (v_so j) : Int32) = nI s := c_3
        refine lv_goto (tgt := 68) hx hb dX3_ends_47 (by decide) ?_
        refine lv_iinc (v := nI (j + 1)) (lv' := [(4, .int (nI (j + 1))), (5, .ref (u_1.2.2.1 j)), (0, .ref q), (1, .int (nI s)), (2, .ref (u_1.1 2)), (3, .int (nI v_np))]) hx hb dX3_ends_68 hl (k := 5) rfl (nI_add j 1) (by decide) rfl (fun ls hl => ?_)
        refine lv_goto (tgt := 27) hx hb dX3_ends_71 (by decide) ?_
        exact ih_27 (j + 1) _ _ _ (by omega) (hw.to (by first | assumption | (simp only [l_en, if_neg c_3, if_true, if_false, Bool.false_eq_true, Bool.true_eq_false, reduceIte, reduceCtorEq]; done) | (simp only [l_en, if_neg c_3, if_true, if_false, Bool.false_eq_true, Bool.true_eq_false, reduceIte, reduceCtorEq]; rfl) | rfl | (simp [l_en, if_neg c_3, if_true, if_false, Bool.false_eq_true, Bool.true_eq_false, reduceIte, reduceCtorEq]; done) | (simp [bI, l_en, c_3]; done))) (lv_sub hl [2, 3, 4, 5, 0] rfl)
  exact L_27 (v_np - 0) 0 _ _ _ (by omega) hw (lv_sub hl [3, 4, 2, 1, 0] rfl)
abbrev rm_X3_pass : Room := { frames := 3, cells := 126, slots := 2520, locals := 75 }
