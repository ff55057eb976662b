abbrev rm_X3_trustIn : Room := { frames := 0, cells := 0, slots := 0, locals := 0 }
set_option maxHeartbeats 4000000 in
set_option maxRecDepth 100000 in
theorem c_X3_trustIn (l : Launch) (E : Ev) (q : Nat) (P : AP) (v_ni v_wa v_un : Int32) (v_ns v_np v_nw v_ng : Nat) (v_ma v_st v_ou v_ru : Fn) (v_so : FnN) (v_mt v_vo v_gi v_ca v_tr : Fn) (v_sw v_ss : FnN) (v_sg : Fn) (s : Nat) (hns : v_ns ≤ 5) (hnp : v_np ≤ 16) (hnw : v_nw ≤ 4) (hng : v_ng ≤ 20) (hso : ∀ p, p < v_np → v_so p < v_ns) (hsw : ∀ j, j < v_ng → v_sw j < v_nw) : MI l E yX3_trustIn wsX3_trustIn rm_X3_trustIn [.ref q, .int (nI s)] (wS E q P (mkS v_ni v_wa v_un v_ns v_np v_nw v_ng v_ma v_st v_ou v_ru v_so v_mt v_vo v_gi v_ca v_tr v_sw v_ss v_sg)) (l_tin (v_ss) (v_sw) (v_tr) s (v_ng)) (wS E q P (mkS v_ni v_wa v_un v_ns v_np v_nw v_ng v_ma v_st v_ou v_ru v_so v_mt v_vo v_gi v_ca v_tr v_sw v_ss v_sg)) := by
  refine k_bI (cc := cX3_trustIn) (maxL := 7) (ret := (some .int)) (by decide) rfl (Nat.le_of_ble_eq_true rfl) ?_
  intro p9 e s9 m args below meth c A9 ls hC hl hw
  obtain ⟨hx, hb, hml, hr, hown, hts, hlocks, hK, hG, hA⟩ := hC
  have hf21 := hts (.fieldLink RX3 21 "SailorCandlesLaw$Sim" "sights" "[[I") (List.mem_of_getElem? (i := 1) rfl)
  have hinX3 : ∀ w ∈ wsX30, w ∈ wsX3_trustIn := fun w h => List.mem_cons_of_mem _ (List.mem_append_right _ h)
  have hf18 := hts (.fieldLink RX3 18 "SailorCandlesLaw$Sim" "trust" "[I") (List.mem_of_getElem? (i := 2) rfl)
  have hl : lv_has ls 7 [(0, .ref q), (1, .int (nI s))] := hl
  refine lv_iconst (v := 0) hx hb dX3_trustIn_0 (by decide) ?_
  refine lv_istore_n (lv' := [(2, .int 0), (0, .ref q), (1, .int (nI s))]) hx hb dX3_trustIn_1 rfl hl (by decide) rfl (fun ls hl => ?_)
  refine lv_aload_n hx hb dX3_trustIn_2 rfl (lv_at hl 1 rfl) ?_
  refine k_get (ci := 3) (v := .ref (P.1 4)) (C := RX3) (T := TX3) (N := 7) hx hb hown hK hw hts hinX3 0 rfl rfl 6 (by decide) hf21 rfl dX3_trustIn_3 ?_
  refine lv_astore_n (lv' := [(3, .ref (P.1 4)), (2, .int 0), (0, .ref q), (1, .int (nI s))]) hx hb dX3_trustIn_6 rfl hl (by decide) rfl (fun ls hl => ?_)
  refine lv_aload_n hx hb dX3_trustIn_7 rfl (lv_at hl 0 rfl) ?_
  refine k_lenQ (n := v_ng) hx hb hK hw 4 rfl dX3_trustIn_8 ?_
  refine lv_istore (lv' := [(4, .int (nI v_ng)), (3, .ref (P.1 4)), (2, .int 0), (0, .ref q), (1, .int (nI s))]) hx hb dX3_trustIn_9 hl (by decide) rfl (fun ls hl => ?_)
  refine lv_iconst (v := 0) hx hb dX3_trustIn_11 (by decide) ?_
  refine lv_istore (lv' := [(5, .int 0), (4, .int (nI v_ng)), (3, .ref (P.1 4)), (2, .int 0), (0, .ref q), (1, .int (nI s))]) hx hb dX3_trustIn_12 hl (by decide) rfl (fun ls hl => ?_)
  have L_14 : ∀ (k9 i : Nat) (H : Heap) (locs : List Loc) (ls : Array Slot), i + k9 = v_ng → Wd E A9 s9.heap (wS E q P (mkS v_ni v_wa v_un v_ns v_np v_nw v_ng v_ma v_st v_ou v_ru v_so v_mt v_vo v_gi v_ca v_tr v_sw v_ss v_sg)) H locs → lv_has ls 7 [(0, .ref q), (1, .int (nI s)), (2, .int (l_tin (v_ss) (v_sw) (v_tr) s i)), (3, .ref (P.1 4)), (4, .int (nI v_ng)), (5, .int (nI i))] → W p9 l e rm_X3_trustIn s9 m args below meth c H locs 0 0 (EndI E A9 (l_tin (v_ss) (v_sw) (v_tr) s (v_ng)) (wS E q P (mkS v_ni v_wa v_un v_ns v_np v_nw v_ng v_ma v_st v_ou v_ru v_so v_mt v_vo v_gi v_ca v_tr v_sw v_ss v_sg)) below args s9 (rm_X3_trustIn).cells (rm_X3_trustIn).slots) (F0 m 14 ls []) := by
    intro k9
    induction k9 with
    | zero =>
      intro i H locs ls hi hw hl
      have hz_1 : v_ng = i := by omega
      refine lv_iload hx hb dX3_trustIn_14 (lv_at hl 5 rfl) ?_
      refine lv_iload hx hb dX3_trustIn_16 (lv_at hl 4 rfl) ?_
      refine lv_icmp_ge (tgt := 53) hx hb dX3_trustIn_18 (by decide) (fun _ => ?_) (fun q8 => absurd (by rw [← hz_1]; exact Int32.le_refl _) q8)
      refine lv_iload_n hx hb dX3_trustIn_53 rfl (lv_at hl 2 rfl) ?_
      exact k_iret hx hb hr hlocks hK hw rfl dX3_trustIn_54 (by subst hz_1; first | rfl | assumption | (simp only [l_tin, if_true, if_false, Bool.false_eq_true, Bool.true_eq_false, reduceIte, reduceCtorEq]; done) | (simp only [l_tin, if_true, if_false, Bool.false_eq_true, Bool.true_eq_false, reduceIte, reduceCtorEq]; rfl) | (simp [l_tin, if_true, if_false, Bool.false_eq_true, Bool.true_eq_false, reduceIte, reduceCtorEq]; done) | (simp [bI, l_tin]; done)) rfl
    | succ k9 ih_14 =>
      intro i H locs ls hi hw hl
      have hi9 : i < v_ng := by omega
      refine lv_iload hx hb dX3_trustIn_14 (lv_at hl 5 rfl) ?_
      refine lv_iload hx hb dX3_trustIn_16 (lv_at hl 4 rfl) ?_
      refine lv_icmp_ge (tgt := 53) hx hb dX3_trustIn_18 (by decide) (fun q8 => absurd q8 (nI_ge (a := i) (b := v_ng) (by omega) (by omega))) (fun _ => ?_)
      refine lv_aload_n hx hb dX3_trustIn_21 rfl (lv_at hl 3 rfl) ?_
      refine lv_iload hx hb dX3_trustIn_22 (lv_at hl 5 rfl) ?_
      refine k_qld (i := i) (y := P.2.2.2 i) (n := v_ng) hx hb hK hw 4 rfl (show i < v_ng from by omega) (show v_ng < 2 ^ 31 by omega) rfl dX3_trustIn_24 ?_
      refine lv_astore (lv' := [(6, .ref (P.2.2.2 i)), (0, .ref q), (1, .int (nI s)), (2, .int (l_tin (v_ss) (v_sw) (v_tr) s i)), (3, .ref (P.1 4)), (4, .int (nI v_ng)), (5, .int (nI i))]) hx hb dX3_trustIn_25 hl (by decide) rfl (fun ls hl => ?_)
      refine lv_aload hx hb dX3_trustIn_27 (lv_at hl 0 rfl) ?_
      refine lv_iconst (v := 1) hx hb dX3_trustIn_29 (by decide) ?_
      refine k_ildP (i := 1) (v := nI (v_ss i)) hx hb hK hw (Pk_3 (i := i) (show i < v_ng from by omega)) (by decide) (by decide) rfl dX3_trustIn_30 ?_
      refine lv_iload_n hx hb dX3_trustIn_31 rfl (lv_at hl 2 rfl) ?_
      refine lv_icmp_ne (tgt := 47) hx hb dX3_trustIn_32 (by decide) (fun c_2 => ?_) (fun c_2 => ?_)
      · have c_2 : ¬ (nI (v_ss i) : Int32) = nI s := c_2
        refine lv_iinc (v := nI (i + 1)) (lv' := [(5, .int (nI (i + 1))), (6, .ref (P.2.2.2 i)), (0, .ref q), (1, .int (nI s)), (2, .int (l_tin (v_ss) (v_sw) (v_tr) s i)), (3, .ref (P.1 4)), (4, .int (nI v_ng))]) hx hb dX3_trustIn_47 hl (k := 6) rfl (nI_add i 1) (by decide) rfl (fun ls hl => ?_)
        refine lv_goto (tgt := 14) hx hb dX3_trustIn_50 (by decide) ?_
        exact ih_14 (i + 1) _ _ _ (by omega) hw (by rw [show (.int (l_tin (v_ss) (v_sw) (v_tr) s (i + 1)) : Value) = .int (l_tin (v_ss) (v_sw) (v_tr) s i) from (by first | assumption | (simp only [l_tin, if_neg c_2, if_true, if_false, Bool.false_eq_true, Bool.true_eq_false, reduceIte, reduceCtorEq]; done) | (simp only [l_tin, if_neg c_2, if_true, if_false, Bool.false_eq_true, Bool.true_eq_false, reduceIte, reduceCtorEq]; rfl) | rfl | (simp [l_tin, if_neg c_2, if_true, if_false, Bool.false_eq_true, Bool.true_eq_false, reduceIte, reduceCtorEq]; done) | (simp [bI, l_tin, c_2]; done))]; exact lv_sub hl [2, 3, 4, 5, 6, 0] rfl)
      · have c_2 : (nI (v_ss i) : Int32) = nI s := c_2
        refine lv_iload_n hx hb dX3_trustIn_35 rfl (lv_at hl 3 rfl) ?_
        refine lv_aload_n hx hb dX3_trustIn_36 rfl (lv_at hl 1 rfl) ?_
        refine k_get (ci := 3) (v := .ref (P.1 3)) (C := RX3) (T := TX3) (N := 7) hx hb hown hK hw hts hinX3 0 rfl rfl 5 (by decide) hf18 rfl dX3_trustIn_37 ?_
        refine lv_aload hx hb dX3_trustIn_40 (lv_at hl 0 rfl) ?_
        refine lv_iconst (v := 0) hx hb dX3_trustIn_42 (by decide) ?_
        refine k_ildP (i := 0) (v := nI (v_sw i)) hx hb hK hw (Pk_3 (i := i) (show i < v_ng from by omega)) (by decide) (by decide) rfl dX3_trustIn_43 ?_
        refine k_ildN (i := v_sw i) (n := v_nw) (f := v_tr) hx hb hK hw 3 rfl (show v_sw i < v_nw from by have := hsw i (by omega); omega) (show v_nw < 2 ^ 31 by omega) dX3_trustIn_44 ?_
        refine lv_iadd hx hb dX3_trustIn_45 ?_
        refine lv_istore_n (lv' := [(2, .int ((l_tin (v_ss) (v_sw) (v_tr) s i) + (v_tr (v_sw i)))), (6, .ref (P.2.2.2 i)), (0, .ref q), (1, .int (nI s)), (3, .ref (P.1 4)), (4, .int (nI v_ng)), (5, .int (nI i))]) hx hb dX3_trustIn_46 rfl hl (by decide) rfl (fun ls hl => ?_)
        refine lv_iinc (v := nI (i + 1)) (lv' := [(5, .int (nI (i + 1))), (2, .int ((l_tin (v_ss) (v_sw) (v_tr) s i) + (v_tr (v_sw i)))), (6, .ref (P.2.2.2 i)), (0, .ref q), (1, .int (nI s)), (3, .ref (P.1 4)), (4, .int (nI v_ng))]) hx hb dX3_trustIn_47 hl (k := 6) rfl (nI_add i 1) (by decide) rfl (fun ls hl => ?_)
        refine lv_goto (tgt := 14) hx hb dX3_trustIn_50 (by decide) ?_
        exact ih_14 (i + 1) _ _ _ (by omega) hw (by rw [show (.int (l_tin (v_ss) (v_sw) (v_tr) s (i + 1)) : Value) = .int ((l_tin (v_ss) (v_sw) (v_tr) s i) + (v_tr (v_sw i))) from (by first | assumption | (simp only [l_tin, if_pos c_2, if_true, if_false, Bool.false_eq_true, Bool.true_eq_false, reduceIte, reduceCtorEq]; done) | (simp only [l_tin, if_pos c_2, if_true, if_false, Bool.false_eq_true, Bool.true_eq_false, reduceIte, reduceCtorEq]; rfl) | rfl | (simp [l_tin, if_pos c_2, if_true, if_false, Bool.false_eq_true, Bool.true_eq_false, reduceIte, reduceCtorEq]; done) | (simp [bI, l_tin, c_2]; done))]; exact lv_sub hl [3, 4, 1, 5, 6, 0] rfl)
  exact L_14 (v_ng - 0) 0 _ _ _ (by omega) hw (lv_sub hl [4, 5, 3, 2, 1, 0] rfl)
abbrev rm_X3_isSighted : Room := { frames := 0, cells := 0, slots := 0, locals := 0 }
set_option maxHeartbeats 4000000 in
set_option maxRecDepth 100000 in
theorem c_X3_isSighted (l : Launch) (E : Ev) (q : Nat) (P : AP) (v_ni v_wa v_un : Int32) (v_ns v_np v_nw v_ng : Nat) (v_ma v_st v_ou v_ru : Fn) (v_so : FnN) (v_mt v_vo v_gi v_ca v_tr : Fn) (v_sw v_ss : FnN) (v_sg : Fn) (w : Nat) (s : Nat) (hns : v_ns ≤ 5) (hnp : v_np ≤ 16) (hnw : v_nw ≤ 4) (hng : v_ng ≤ 20) (hso : ∀ p, p < v_np → v_so p < v_ns) (hsw : ∀ j, j < v_ng → v_sw j < v_nw) : MI l E yX3_isSighted wsX3_isSighted rm_X3_isSighted [.ref q, .int (nI w), .int (nI s)] (wS E q P (mkS v_ni v_wa v_un v_ns v_np v_nw v_ng v_ma v_st v_ou v_ru v_so v_mt v_vo v_gi v_ca v_tr v_sw v_ss v_sg)) (bI (l_sig (v_ss) (v_sw) w s (v_ng))) (wS E q P (mkS v_ni v_wa v_un v_ns v_np v_nw v_ng v_ma v_st v_ou v_ru v_so v_mt v_vo v_gi v_ca v_tr v_sw v_ss v_sg)) := by
  refine k_bI (cc := cX3_isSighted) (maxL := 8) (ret := (some .boolean)) (by decide) rfl (Nat.le_of_ble_eq_true rfl) ?_
  intro p9 e s9 m args below meth c A9 ls hC hl hw
  obtain ⟨hx, hb, hml, hr, hown, hts, hlocks, hK, hG, hA⟩ := hC
  have hf21 := hts (.fieldLink RX3 21 "SailorCandlesLaw$Sim" "sights" "[[I") (List.mem_of_getElem? (i := 1) rfl)
  have hinX3 : ∀ w ∈ wsX30, w ∈ wsX3_isSighted := fun w h => List.mem_cons_of_mem _ (List.mem_append_right _ h)
  have hl : lv_has ls 8 [(0, .ref q), (1, .int (nI w)), (2, .int (nI s))] := hl
  refine lv_iconst (v := 0) hx hb dX3_isSighted_0 (by decide) ?_
  refine lv_istore_n (lv' := [(3, .int 0), (0, .ref q), (1, .int (nI w)), (2, .int (nI s))]) hx hb dX3_isSighted_1 rfl hl (by decide) rfl (fun ls hl => ?_)
  refine lv_aload_n hx hb dX3_isSighted_2 rfl (lv_at hl 1 rfl) ?_
  refine k_get (ci := 3) (v := .ref (P.1 4)) (C := RX3) (T := TX3) (N := 7) hx hb hown hK hw hts hinX3 0 rfl rfl 6 (by decide) hf21 rfl dX3_isSighted_3 ?_
  refine lv_astore (lv' := [(4, .ref (P.1 4)), (3, .int 0), (0, .ref q), (1, .int (nI w)), (2, .int (nI s))]) hx hb dX3_isSighted_6 hl (by decide) rfl (fun ls hl => ?_)
  refine lv_aload hx hb dX3_isSighted_8 (lv_at hl 0 rfl) ?_
  refine k_lenQ (n := v_ng) hx hb hK hw 4 rfl dX3_isSighted_10 ?_
  refine lv_istore (lv' := [(5, .int (nI v_ng)), (4, .ref (P.1 4)), (3, .int 0), (0, .ref q), (1, .int (nI w)), (2, .int (nI s))]) hx hb dX3_isSighted_11 hl (by decide) rfl (fun ls hl => ?_)
  refine lv_iconst (v := 0) hx hb dX3_isSighted_13 (by decide) ?_
  refine lv_istore (lv' := [(6, .int 0), (5, .int (nI v_ng)), (4, .ref (P.1 4)), (3, .int 0), (0, .ref q), (1, .int (nI w)), (2, .int (nI s))]) hx hb dX3_isSighted_14 hl (by decide) rfl (fun ls hl => ?_)
  have L_16 : ∀ (k9 i : Nat) (H : Heap) (locs : List Loc) (ls : Array Slot), i + k9 = v_ng → Wd E A9 s9.heap (wS E q P (mkS v_ni v_wa v_un v_ns v_np v_nw v_ng v_ma v_st v_ou v_ru v_so v_mt v_vo v_gi v_ca v_tr v_sw v_ss v_sg)) H locs → lv_has ls 8 [(0, .ref q), (1, .int (nI w)), (2, .int (nI s)), (3, .int (bI (l_sig (v_ss) (v_sw) w s i))), (4, .ref (P.1 4)), (5, .int (nI v_ng)), (6, .int (nI i))] → W p9 l e rm_X3_isSighted s9 m args below meth c H locs 0 0 (EndI E A9 (bI (l_sig (v_ss) (v_sw) w s (v_ng))) (wS E q P (mkS v_ni v_wa v_un v_ns v_np v_nw v_ng v_ma v_st v_ou v_ru v_so v_mt v_vo v_gi v_ca v_tr v_sw v_ss v_sg)) below args s9 (rm_X3_isSighted).cells (rm_X3_isSighted).slots) (F0 m 16 ls []) := by
    intro k9
    induction k9 with
    | zero =>
      intro i H locs ls hi hw hl
      have hz_1 : v_ng = i := by omega
      refine lv_iload hx hb dX3_isSighted_16 (lv_at hl 6 rfl) ?_
      refine lv_iload hx hb dX3_isSighted_18 (lv_at hl 5 rfl) ?_
      refine lv_icmp_ge (tgt := 60) hx hb dX3_isSighted_20 (by decide) (fun _ => ?_) (fun q8 => absurd (by rw [← hz_1]; exact Int32.le_refl _) q8)
      refine lv_iload_n hx hb dX3_isSighted_60 rfl (lv_at hl 3 rfl) ?_
      exact k_iret hx hb hr hlocks hK hw (bI_n _) dX3_isSighted_61 (by subst hz_1; first | rfl | assumption | (simp only [l_sig, if_true, if_false, Bool.false_eq_true, Bool.true_eq_false, reduceIte, reduceCtorEq]; done) | (simp only [l_sig, if_true, if_false, Bool.false_eq_true, Bool.true_eq_false, reduceIte, reduceCtorEq]; rfl) | (simp [l_sig, if_true, if_false, Bool.false_eq_true, Bool.true_eq_false, reduceIte, reduceCtorEq]; done) | (simp [bI, l_sig]; done)) rfl
    | succ k9 ih_16 =>
      intro i H locs ls hi hw hl
      have hi9 : i < v_ng := by omega
      refine lv_iload hx hb dX3_isSighted_16 (lv_at hl 6 rfl) ?_
      refine lv_iload hx hb dX3_isSighted_18 (lv_at hl 5 rfl) ?_
      refine lv_icmp_ge (tgt := 60) hx hb dX3_isSighted_20 (by decide) (fun q8 => absurd q8 (nI_ge (a := i) (b := v_ng) (by omega) (by omega))) (fun _ => ?_)
      refine lv_aload hx hb dX3_isSighted_23 (lv_at hl 4 rfl) ?_
      refine lv_iload hx hb dX3_isSighted_25 (lv_at hl 6 rfl) ?_
      refine k_qld (i := i) (y := P.2.2.2 i) (n := v_ng) hx hb hK hw 4 rfl (show i < v_ng from by omega) (show v_ng < 2 ^ 31 by omega) rfl dX3_isSighted_27 ?_
      refine lv_astore (lv' := [(7, .ref (P.2.2.2 i)), (0, .ref q), (1, .int (nI w)), (2, .int (nI s)), (3, .int (bI (l_sig (v_ss) (v_sw) w s i))), (4, .ref (P.1 4)), (5, .int (nI v_ng)), (6, .int (nI i))]) hx hb dX3_isSighted_28 hl (by decide) rfl (fun ls hl => ?_)
      refine lv_iload_n hx hb dX3_isSighted_30 rfl (lv_at hl 4 rfl) ?_
      refine lv_aload hx hb dX3_isSighted_31 (lv_at hl 0 rfl) ?_
      refine lv_iconst (v := 0) hx hb dX3_isSighted_33 (by decide) ?_
      refine k_ildP (i := 0) (v := nI (v_sw i)) hx hb hK hw (Pk_3 (i := i) (show i < v_ng from by omega)) (by decide) (by decide) rfl dX3_isSighted_34 ?_
      refine lv_iload_n hx hb dX3_isSighted_35 rfl (lv_at hl 2 rfl) ?_
      refine lv_icmp_ne (tgt := 51) hx hb dX3_isSighted_36 (by decide) (fun c_2 => ?_) (fun c_2 => ?_)
      · have c_2 : ¬ (nI (v_sw i) : Int32) = nI w := c_2
        refine lv_iconst (v := 0) hx hb dX3_isSighted_51 (by decide) ?_
        refine k_iorF hx hb dX3_isSighted_52 ?_
        refine lv_istore_n (lv' := [(3, .int (bI (l_sig (v_ss) (v_sw) w s i))), (7, .ref (P.2.2.2 i)), (0, .ref q), (1, .int (nI w)), (2, .int (nI s)), (4, .ref (P.1 4)), (5, .int (nI v_ng)), (6, .int (nI i))]) hx hb dX3_isSighted_53 rfl hl (by decide) rfl (fun ls hl => ?_)
        refine lv_iinc (v := nI (i + 1)) (lv' := [(6, .int (nI (i + 1))), (3, .int (bI (l_sig (v_ss) (v_sw) w s i))), (7, .ref (P.2.2.2 i)), (0, .ref q), (1, .int (nI w)), (2, .int (nI s)), (4, .ref (P.1 4)), (5, .int (nI v_ng))]) hx hb dX3_isSighted_54 hl (k := 7) rfl (nI_add i 1) (by decide) rfl (fun ls hl => ?_)
        refine lv_goto (tgt := 16) hx hb dX3_isSighted_57 (by decide) ?_
        exact ih_16 (i + 1) _ _ _ (by omega) hw (by rw [show (.int (bI (l_sig (v_ss) (v_sw) w s (i + 1))) : Value) = .int (bI (l_sig (v_ss) (v_sw) w s i)) from (by first | assumption | (simp only [l_sig, if_neg c_2, if_true, if_false, Bool.false_eq_true, Bool.true_eq_false, reduceIte, reduceCtorEq]; done) | (simp only [l_sig, if_neg c_2, if_true, if_false, Bool.false_eq_true, Bool.true_eq_false, reduceIte, reduceCtorEq]; rfl) | rfl | (simp [l_sig, if_neg c_2, if_true, if_false, Bool.false_eq_true, Bool.true_eq_false, reduceIte, reduceCtorEq]; done) | (simp [bI, l_sig, c_2]; done))]; exact lv_sub hl [3, 4, 5, 1, 6, 7, 0] rfl)
      · have c_2 : (nI (v_sw i) : Int32) = nI w := c_2
        refine lv_aload hx hb dX3_isSighted_39 (lv_at hl 0 rfl) ?_
        refine lv_iconst (v := 1) hx hb dX3_isSighted_41 (by decide) ?_
        refine k_ildP (i := 1) (v := nI (v_ss i)) hx hb hK hw (Pk_3 (i := i) (show i < v_ng from by omega)) (by decide) (by decide) rfl dX3_isSighted_42 ?_
        refine lv_iload_n hx hb dX3_isSighted_43 rfl (lv_at hl 3 rfl) ?_
        refine lv_icmp_ne (tgt := 51) hx hb dX3_isSighted_44 (by decide) (fun c_3 => ?_) (fun c_3 => ?_)
        · have c_3 : ¬ (nI (v_ss i) : Int32) = nI s := c_3
          refine lv_iconst (v := 0) hx hb dX3_isSighted_51 (by decide) ?_
          refine k_iorF hx hb dX3_isSighted_52 ?_
          refine lv_istore_n (lv' := [(3, .int (bI (l_sig (v_ss) (v_sw) w s i))), (7, .ref (P.2.2.2 i)), (0, .ref q), (1, .int (nI w)), (2, .int (nI s)), (4, .ref (P.1 4)), (5, .int (nI v_ng)), (6, .int (nI i))]) hx hb dX3_isSighted_53 rfl hl (by decide) rfl (fun ls hl => ?_)
          refine lv_iinc (v := nI (i + 1)) (lv' := [(6, .int (nI (i + 1))), (3, .int (bI (l_sig (v_ss) (v_sw) w s i))), (7, .ref (P.2.2.2 i)), (0, .ref q), (1, .int (nI w)), (2, .int (nI s)), (4, .ref (P.1 4)), (5, .int (nI v_ng))]) hx hb dX3_isSighted_54 hl (k := 7) rfl (nI_add i 1) (by decide) rfl (fun ls hl => ?_)
          refine lv_goto (tgt := 16) hx hb dX3_isSighted_57 (by decide) ?_
          exact ih_16 (i + 1) _ _ _ (by omega) hw (by rw [show (.int (bI (l_sig (v_ss) (v_sw) w s (i + 1))) : Value) = .int (bI (l_sig (v_ss) (v_sw) w s i)) from (by first | assumption | (simp only [l_sig, if_pos c_2, if_neg c_3, if_true, if_false, Bool.false_eq_true, Bool.true_eq_false, reduceIte, reduceCtorEq]; done) | (simp only [l_sig, if_pos c_2, if_neg c_3, if_true, if_false, Bool.false_eq_true, Bool.true_eq_false, reduceIte, reduceCtorEq]; rfl) | rfl | (simp [l_sig, if_pos c_2, if_neg c_3, if_true, if_false, Bool.false_eq_true, Bool.true_eq_false, reduceIte, reduceCtorEq]; done) | (simp [bI, l_sig, c_2, c_3]; done))]; exact lv_sub hl [3, 4, 5, 1, 6, 7, 0] rfl)
        · have c_3 : (nI (v_ss i) : Int32) = nI s := c_3
          refine lv_iconst (v := 1) hx hb dX3_isSighted_47 (by decide) ?_
          refine lv_goto (tgt := 52) hx hb dX3_isSighted_48 (by decide) ?_
          refine k_iorT hx hb dX3_isSighted_52 ?_
          refine lv_istore_n (lv' := [(3, .int (bI true)), (7, .ref (P.2.2.2 i)), (0, .ref q), (1, .int (nI w)), (2, .int (nI s)), (4, .ref (P.1 4)), (5, .int (nI v_ng)), (6, .int (nI i))]) hx hb dX3_isSighted_53 rfl hl (by decide) rfl (fun ls hl => ?_)
          refine lv_iinc (v := nI (i + 1)) (lv' := [(6, .int (nI (i + 1))), (3, .int (bI true)), (7, .ref (P.2.2.2 i)), (0, .ref q), (1, .int (nI w)), (2, .int (nI s)), (4, .ref (P.1 4)), (5, .int (nI v_ng))]) hx hb dX3_isSighted_54 hl (k := 7) rfl (nI_add i 1) (by decide) rfl (fun ls hl => ?_)
          refine lv_goto (tgt := 16) hx hb dX3_isSighted_57 (by decide) ?_
          exact ih_16 (i + 1) _ _ _ (by omega) hw (by rw [show (.int (bI (l_sig (v_ss) (v_sw) w s (i + 1))) : Value) = .int (bI true) from (by first | assumption | (simp only [l_sig, if_pos c_2, if_pos c_3, if_true, if_false, Bool.false_eq_true, Bool.true_eq_false, reduceIte, reduceCtorEq]; done) | (simp only [l_sig, if_pos c_2, if_pos c_3, if_true, if_false, Bool.false_eq_true, Bool.true_eq_false, reduceIte, reduceCtorEq]; rfl) | rfl | (simp [l_sig, if_pos c_2, if_pos c_3, if_true, if_false, Bool.false_eq_true, Bool.true_eq_false, reduceIte, reduceCtorEq]; done) | (simp [bI, l_sig, c_2, c_3]; done))]; exact lv_sub hl [3, 4, 5, 1, 6, 7, 0] rfl)
  exact L_16 (v_ng - 0) 0 _ _ _ (by omega) hw (lv_sub hl [4, 5, 6, 3, 2, 1, 0] rfl)
abbrev rm_X3_votes : Room := { frames := 0, cells := 0, slots := 0, locals := 0 }
set_option maxHeartbeats 4000000 in
set_option maxRecDepth 100000 in
theorem c_X3_votes (l : Launch) (E : Ev) (q : Nat) (P : AP) (v_ni v_wa v_un : Int32) (v_ns v_np v_nw v_ng : Nat) (v_ma v_st v_ou v_ru : Fn) (v_so : FnN) (v_mt v_vo v_gi v_ca v_tr : Fn) (v_sw v_ss : FnN) (v_sg : Fn) (s : Nat) (g : Bool) (hns : v_ns ≤ 5) (hnp : v_np ≤ 16) (hnw : v_nw ≤ 4) (hng : v_ng ≤ 20) (hso : ∀ p, p < v_np → v_so p < v_ns) (hsw : ∀ j, j < v_ng → v_sw j < v_nw) : MI l E yX3_votes wsX3_votes rm_X3_votes [.ref q, .int (nI s), .int (bI g)] (wS E q P (mkS v_ni v_wa v_un v_ns v_np v_nw v_ng v_ma v_st v_ou v_ru v_so v_mt v_vo v_gi v_ca v_tr v_sw v_ss v_sg)) (l_vot (v_so) (v_vo) (v_gi) s g (v_np)) (wS E q P (mkS v_ni v_wa v_un v_ns v_np v_nw v_ng v_ma v_st v_ou v_ru v_so v_mt v_vo v_gi v_ca v_tr v_sw v_ss v_sg)) := by
  refine k_bI (cc := cX3_votes) (maxL := 8) (ret := (some .int)) (by decide) rfl (Nat.le_of_ble_eq_true rfl) ?_
  intro p9 e s9 m args below meth c A9 ls hC hl hw
  obtain ⟨hx, hb, hml, hr, hown, hts, hlocks, hK, hG, hA⟩ := hC
  have hf15 := hts (.fieldLink RX3 15 "SailorCandlesLaw$Sim" "sailors" "[[I") (List.mem_of_getElem? (i := 1) rfl)
  have hinX3 : ∀ w ∈ wsX30, w ∈ wsX3_votes := fun w h => List.mem_cons_of_mem _ (List.mem_append_right _ h)
  have hl : lv_has ls 8 [(0, .ref q), (1, .int (nI s)), (2, .int (bI g))] := hl
  refine lv_iconst (v := 0) hx hb dX3_votes_0 (by decide) ?_
  refine lv_istore_n (lv' := [(3, .int 0), (0, .ref q), (1, .int (nI s)), (2, .int (bI g))]) hx hb dX3_votes_1 rfl hl (by decide) rfl (fun ls hl => ?_)
  refine lv_aload_n hx hb dX3_votes_2 rfl (lv_at hl 1 rfl) ?_
  refine k_get (ci := 3) (v := .ref (P.1 2)) (C := RX3) (T := TX3) (N := 7) hx hb hown hK hw hts hinX3 0 rfl rfl 4 (by decide) hf15 rfl dX3_votes_3 ?_
  refine lv_astore (lv' := [(4, .ref (P.1 2)), (3, .int 0), (0, .ref q), (1, .int (nI s)), (2, .int (bI g))]) hx hb dX3_votes_6 hl (by decide) rfl (fun ls hl => ?_)
  refine lv_aload hx hb dX3_votes_8 (lv_at hl 0 rfl) ?_
  refine k_lenQ (n := v_np) hx hb hK hw 2 rfl dX3_votes_10 ?_
  refine lv_istore (lv' := [(5, .int (nI v_np)), (4, .ref (P.1 2)), (3, .int 0), (0, .ref q), (1, .int (nI s)), (2, .int (bI g))]) hx hb dX3_votes_11 hl (by decide) rfl (fun ls hl => ?_)
  refine lv_iconst (v := 0) hx hb dX3_votes_13 (by decide) ?_
  refine lv_istore (lv' := [(6, .int 0), (5, .int (nI v_np)), (4, .ref (P.1 2)), (3, .int 0), (0, .ref q), (1, .int (nI s)), (2, .int (bI g))]) hx hb dX3_votes_14 hl (by decide) rfl (fun ls hl => ?_)
  have L_16 : ∀ (k9 i : Nat) (H : Heap) (locs : List Loc) (ls : Array Slot), i + k9 = v_np → Wd E A9 s9.heap (wS E q P (mkS v_ni v_wa v_un v_ns v_np v_nw v_ng v_ma v_st v_ou v_ru v_so v_mt v_vo v_gi v_ca v_tr v_sw v_ss v_sg)) H locs → lv_has ls 8 [(0, .ref q), (1, .int (nI s)), (2, .int (bI g)), (3, .int (l_vot (v_so) (v_vo) (v_gi) s g i)), (4, .ref (P.1 2)), (5, .int (nI v_np)), (6, .int (nI i))] → W p9 l e rm_X3_votes s9 m args below meth c H locs 0 0 (EndI E A9 (l_vot (v_so) (v_vo) (v_gi) s g (v_np)) (wS E q P (mkS v_ni v_wa v_un v_ns v_np v_nw v_ng v_ma v_st v_ou v_ru v_so v_mt v_vo v_gi v_ca v_tr v_sw v_ss v_sg)) below args s9 (rm_X3_votes).cells (rm_X3_votes).slots) (F0 m 16 ls []) := by
    intro k9
    induction k9 with
    | zero =>
      intro i H locs ls hi hw hl
      have hz_1 : v_np = i := by omega
      refine lv_iload hx hb dX3_votes_16 (lv_at hl 6 rfl) ?_
      refine lv_iload hx hb dX3_votes_18 (lv_at hl 5 rfl) ?_
      refine lv_icmp_ge (tgt := 67) hx hb dX3_votes_20 (by decide) (fun _ => ?_) (fun q8 => absurd (by rw [← hz_1]; exact Int32.le_refl _) q8)
      refine lv_iload_n hx hb dX3_votes_67 rfl (lv_at hl 3 rfl) ?_
      exact k_iret hx hb hr hlocks hK hw rfl dX3_votes_68 (by subst hz_1; first | rfl | assumption | (simp only [l_vot, if_true, if_false, Bool.false_eq_true, Bool.true_eq_false, reduceIte, reduceCtorEq]; done) | (simp only [l_vot, if_true, if_false, Bool.false_eq_true, Bool.true_eq_false, reduceIte, reduceCtorEq]; rfl) | (simp [l_vot, if_true, if_false, Bool.false_eq_true, Bool.true_eq_false, reduceIte, reduceCtorEq]; done) | (simp [bI, l_vot]; done)) rfl
    | succ k9 ih_16 =>
      intro i H locs ls hi hw hl
      have hi9 : i < v_np := by omega
      refine lv_iload hx hb dX3_votes_16 (lv_at hl 6 rfl) ?_
      refine lv_iload hx hb dX3_votes_18 (lv_at hl 5 rfl) ?_
      refine lv_icmp_ge (tgt := 67) hx hb dX3_votes_20 (by decide) (fun q8 => absurd q8 (nI_ge (a := i) (b := v_np) (by omega) (by omega))) (fun _ => ?_)
      refine lv_aload hx hb dX3_votes_23 (lv_at hl 4 rfl) ?_
      refine lv_iload hx hb dX3_votes_25 (lv_at hl 6 rfl) ?_
      refine k_qld (i := i) (y := P.2.2.1 i) (n := v_np) hx hb hK hw 2 rfl (show i < v_np from by omega) (show v_np < 2 ^ 31 by omega) rfl dX3_votes_27 ?_
      refine lv_astore (lv' := [(7, .ref (P.2.2.1 i)), (0, .ref q), (1, .int (nI s)), (2, .int (bI g)), (3, .int (l_vot (v_so) (v_vo) (v_gi) s g i)), (4, .ref (P.1 2)), (5, .int (nI v_np)), (6, .int (nI i))]) hx hb dX3_votes_28 hl (by decide) rfl (fun ls hl => ?_)
      refine lv_aload hx hb dX3_votes_30 (lv_at hl 0 rfl) ?_
      refine lv_iconst (v := 0) hx hb dX3_votes_32 (by decide) ?_
      refine k_ildP (i := 0) (v := nI (v_so i)) hx hb hK hw (Pk_5 (i := i) (show i < v_np from by omega)) (by decide) (by decide) rfl dX3_votes_33 ?_
      refine lv_iload_n hx hb dX3_votes_34 rfl (lv_at hl 2 rfl) ?_
      refine lv_icmp_ne (tgt := 61) hx hb dX3_votes_35 (by decide) (fun c_2 => ?_) (fun c_2 => ?_)
      · have c_2 : ¬ (nI (v_so i) : Int32) = nI s := c_2
        refine lv_iinc (v := nI (i + 1)) (lv' := [(6, .int (nI (i + 1))), (7, .ref (P.2.2.1 i)), (0, .ref q), (1, .int (nI s)), (2, .int (bI g)), (3, .int (l_vot (v_so) (v_vo) (v_gi) s g i)), (4, .ref (P.1 2)), (5, .int (nI v_np))]) hx hb dX3_votes_61 hl (k := 7) rfl (nI_add i 1) (by decide) rfl (fun ls hl => ?_)
        refine lv_goto (tgt := 16) hx hb dX3_votes_64 (by decide) ?_
        exact ih_16 (i + 1) _ _ _ (by omega) hw (by rw [show (.int (l_vot (v_so) (v_vo) (v_gi) s g (i + 1)) : Value) = .int (l_vot (v_so) (v_vo) (v_gi) s g i) from (by first | assumption | (simp only [l_vot, if_neg c_2, if_true, if_false, Bool.false_eq_true, Bool.true_eq_false, reduceIte, reduceCtorEq]; done) | (simp only [l_vot, if_neg c_2, if_true, if_false, Bool.false_eq_true, Bool.true_eq_false, reduceIte, reduceCtorEq]; rfl) | rfl | (simp [l_vot, if_neg c_2, if_true, if_false, Bool.false_eq_true, Bool.true_eq_false, reduceIte, reduceCtorEq]; done) | (simp [bI, l_vot, c_2]; done))]; exact lv_sub hl [2, 3, 4, 5, 6, 7, 0] rfl)
      · have c_2 : (nI (v_so i) : Int32) = nI s := c_2
        refine lv_aload hx hb dX3_votes_38 (lv_at hl 0 rfl) ?_
        refine lv_iconst (v := 2) hx hb dX3_votes_40 (by decide) ?_
        refine k_ildP (i := 2) (v := v_vo i) hx hb hK hw (Pk_5 (i := i) (show i < v_np from by omega)) (by decide) (by decide) rfl dX3_votes_41 ?_
        refine lv_iconst (v := 1) hx hb dX3_votes_42 (by decide) ?_
        refine lv_icmp_ne (tgt := 61) hx hb dX3_votes_43 (by decide) (fun c_3 => ?_) (fun c_3 => ?_)
        · have c_3 : ¬ (v_vo i : Int32) = 1 := c_3
          refine lv_iinc (v := nI (i + 1)) (lv' := [(6, .int (nI (i + 1))), (7, .ref (P.2.2.1 i)), (0, .ref q), (1, .int (nI s)), (2, .int (bI g)), (3, .int (l_vot (v_so) (v_vo) (v_gi) s g i)), (4, .ref (P.1 2)), (5, .int (nI v_np))]) hx hb dX3_votes_61 hl (k := 7) rfl (nI_add i 1) (by decide) rfl (fun ls hl => ?_)
          refine lv_goto (tgt := 16) hx hb dX3_votes_64 (by decide) ?_
          exact ih_16 (i + 1) _ _ _ (by omega) hw (by rw [show (.int (l_vot (v_so) (v_vo) (v_gi) s g (i + 1)) : Value) = .int (l_vot (v_so) (v_vo) (v_gi) s g i) from (by first | assumption | (simp only [l_vot, if_pos c_2, if_neg c_3, if_true, if_false, Bool.false_eq_true, Bool.true_eq_false, reduceIte, reduceCtorEq]; done) | (simp only [l_vot, if_pos c_2, if_neg c_3, if_true, if_false, Bool.false_eq_true, Bool.true_eq_false, reduceIte, reduceCtorEq]; rfl) | rfl | (simp [l_vot, if_pos c_2, if_neg c_3, if_true, if_false, Bool.false_eq_true, Bool.true_eq_false, reduceIte, reduceCtorEq]; done) | (simp [bI, l_vot, c_2, c_3]; done))]; exact lv_sub hl [2, 3, 4, 5, 6, 7, 0] rfl)
        · have c_3 : (v_vo i : Int32) = 1 := c_3
          refine lv_aload hx hb dX3_votes_46 (lv_at hl 0 rfl) ?_
          refine lv_iconst (v := 3) hx hb dX3_votes_48 (by decide) ?_
          refine k_ildP (i := 3) (v := v_gi i) hx hb hK hw (Pk_5 (i := i) (show i < v_np from by omega)) (by decide) (by decide) rfl dX3_votes_49 ?_
          refine lv_iconst (v := 1) hx hb dX3_votes_50 (by decide) ?_
          refine lv_icmp_eq (tgt := 58) hx hb dX3_votes_51 (by decide) (fun c_4 => ?_) (fun c_4 => ?_)
          · have c_4 : (v_gi i : Int32) = 1 := c_4
            refine lv_iinc (v := (l_vot (v_so) (v_vo) (v_gi) s g i) + 1) (lv' := [(3, .int ((l_vot (v_so) (v_vo) (v_gi) s g i) + 1)), (7, .ref (P.2.2.1 i)), (0, .ref q), (1, .int (nI s)), (2, .int (bI g)), (4, .ref (P.1 2)), (5, .int (nI v_np)), (6, .int (nI i))]) hx hb dX3_votes_58 hl (k := 4) rfl rfl (by decide) rfl (fun ls hl => ?_)
            refine lv_iinc (v := nI (i + 1)) (lv' := [(6, .int (nI (i + 1))), (3, .int ((l_vot (v_so) (v_vo) (v_gi) s g i) + 1)), (7, .ref (P.2.2.1 i)), (0, .ref q), (1, .int (nI s)), (2, .int (bI g)), (4, .ref (P.1 2)), (5, .int (nI v_np))]) hx hb dX3_votes_61 hl (k := 7) rfl (nI_add i 1) (by decide) rfl (fun ls hl => ?_)
            refine lv_goto (tgt := 16) hx hb dX3_votes_64 (by decide) ?_
            exact ih_16 (i + 1) _ _ _ (by omega) hw (by rw [show (.int (l_vot (v_so) (v_vo) (v_gi) s g (i + 1)) : Value) = .int ((l_vot (v_so) (v_vo) (v_gi) s g i) + 1) from (by first | assumption | (simp only [l_vot, if_pos c_2, if_pos c_3, if_pos c_4, if_true, if_false, Bool.false_eq_true, Bool.true_eq_false, reduceIte, reduceCtorEq]; done) | (simp only [l_vot, if_pos c_2, if_pos c_3, if_pos c_4, if_true, if_false, Bool.false_eq_true, Bool.true_eq_false, reduceIte, reduceCtorEq]; rfl) | rfl | (simp [l_vot, if_pos c_2, if_pos c_3, if_pos c_4, if_true, if_false, Bool.false_eq_true, Bool.true_eq_false, reduceIte, reduceCtorEq]; done) | (simp [bI, l_vot, c_2, c_3, c_4]; done))]; exact lv_sub hl [3, 4, 5, 1, 6, 7, 0] rfl)
          · have c_4 : ¬ (v_gi i : Int32) = 1 := c_4
            refine lv_iload_n hx hb dX3_votes_54 rfl (lv_at hl 3 rfl) ?_
            refine lv_if_ne (tgt := 61) hx hb dX3_votes_55 (by decide) (fun c_5 => ?_) (fun c_5 => ?_)
            · have c_5 : g = true := bI_nz c_5
              refine lv_iinc (v := nI (i + 1)) (lv' := [(6, .int (nI (i + 1))), (7, .ref (P.2.2.1 i)), (0, .ref q), (1, .int (nI s)), (2, .int (bI g)), (3, .int (l_vot (v_so) (v_vo) (v_gi) s g i)), (4, .ref (P.1 2)), (5, .int (nI v_np))]) hx hb dX3_votes_61 hl (k := 7) rfl (nI_add i 1) (by decide) rfl (fun ls hl => ?_)
              refine lv_goto (tgt := 16) hx hb dX3_votes_64 (by decide) ?_
              exact ih_16 (i + 1) _ _ _ (by omega) hw (by rw [show (.int (l_vot (v_so) (v_vo) (v_gi) s g (i + 1)) : Value) = .int (l_vot (v_so) (v_vo) (v_gi) s g i) from (by first | assumption | (simp only [l_vot, if_pos c_2, if_pos c_3, if_neg c_4, c_5, if_true, if_false, Bool.false_eq_true, Bool.true_eq_false, reduceIte, reduceCtorEq]; done) | (simp only [l_vot, if_pos c_2, if_pos c_3, if_neg c_4, c_5, if_true, if_false, Bool.false_eq_true, Bool.true_eq_false, reduceIte, reduceCtorEq]; rfl) | rfl | (simp [l_vot, if_pos c_2, if_pos c_3, if_neg c_4, c_5, if_true, if_false, Bool.false_eq_true, Bool.true_eq_false, reduceIte, reduceCtorEq]; done) | (simp [bI, l_vot, c_2, c_3, c_4, c_5]; done))]; exact lv_sub hl [2, 3, 4, 5, 6, 7, 0] rfl)
            · have c_5 : g = false := bI_z c_5
              refine lv_iinc (v := (l_vot (v_so) (v_vo) (v_gi) s g i) + 1) (lv' := [(3, .int ((l_vot (v_so) (v_vo) (v_gi) s g i) + 1)), (7, .ref (P.2.2.1 i)), (0, .ref q), (1, .int (nI s)), (2, .int (bI g)), (4, .ref (P.1 2)), (5, .int (nI v_np)), (6, .int (nI i))]) hx hb dX3_votes_58 hl (k := 4) rfl rfl (by decide) rfl (fun ls hl => ?_)
              refine lv_iinc (v := nI (i + 1)) (lv' := [(6, .int (nI (i + 1))), (3, .int ((l_vot (v_so) (v_vo) (v_gi) s g i) + 1)), (7, .ref (P.2.2.1 i)), (0, .ref q), (1, .int (nI s)), (2, .int (bI g)), (4, .ref (P.1 2)), (5, .int (nI v_np))]) hx hb dX3_votes_61 hl (k := 7) rfl (nI_add i 1) (by decide) rfl (fun ls hl => ?_)
              refine lv_goto (tgt := 16) hx hb dX3_votes_64 (by decide) ?_
              exact ih_16 (i + 1) _ _ _ (by omega) hw (by rw [show (.int (l_vot (v_so) (v_vo) (v_gi) s g (i + 1)) : Value) = .int ((l_vot (v_so) (v_vo) (v_gi) s g i) + 1) from (by first | assumption | (simp only [l_vot, if_pos c_2, if_pos c_3, if_neg c_4, c_5, if_true, if_false, Bool.false_eq_true, Bool.true_eq_false, reduceIte, reduceCtorEq]; done) | (simp only [l_vot, if_pos c_2, if_pos c_3, if_neg c_4, c_5, if_true, if_false, Bool.false_eq_true, Bool.true_eq_false, reduceIte, reduceCtorEq]; rfl) | rfl | (simp [l_vot, if_pos c_2, if_pos c_3, if_neg c_4, c_5, if_true, if_false, Bool.false_eq_true, Bool.true_eq_false, reduceIte, reduceCtorEq]; done) | (simp [bI, l_vot, c_2, c_3, c_4, c_5]; done))]; exact lv_sub hl [3, 4, 5, 1, 6, 7, 0] rfl)
  exact L_16 (v_np - 0) 0 _ _ _ (by omega) hw (lv_sub hl [4, 5, 6, 3, 2, 1, 0] rfl)
abbrev rm_X3_isDark : Room := { frames := 0, cells := 0, slots := 0, locals := 0 }
set_option maxHeartbeats 4000000 in
set_option maxRecDepth 100000 in
theorem c_X3_isDark (l : Launch) (E : Ev) (q : Nat) (P : AP) (v_ni v_wa v_un : Int32) (v_ns v_np v_nw v_ng : Nat) (v_ma v_st v_ou v_ru : Fn) (v_so : FnN) (v_mt v_vo v_gi v_ca v_tr : Fn) (v_sw v_ss : FnN) (v_sg : Fn) (p : Nat) (hns : v_ns ≤ 5) (hnp : v_np ≤ 16) (hnw : v_nw ≤ 4) (hng : v_ng ≤ 20) (hso : ∀ p, p < v_np → v_so p < v_ns) (hsw : ∀ j, j < v_ng → v_sw j < v_nw) (hp : p < v_np) : MI l E yX3_isDark wsX3_isDark rm_X3_isDark [.ref q, .ref (P.2.2.1 p)] (wS E q P (mkS v_ni v_wa v_un v_ns v_np v_nw v_ng v_ma v_st v_ou v_ru v_so v_mt v_vo v_gi v_ca v_tr v_sw v_ss v_sg)) (bI (f_sdark (v_st) (v_so) (v_ca) p)) (wS E q P (mkS v_ni v_wa v_un v_ns v_np v_nw v_ng v_ma v_st v_ou v_ru v_so v_mt v_vo v_gi v_ca v_tr v_sw v_ss v_sg)) := by
  refine k_bI (cc := cX3_isDark) (maxL := 2) (ret := (some .boolean)) (by decide) rfl (Nat.le_of_ble_eq_true rfl) ?_
  intro p9 e s9 m args below meth c A9 ls hC hl hw
  obtain ⟨hx, hb, hml, hr, hown, hts, hlocks, hK, hG, hA⟩ := hC
  have hf9 := hts (.fieldLink RX3 9 "SailorCandlesLaw$Sim" "ships" "[[I") (List.mem_of_getElem? (i := 1) rfl)
  have hinX3 : ∀ w ∈ wsX30, w ∈ wsX3_isDark := fun w h => List.mem_cons_of_mem _ (List.mem_append_right _ h)
  have hl : lv_has ls 2 [(0, .ref q), (1, .ref (P.2.2.1 p))] := hl
  refine lv_aload_n hx hb dX3_isDark_0 rfl (lv_at hl 0 rfl) ?_
  refine k_get (ci := 3) (v := .ref (P.1 1)) (C := RX3) (T := TX3) (N := 7) hx hb hown hK hw hts hinX3 0 rfl rfl 3 (by decide) hf9 rfl dX3_isDark_1 ?_
  refine lv_aload_n hx hb dX3_isDark_4 rfl (lv_at hl 1 rfl) ?_
  refine lv_iconst (v := 0) hx hb dX3_isDark_5 (by decide) ?_
  refine k_ildP (i := 0) (v := nI (v_so p)) hx hb hK hw (Pk_5 (i := p) (show p < v_np from by omega)) (by decide) (by decide) rfl dX3_isDark_6 ?_
  refine k_qld (i := v_so p) (y := P.2.1 (v_so p)) (n := v_ns) hx hb hK hw 1 rfl (show v_so p < v_ns from by have := hso p (by omega); omega) (show v_ns < 2 ^ 31 by omega) rfl dX3_isDark_7 ?_
  refine lv_iconst (v := 1) hx hb dX3_isDark_8 (by decide) ?_
  refine k_ildP (i := 1) (v := v_st (v_so p)) hx hb hK hw (Pk_4 (i := v_so p) (show v_so p < v_ns from by have := hso p (by omega); omega)) (by decide) (by decide) rfl dX3_isDark_9 ?_
  refine lv_iconst (v := 1) hx hb dX3_isDark_10 (by decide) ?_
  refine lv_icmp_ne (tgt := 24) hx hb dX3_isDark_11 (by decide) (fun c_1 => ?_) (fun c_1 => ?_)
  · have c_1 : ¬ (v_st (v_so p) : Int32) = 1 := c_1
    refine lv_iconst (v := 0) hx hb dX3_isDark_24 (by decide) ?_
    exact k_iret hx hb hr hlocks hK hw rfl dX3_isDark_25 (by first | assumption | (simp only [f_sdark, bI_t, bI_f, if_neg c_1, if_true, if_false, Bool.false_eq_true, Bool.true_eq_false, reduceIte, reduceCtorEq]; done) | (simp only [f_sdark, bI_t, bI_f, if_neg c_1, if_true, if_false, Bool.false_eq_true, Bool.true_eq_false, reduceIte, reduceCtorEq]; rfl) | rfl | (simp [f_sdark, bI_t, bI_f, if_neg c_1, if_true, if_false, Bool.false_eq_true, Bool.true_eq_false, reduceIte, reduceCtorEq]; done) | (simp [bI, f_sdark, bI_t, bI_f, c_1]; done)) rfl
  · have c_1 : (v_st (v_so p) : Int32) = 1 := c_1
    refine lv_aload_n hx hb dX3_isDark_14 rfl (lv_at hl 1 rfl) ?_
    refine lv_iconst (v := 4) hx hb dX3_isDark_15 (by decide) ?_
    refine k_ildP (i := 4) (v := v_ca p) hx hb hK hw (Pk_5 (i := p) (show p < v_np from by omega)) (by decide) (by decide) rfl dX3_isDark_16 ?_
    refine lv_if_ne (tgt := 24) hx hb dX3_isDark_17 (by decide) (fun c_2 => ?_) (fun c_2 => ?_)
    · have c_2 : ¬ (v_ca p : Int32) = 0 := c_2
      refine lv_iconst (v := 0) hx hb dX3_isDark_24 (by decide) ?_
      exact k_iret hx hb hr hlocks hK hw rfl dX3_isDark_25 (by first | assumption | (simp only [f_sdark, bI_t, bI_f, if_pos c_1, if_neg c_2, if_true, if_false, Bool.false_eq_true, Bool.true_eq_false, reduceIte, reduceCtorEq]; done) | (simp only [f_sdark, bI_t, bI_f, if_pos c_1, if_neg c_2, if_true, if_false, Bool.false_eq_true, Bool.true_eq_false, reduceIte, reduceCtorEq]; rfl) | rfl | (simp [f_sdark, bI_t, bI_f, if_pos c_1, if_neg c_2, if_true, if_false, Bool.false_eq_true, Bool.true_eq_false, reduceIte, reduceCtorEq]; done) | (simp [bI, f_sdark, bI_t, bI_f, c_1, c_2]; done)) rfl
    · have c_2 : (v_ca p : Int32) = 0 := c_2
      refine lv_iconst (v := 1) hx hb dX3_isDark_20 (by decide) ?_
      refine lv_goto (tgt := 25) hx hb dX3_isDark_21 (by decide) ?_
      exact k_iret hx hb hr hlocks hK hw rfl dX3_isDark_25 (by first | assumption | (simp only [f_sdark, bI_t, bI_f, if_pos c_1, if_pos c_2, if_true, if_false, Bool.false_eq_true, Bool.true_eq_false, reduceIte, reduceCtorEq]; done) | (simp only [f_sdark, bI_t, bI_f, if_pos c_1, if_pos c_2, if_true, if_false, Bool.false_eq_true, Bool.true_eq_false, reduceIte, reduceCtorEq]; rfl) | rfl | (simp [f_sdark, bI_t, bI_f, if_pos c_1, if_pos c_2, if_true, if_false, Bool.false_eq_true, Bool.true_eq_false, reduceIte, reduceCtorEq]; done) | (simp [bI, f_sdark, bI_t, bI_f, c_1, c_2]; done)) rfl
abbrev rm_X3_dark : Room := { frames := 1, cells := 0, slots := 0, locals := 21 }
set_option maxHeartbeats 4000000 in
set_option maxRecDepth 100000 in
theorem c_X3_dark (l : Launch) (E : Ev) (q : Nat) (P : AP) (v_ni v_wa v_un : Int32) (v_ns v_np v_nw v_ng : Nat) (v_ma v_st v_ou v_ru : Fn) (v_so : FnN) (v_mt v_vo v_gi v_ca v_tr : Fn) (v_sw v_ss : FnN) (v_sg : Fn) (hns : v_ns ≤ 5) (hnp : v_np ≤ 16) (hnw : v_nw ≤ 4) (hng : v_ng ≤ 20) (hso : ∀ p, p < v_np → v_so p < v_ns) (hsw : ∀ j, j < v_ng → v_sw j < v_nw) : MI l E yX3_dark wsX3_dark rm_X3_dark [.ref q] (wS E q P (mkS v_ni v_wa v_un v_ns v_np v_nw v_ng v_ma v_st v_ou v_ru v_so v_mt v_vo v_gi v_ca v_tr v_sw v_ss v_sg)) (l_sdk (v_st) (v_so) (v_ca) (v_np)) (wS E q P (mkS v_ni v_wa v_un v_ns v_np v_nw v_ng v_ma v_st v_ou v_ru v_so v_mt v_vo v_gi v_ca v_tr v_sw v_ss v_sg)) := by
  refine k_bI (cc := cX3_dark) (maxL := 6) (ret := (some .int)) (by decide) rfl (Nat.le_of_ble_eq_true rfl) ?_
  intro p9 e s9 m args below meth c A9 ls hC hl hw
  obtain ⟨hx, hb, hml, hr, hown, hts, hlocks, hK, hG, hA⟩ := hC
  have hf15 := hts (.fieldLink RX3 15 "SailorCandlesLaw$Sim" "sailors" "[[I") (List.mem_of_getElem? (i := 1) rfl)
  have hinX3 : ∀ w ∈ wsX30, w ∈ wsX3_dark := fun w h => List.mem_cons_of_mem _ (List.mem_append_right _ h)
  have hl : lv_has ls 6 [(0, .ref q)] := hl
  refine lv_iconst (v := 0) hx hb dX3_dark_0 (by decide) ?_
  refine lv_istore_n (lv' := [(1, .int 0), (0, .ref q)]) hx hb dX3_dark_1 rfl hl (by decide) rfl (fun ls hl => ?_)
  refine lv_aload_n hx hb dX3_dark_2 rfl (lv_at hl 1 rfl) ?_
  refine k_get (ci := 3) (v := .ref (P.1 2)) (C := RX3) (T := TX3) (N := 7) hx hb hown hK hw hts hinX3 0 rfl rfl 4 (by decide) hf15 rfl dX3_dark_3 ?_
  refine lv_astore_n (lv' := [(2, .ref (P.1 2)), (1, .int 0), (0, .ref q)]) hx hb dX3_dark_6 rfl hl (by decide) rfl (fun ls hl => ?_)
  refine lv_aload_n hx hb dX3_dark_7 rfl (lv_at hl 0 rfl) ?_
  refine k_lenQ (n := v_np) hx hb hK hw 2 rfl dX3_dark_8 ?_
  refine lv_istore_n (lv' := [(3, .int (nI v_np)), (2, .ref (P.1 2)), (1, .int 0), (0, .ref q)]) hx hb dX3_dark_9 rfl hl (by decide) rfl (fun ls hl => ?_)
  refine lv_iconst (v := 0) hx hb dX3_dark_10 (by decide) ?_
  refine lv_istore (lv' := [(4, .int 0), (3, .int (nI v_np)), (2, .ref (P.1 2)), (1, .int 0), (0, .ref q)]) hx hb dX3_dark_11 hl (by decide) rfl (fun ls hl => ?_)
  have L_13 : ∀ (k9 i : Nat) (H : Heap) (locs : List Loc) (ls : Array Slot), i + k9 = v_np → Wd E A9 s9.heap (wS E q P (mkS v_ni v_wa v_un v_ns v_np v_nw v_ng v_ma v_st v_ou v_ru v_so v_mt v_vo v_gi v_ca v_tr v_sw v_ss v_sg)) H locs → lv_has ls 6 [(0, .ref q), (1, .int (l_sdk (v_st) (v_so) (v_ca) i)), (2, .ref (P.1 2)), (3, .int (nI v_np)), (4, .int (nI i))] → W p9 l e rm_X3_dark s9 m args below meth c H locs 0 0 (EndI E A9 (l_sdk (v_st) (v_so) (v_ca) (v_np)) (wS E q P (mkS v_ni v_wa v_un v_ns v_np v_nw v_ng v_ma v_st v_ou v_ru v_so v_mt v_vo v_gi v_ca v_tr v_sw v_ss v_sg)) below args s9 (rm_X3_dark).cells (rm_X3_dark).slots) (F0 m 13 ls []) := by
    intro k9
    induction k9 with
    | zero =>
      intro i H locs ls hi hw hl
      have hz_1 : v_np = i := by omega
      refine lv_iload hx hb dX3_dark_13 (lv_at hl 4 rfl) ?_
      refine lv_iload_n hx hb dX3_dark_15 rfl (lv_at hl 3 rfl) ?_
      refine lv_icmp_ge (tgt := 48) hx hb dX3_dark_16 (by decide) (fun _ => ?_) (fun q8 => absurd (by rw [← hz_1]; exact Int32.le_refl _) q8)
      refine lv_iload_n hx hb dX3_dark_48 rfl (lv_at hl 1 rfl) ?_
      exact k_iret hx hb hr hlocks hK hw rfl dX3_dark_49 (by subst hz_1; first | rfl | assumption | (simp only [l_sdk, if_true, if_false, Bool.false_eq_true, Bool.true_eq_false, reduceIte, reduceCtorEq]; done) | (simp only [l_sdk, if_true, if_false, Bool.false_eq_true, Bool.true_eq_false, reduceIte, reduceCtorEq]; rfl) | (simp [l_sdk, if_true, if_false, Bool.false_eq_true, Bool.true_eq_false, reduceIte, reduceCtorEq]; done) | (simp [bI, l_sdk]; done)) rfl
    | succ k9 ih_13 =>
      intro i H locs ls hi hw hl
      have hi9 : i < v_np := by omega
      refine lv_iload hx hb dX3_dark_13 (lv_at hl 4 rfl) ?_
      refine lv_iload_n hx hb dX3_dark_15 rfl (lv_at hl 3 rfl) ?_
      refine lv_icmp_ge (tgt := 48) hx hb dX3_dark_16 (by decide) (fun q8 => absurd q8 (nI_ge (a := i) (b := v_np) (by omega) (by omega))) (fun _ => ?_)
      refine lv_aload_n hx hb dX3_dark_19 rfl (lv_at hl 2 rfl) ?_
      refine lv_iload hx hb dX3_dark_20 (lv_at hl 4 rfl) ?_
      refine k_qld (i := i) (y := P.2.2.1 i) (n := v_np) hx hb hK hw 2 rfl (show i < v_np from by omega) (show v_np < 2 ^ 31 by omega) rfl dX3_dark_22 ?_
      refine lv_astore (lv' := [(5, .ref (P.2.2.1 i)), (0, .ref q), (1, .int (l_sdk (v_st) (v_so) (v_ca) i)), (2, .ref (P.1 2)), (3, .int (nI v_np)), (4, .int (nI i))]) hx hb dX3_dark_23 hl (by decide) rfl (fun ls hl => ?_)
      refine lv_iload_n hx hb dX3_dark_25 rfl (lv_at hl 2 rfl) ?_
      refine lv_aload_n hx hb dX3_dark_26 rfl (lv_at hl 1 rfl) ?_
      refine lv_aload hx hb dX3_dark_27 (lv_at hl 0 rfl) ?_
      refine kr_i (ws' := wS E q P (mkS v_ni v_wa v_un v_ns v_np v_nw v_ng v_ma v_st v_ou v_ru v_so v_mt v_vo v_gi v_ca v_tr v_sw v_ss v_sg)) (va_runV (As := [.ref (P.2.2.1 i)]) (rest := [.int (l_sdk (v_st) (v_so) (v_ca) i)]) ⟨hx, hb, hml, hown, hts⟩ (c_X3_isDark l E q P v_ni v_wa v_un v_ns v_np v_nw v_ng v_ma v_st v_ou v_ru v_so v_mt v_vo v_gi v_ca v_tr v_sw v_ss v_sg i hns hnp hnw hng hso hsw (by omega) _) (cwV 1 hts gX3_dark_X3_isDark rfl rfl rfl ⟨rfl, hd_X3_isDark⟩ ⟨Nat.le_of_ble_eq_true rfl, Nat.le_of_ble_eq_true rfl⟩) (pwV (ci := 3) (q0 := 0) (C := RX3) hw hK rfl rfl rfl (rpS (AV := [.ref q, .ref (P.2.2.1 i)]) hw hK hG rp_73)) rfl rfl hl.1 rfl (lv_room (Nat.le_of_ble_eq_true rfl)) dX3_dark_29 ⟨Nat.le_of_ble_eq_true rfl, Nat.le_of_ble_eq_true rfl⟩) hw hA rp_73 (fun H locs hw => ?_)
      refine lv_if_eq (tgt := 39) hx hb dX3_dark_32 (by decide) (fun c_2 => ?_) (fun c_2 => ?_)
      · have c_2 : f_sdark (v_st) (v_so) (v_ca) i = false := bI_z c_2
        refine lv_iconst (v := 0) hx hb dX3_dark_39 (by decide) ?_
        refine lv_iadd hx hb dX3_dark_40 ?_
        refine lv_istore_n (lv' := [(1, .int ((l_sdk (v_st) (v_so) (v_ca) i) + 0)), (5, .ref (P.2.2.1 i)), (0, .ref q), (2, .ref (P.1 2)), (3, .int (nI v_np)), (4, .int (nI i))]) hx hb dX3_dark_41 rfl hl (by decide) rfl (fun ls hl => ?_)
        refine lv_iinc (v := nI (i + 1)) (lv' := [(4, .int (nI (i + 1))), (1, .int ((l_sdk (v_st) (v_so) (v_ca) i) + 0)), (5, .ref (P.2.2.1 i)), (0, .ref q), (2, .ref (P.1 2)), (3, .int (nI v_np))]) hx hb dX3_dark_42 hl (k := 5) rfl (nI_add i 1) (by decide) rfl (fun ls hl => ?_)
        refine lv_goto (tgt := 13) hx hb dX3_dark_45 (by decide) ?_
        exact ih_13 (i + 1) _ _ _ (by omega) hw (by rw [show (.int (l_sdk (v_st) (v_so) (v_ca) (i + 1)) : Value) = .int ((l_sdk (v_st) (v_so) (v_ca) i) + 0) from (by first | assumption | (simp only [l_sdk, c_2, if_true, if_false, Bool.false_eq_true, Bool.true_eq_false, reduceIte, reduceCtorEq]; done) | (simp only [l_sdk, c_2, if_true, if_false, Bool.false_eq_true, Bool.true_eq_false, reduceIte, reduceCtorEq]; rfl) | rfl | (simp [l_sdk, c_2, if_true, if_false, Bool.false_eq_true, Bool.true_eq_false, reduceIte, reduceCtorEq]; done) | (simp [bI, l_sdk, c_2]; done))]; exact lv_sub hl [3, 1, 4, 5, 0] rfl)
      · have c_2 : f_sdark (v_st) (v_so) (v_ca) i = true := bI_nz c_2
        refine lv_iconst (v := 1) hx hb dX3_dark_35 (by decide) ?_
        refine lv_goto (tgt := 40) hx hb dX3_dark_36 (by decide) ?_
        refine lv_iadd hx hb dX3_dark_40 ?_
        refine lv_istore_n (lv' := [(1, .int ((l_sdk (v_st) (v_so) (v_ca) i) + 1)), (5, .ref (P.2.2.1 i)), (0, .ref q), (2, .ref (P.1 2)), (3, .int (nI v_np)), (4, .int (nI i))]) hx hb dX3_dark_41 rfl hl (by decide) rfl (fun ls hl => ?_)
        refine lv_iinc (v := nI (i + 1)) (lv' := [(4, .int (nI (i + 1))), (1, .int ((l_sdk (v_st) (v_so) (v_ca) i) + 1)), (5, .ref (P.2.2.1 i)), (0, .ref q), (2, .ref (P.1 2)), (3, .int (nI v_np))]) hx hb dX3_dark_42 hl (k := 5) rfl (nI_add i 1) (by decide) rfl (fun ls hl => ?_)
        refine lv_goto (tgt := 13) hx hb dX3_dark_45 (by decide) ?_
        exact ih_13 (i + 1) _ _ _ (by omega) hw (by rw [show (.int (l_sdk (v_st) (v_so) (v_ca) (i + 1)) : Value) = .int ((l_sdk (v_st) (v_so) (v_ca) i) + 1) from (by first | assumption | (simp only [l_sdk, c_2, if_true, if_false, Bool.false_eq_true, Bool.true_eq_false, reduceIte, reduceCtorEq]; done) | (simp only [l_sdk, c_2, if_true, if_false, Bool.false_eq_true, Bool.true_eq_false, reduceIte, reduceCtorEq]; rfl) | rfl | (simp [l_sdk, c_2, if_true, if_false, Bool.false_eq_true, Bool.true_eq_false, reduceIte, reduceCtorEq]; done) | (simp [bI, l_sdk, c_2]; done))]; exact lv_sub hl [3, 1, 4, 5, 0] rfl)
  exact L_13 (v_np - 0) 0 _ _ _ (by omega) hw (lv_sub hl [4, 3, 2, 1, 0] rfl)
abbrev rm_X3_light : Room := { frames := 0, cells := 0, slots := 0, locals := 0 }
set_option maxHeartbeats 4000000 in
set_option maxRecDepth 100000 in
theorem c_X3_light (l : Launch) (E : Ev) (q : Nat) (P : AP) (v_ni v_wa v_un : Int32) (v_ns v_np v_nw v_ng : Nat) (v_ma v_st v_ou v_ru : Fn) (v_so : FnN) (v_mt v_vo v_gi v_ca v_tr : Fn) (v_sw v_ss : FnN) (v_sg : Fn) (p : Nat) (hns : v_ns ≤ 5) (hnp : v_np ≤ 16) (hnw : v_nw ≤ 4) (hng : v_ng ≤ 20) (hso : ∀ p, p < v_np → v_so p < v_ns) (hsw : ∀ j, j < v_ng → v_sw j < v_nw) (hp : p < v_np) : MI l E yX3_light wsX3_light rm_X3_light [.ref q, .ref (P.2.2.1 p)] (wS E q P (mkS v_ni v_wa v_un v_ns v_np v_nw v_ng v_ma v_st v_ou v_ru v_so v_mt v_vo v_gi v_ca v_tr v_sw v_ss v_sg)) (bI (f_lB (v_wa))) (wS E q P (mkS v_ni (f_lwa (v_wa)) v_un v_ns v_np v_nw v_ng v_ma v_st v_ou v_ru v_so v_mt v_vo v_gi (f_lca (v_ca) (v_wa) p) v_tr v_sw v_ss v_sg)) := by
  refine k_bI (cc := cX3_light) (maxL := 2) (ret := (some .boolean)) (by decide) rfl (Nat.le_of_ble_eq_true rfl) ?_
  intro p9 e s9 m args below meth c A9 ls hC hl hw
  obtain ⟨hx, hb, hml, hr, hown, hts, hlocks, hK, hG, hA⟩ := hC
  have hf33 := hts (.fieldLink RX3 33 "SailorCandlesLaw$Sim" "wax" "I") (List.mem_of_getElem? (i := 1) rfl)
  have hinX3 : ∀ w ∈ wsX30, w ∈ wsX3_light := fun w h => List.mem_cons_of_mem _ (List.mem_append_right _ h)
  have hl : lv_has ls 2 [(0, .ref q), (1, .ref (P.2.2.1 p))] := hl
  refine lv_aload_n hx hb dX3_light_0 rfl (lv_at hl 0 rfl) ?_
  refine k_get (ci := 3) (v := .int v_wa) (C := RX3) (T := TX3) (N := 7) hx hb hown hK hw hts hinX3 0 rfl rfl 1 (by decide) hf33 rfl dX3_light_1 ?_
  refine lv_bipush (v := 12) hx hb dX3_light_4 (by decide) ?_
  refine lv_icmp_ge (tgt := 11) hx hb dX3_light_6 (by decide) (fun c_1 => ?_) (fun c_1 => ?_)
  · have c_1 : (12 : Int32) ≤ v_wa := c_1
    refine lv_aload_n hx hb dX3_light_11 rfl (lv_at hl 0 rfl) ?_
    refine lv_dup hx hb dX3_light_12 rfl ?_
    refine k_get (ci := 3) (v := .int v_wa) (C := RX3) (T := TX3) (N := 7) hx hb hown hK hw hts hinX3 0 rfl rfl 1 (by decide) hf33 rfl dX3_light_13 ?_
    refine lv_bipush (v := 12) hx hb dX3_light_16 (by decide) ?_
    refine lv_isub hx hb dX3_light_18 ?_
    refine k_putP (ws' := wS E q P (mkS v_ni (v_wa - 12) v_un v_ns v_np v_nw v_ng v_ma v_st v_ou v_ru v_so v_mt v_vo v_gi v_ca v_tr v_sw v_ss v_sg)) hx hb hown hK hw hts hinX3 1 (Pk_wa (v_wa - 12)) (by decide) hf33 rfl rfl (Nat.le_of_ble_eq_true rfl) dX3_light_19 (fun H locs hw => ?_)
    refine lv_aload_n hx hb dX3_light_22 rfl (lv_at hl 1 rfl) ?_
    refine lv_iconst (v := 4) hx hb dX3_light_23 (by decide) ?_
    refine lv_bipush (v := 12) hx hb dX3_light_24 (by decide) ?_
    refine k_istP (i := 4) (ws' := wS E q P (mkS v_ni (v_wa - 12) v_un v_ns v_np v_nw v_ng v_ma v_st v_ou v_ru v_so v_mt v_vo v_gi (upd v_ca p 12) v_tr v_sw v_ss v_sg)) hx hb hK hw (Pk_ca 12 (i := p) (show p < v_np from by omega)) (by decide) (by decide) dX3_light_26 (fun H locs hw => ?_)
    refine lv_iconst (v := 1) hx hb dX3_light_27 (by decide) ?_
    exact k_iret hx hb hr hlocks hK hw rfl dX3_light_28 (by first | (simp only [f_lB, if_pos c_1]; rfl) | (simp only [f_lB, if_neg c_1]; rfl)) (by first | (simp only [f_lca, f_lwa, if_pos c_1]; done) | (simp only [f_lca, f_lwa, if_neg c_1]; done) | (simp only [f_lca, f_lwa, if_pos c_1]; rfl) | (simp only [f_lca, f_lwa, if_neg c_1]; rfl))
  · have c_1 : ¬ (12 : Int32) ≤ v_wa := c_1
    refine lv_iconst (v := 0) hx hb dX3_light_9 (by decide) ?_
    exact k_iret hx hb hr hlocks hK hw rfl dX3_light_10 (by first | (simp only [f_lB, if_pos c_1]; rfl) | (simp only [f_lB, if_neg c_1]; rfl)) (by first | (simp only [f_lca, f_lwa, if_pos c_1]; done) | (simp only [f_lca, f_lwa, if_neg c_1]; done) | (simp only [f_lca, f_lwa, if_pos c_1]; rfl) | (simp only [f_lca, f_lwa, if_neg c_1]; rfl))
abbrev rm_X3_drop : Room := { frames := 1, cells := 21, slots := 420, locals := 23 }
set_option maxHeartbeats 4000000 in
set_option maxRecDepth 100000 in
theorem c_X3_drop (l : Launch) (E : Ev) (q : Nat) (P : AP) (v_ni v_wa v_un : Int32) (v_ns v_np v_nw v_ng : Nat) (v_ma v_st v_ou v_ru : Fn) (v_so : FnN) (v_mt v_vo v_gi v_ca v_tr : Fn) (v_sw v_ss : FnN) (v_sg : Fn) (s o : Int32) (hns : v_ns ≤ 5) (hnp : v_np ≤ 16) (hnw : v_nw ≤ 4) (hng : v_ng ≤ 20) (hso : ∀ p, p < v_np → v_so p < v_ns) (hsw : ∀ j, j < v_ng → v_sw j < v_nw) : MC l E yX3_drop wsX3_drop rm_X3_drop [.ref q, .int s, .int o] (wS E q P (mkS v_ni v_wa v_un v_ns v_np v_nw v_ng v_ma v_st v_ou v_ru v_so v_mt v_vo v_gi v_ca v_tr v_sw v_ss v_sg)) (fun (u : AP) => True) (fun (u : AP) => wS E q u (mkS v_ni v_wa v_un v_ns v_np v_nw (d_n (v_ss) (v_sg) s o (v_ng)) v_ma v_st v_ou v_ru v_so v_mt v_vo v_gi v_ca v_tr (fun j => v_sw (d_ix (v_ss) (v_sg) s o (v_ng) j)) (fun j => v_ss (d_ix (v_ss) (v_sg) s o (v_ng) j)) (fun j => v_sg (d_ix (v_ss) (v_sg) s o (v_ng) j)))) := by
  refine k_bC (cc := cX3_drop) (maxL := 8) (ret := none) (by decide) rfl (Nat.le_of_ble_eq_true rfl) ?_
  intro p9 e s9 m args below meth c A9 ls hC hin9 hl hw
  obtain ⟨hx, hb, hml, hr, hown, hts, hlocks, hK, hG, hA⟩ := hC
  have hq0 := hts (.classLink RX3 7 "[I") (List.mem_of_getElem? (i := 1) rfl)
  have hf21 := hts (.fieldLink RX3 21 "SailorCandlesLaw$Sim" "sights" "[[I") (List.mem_of_getElem? (i := 2) rfl)
  have hinX3 : ∀ w ∈ wsX30, w ∈ wsX3_drop := fun w h => List.mem_cons_of_mem _ (List.mem_append_right _ h)
  have hl : lv_has ls 8 [(0, .ref q), (1, .int s), (2, .int o)] := hl
  refine lv_iconst (v := 0) hx hb dX3_drop_0 (by decide) ?_
  refine k_newQ (n := 0) hx hb hown hq0 hK hG hw hA (show 0 < 1000 by omega) (Nat.le_of_ble_eq_true rfl) (Nat.le_of_ble_eq_true rfl) dX3_drop_1 (fun q1 H hw => ?_)
  have hw : Wd E A9 s9.heap (wS E q P (mkS v_ni v_wa v_un v_ns v_np v_nw v_ng v_ma v_st v_ou v_ru v_so v_mt v_vo v_gi v_ca v_tr v_sw v_ss v_sg) ++ [(q1, aQ E 0 (fun _ => none))]) H _ := hw
  have hw : Wd E A9 s9.heap ([(q1, aQ E 0 (fun _ => none))] ++ wS E q P (mkS v_ni v_wa v_un v_ns v_np v_nw v_ng v_ma v_st v_ou v_ru v_so v_mt v_vo v_gi v_ca v_tr v_sw v_ss v_sg)) H _ := Wd.perm hw (perm9 (fun a => by simp only [cnt9_app, cnt9_cons, cnt9_nil] <;> omega))
  have hw : Wd E A9 s9.heap ([(q1, aQ E 0 (fun j => some (P.2.2.2 (d_ix (v_ss) (v_sg) s o 0 j))))] ++ wS E q P (mkS v_ni v_wa v_un v_ns v_np v_nw v_ng v_ma v_st v_ou v_ru v_so v_mt v_vo v_gi v_ca v_tr v_sw v_ss v_sg)) H _ := Wd.setQ (w1 := []) (w2 := wS E q P (mkS v_ni v_wa v_un v_ns v_np v_nw v_ng v_ma v_st v_ou v_ru v_so v_mt v_vo v_gi v_ca v_tr v_sw v_ss v_sg)) (q := q1) (n := 0) (g := (fun j => some (P.2.2.2 (d_ix (v_ss) (v_sg) s o 0 j)))) hw (fun j hj => absurd hj (by omega))
  refine lv_astore_n (lv' := [(3, .ref q1), (0, .ref q), (1, .int s), (2, .int o)]) hx hb dX3_drop_4 rfl hl (by decide) rfl (fun ls hl => ?_)
  refine lv_aload_n hx hb dX3_drop_5 rfl (lv_at hl 1 rfl) ?_
  refine k_get (ci := 3) (v := .ref (P.1 4)) (C := RX3) (T := TX3) (N := 7) hx hb hown hK hw hts hinX3 1 rfl rfl 6 (by decide) hf21 rfl dX3_drop_6 ?_
  refine lv_astore (lv' := [(4, .ref (P.1 4)), (3, .ref q1), (0, .ref q), (1, .int s), (2, .int o)]) hx hb dX3_drop_9 hl (by decide) rfl (fun ls hl => ?_)
  refine lv_aload hx hb dX3_drop_11 (lv_at hl 0 rfl) ?_
  refine k_lenQ (n := v_ng) hx hb hK hw 5 rfl dX3_drop_13 ?_
  refine lv_istore (lv' := [(5, .int (nI v_ng)), (4, .ref (P.1 4)), (3, .ref q1), (0, .ref q), (1, .int s), (2, .int o)]) hx hb dX3_drop_14 hl (by decide) rfl (fun ls hl => ?_)
  refine lv_iconst (v := 0) hx hb dX3_drop_16 (by decide) ?_
  refine lv_istore (lv' := [(6, .int 0), (5, .int (nI v_ng)), (4, .ref (P.1 4)), (3, .ref q1), (0, .ref q), (1, .int s), (2, .int o)]) hx hb dX3_drop_17 hl (by decide) rfl (fun ls hl => ?_)
  have L_19 : ∀ (k9 i : Nat) (u9 : Nat) (H : Heap) (locs : List Loc) (ls : Array Slot), i + k9 = v_ng → Wd E A9 s9.heap ([(u9, aQ E (d_n (v_ss) (v_sg) s o i) (fun j => some (P.2.2.2 (d_ix (v_ss) (v_sg) s o i j))))] ++ wS E q P (mkS v_ni v_wa v_un v_ns v_np v_nw v_ng v_ma v_st v_ou v_ru v_so v_mt v_vo v_gi v_ca v_tr v_sw v_ss v_sg)) H locs → lv_has ls 8 [(0, .ref q), (1, .int s), (2, .int o), (3, .ref u9), (4, .ref (P.1 4)), (5, .int (nI v_ng)), (6, .int (nI i))] → W p9 l e rm_X3_drop s9 m args below meth c H locs (1 + i) (21 * i) (EndC E A9 (fun (u : AP) => True) (fun (u : AP) => wS E q u (mkS v_ni v_wa v_un v_ns v_np v_nw (d_n (v_ss) (v_sg) s o (v_ng)) v_ma v_st v_ou v_ru v_so v_mt v_vo v_gi v_ca v_tr (fun j => v_sw (d_ix (v_ss) (v_sg) s o (v_ng) j)) (fun j => v_ss (d_ix (v_ss) (v_sg) s o (v_ng) j)) (fun j => v_sg (d_ix (v_ss) (v_sg) s o (v_ng) j)))) below args s9 (rm_X3_drop).cells (rm_X3_drop).slots) (F0 m 19 ls []) := by
    intro k9
    induction k9 with
    | zero =>
      intro i u9 H locs ls hi hw hl
      have hz_1 : v_ng = i := by omega
      refine lv_iload hx hb dX3_drop_19 (lv_at hl 6 rfl) ?_
      refine lv_iload hx hb dX3_drop_21 (lv_at hl 5 rfl) ?_
      refine lv_icmp_ge (tgt := 62) hx hb dX3_drop_23 (by decide) (fun _ => ?_) (fun q8 => absurd (by rw [← hz_1]; exact Int32.le_refl _) q8)
      refine lv_aload_n hx hb dX3_drop_62 rfl (lv_at hl 0 rfl) ?_
      refine lv_aload_n hx hb dX3_drop_63 rfl (lv_at hl 3 rfl) ?_
      refine k_putR (ci := 3) (C := RX3) (T := TX3) (N := 7) (ws' := [(u9, aQ E (d_n (v_ss) (v_sg) s o i) (fun j => some (P.2.2.2 (d_ix (v_ss) (v_sg) s o i j))))] ++ wSo E q P (mkS v_ni v_wa v_un v_ns v_np v_nw v_ng v_ma v_st v_ou v_ru v_so v_mt v_vo v_gi v_ca v_tr v_sw v_ss v_sg) [.int (v_ni), .int (v_wa), .int (v_un), .ref (P.1 1), .ref (P.1 2), .ref (P.1 3), .ref u9]) hx hb hown hK hw hts hinX3 tyX3 tyX3_ok nmX3 1 rfl rfl 6 (by decide) hf21 rfl rfl rfl (Nat.le_of_ble_eq_true rfl) dX3_drop_64 rfl (fun H locs hw => ?_)
      have hw := Wd.perm hw List.perm_append_comm
      rw [← hz_1] at hw
      have hw := drop_S (M := (mkS v_ni v_wa v_un v_ns v_np v_nw v_ng v_ma v_st v_ou v_ru v_so v_mt v_vo v_gi v_ca v_tr v_sw v_ss v_sg)) (s := s) (o := o) hw
      refine W.widen (k := (rm_X3_drop).cells) (n := (rm_X3_drop).slots) (show 1 + i ≤ 21 by omega) (show 21 * i ≤ 420 by omega) ?_
      exact k_cret (updN P.1 4 u9, P.2.1, P.2.2.1, fun j => P.2.2.2 (f_dropI (mkS v_ni v_wa v_un v_ns v_np v_nw v_ng v_ma v_st v_ou v_ru v_so v_mt v_vo v_gi v_ca v_tr v_sw v_ss v_sg) s o j)) hx hb hr hlocks hK hw dX3_drop_67 trivial rfl
    | succ k9 ih_19 =>
      intro i u9 H locs ls hi hw hl
      have hi9 : i < v_ng := by omega
      refine lv_iload hx hb dX3_drop_19 (lv_at hl 6 rfl) ?_
      refine lv_iload hx hb dX3_drop_21 (lv_at hl 5 rfl) ?_
      refine lv_icmp_ge (tgt := 62) hx hb dX3_drop_23 (by decide) (fun q8 => absurd q8 (nI_ge (a := i) (b := v_ng) (by omega) (by omega))) (fun _ => ?_)
      refine lv_aload hx hb dX3_drop_26 (lv_at hl 4 rfl) ?_
      refine lv_iload hx hb dX3_drop_28 (lv_at hl 6 rfl) ?_
      refine k_qld (i := i) (y := P.2.2.2 i) (n := v_ng) hx hb hK hw 5 rfl (show i < v_ng from by omega) (show v_ng < 2 ^ 31 by omega) rfl dX3_drop_30 ?_
      refine lv_astore (lv' := [(7, .ref (P.2.2.2 i)), (0, .ref q), (1, .int s), (2, .int o), (3, .ref u9), (4, .ref (P.1 4)), (5, .int (nI v_ng)), (6, .int (nI i))]) hx hb dX3_drop_31 hl (by decide) rfl (fun ls hl => ?_)
      refine lv_aload hx hb dX3_drop_33 (lv_at hl 0 rfl) ?_
      refine lv_iconst (v := 1) hx hb dX3_drop_35 (by decide) ?_
      refine k_ildP (i := 1) (v := nI (v_ss i)) hx hb hK hw (Pk.l (Pk_3 (i := i) (show i < v_ng from by omega))) (by decide) (by decide) rfl dX3_drop_36 ?_
      refine lv_iload_n hx hb dX3_drop_37 rfl (lv_at hl 2 rfl) ?_
      refine lv_icmp_eq (tgt := 56) hx hb dX3_drop_38 (by decide) (fun c_2 => ?_) (fun c_2 => ?_)
      · have c_2 : (nI (v_ss i) : Int32) = s := c_2
        refine lv_iinc (v := nI (i + 1)) (lv' := [(6, .int (nI (i + 1))), (7, .ref (P.2.2.2 i)), (0, .ref q), (1, .int s), (2, .int o), (3, .ref u9), (4, .ref (P.1 4)), (5, .int (nI v_ng))]) hx hb dX3_drop_56 hl (k := 7) rfl (nI_add i 1) (by decide) rfl (fun ls hl => ?_)
        refine lv_goto (tgt := 19) hx hb dX3_drop_59 (by decide) ?_
        refine W.widen (k := 1 + (i + 1)) (n := 21 * (i + 1)) (show 1 + i ≤ 1 + (i + 1) by omega) (show 21 * i ≤ 21 * (i + 1) by omega) ?_
        exact ih_19 (i + 1) _ _ _ _ (by omega) (hw.to (by first | (simp only [d_n, d_ix, if_pos c_2]; done) | (simp only [d_n, d_ix, if_neg CP, if_pos c_2]; done) | (simp only [d_n, d_ix, if_neg CP, if_neg c_2, nQ_ext]; done))) (lv_sub hl [2, 3, 4, 5, 6, 7, 0] rfl)
      · have c_2 : ¬ (nI (v_ss i) : Int32) = s := c_2
        refine lv_aload hx hb dX3_drop_41 (lv_at hl 0 rfl) ?_
        refine lv_iconst (v := 2) hx hb dX3_drop_43 (by decide) ?_
        refine k_ildP (i := 2) (v := v_sg i) hx hb hK hw (Pk.l (Pk_3 (i := i) (show i < v_ng from by omega))) (by decide) (by decide) rfl dX3_drop_44 ?_
        refine lv_iload_n hx hb dX3_drop_45 rfl (lv_at hl 3 rfl) ?_
        refine lv_icmp_ge (tgt := 56) hx hb dX3_drop_46 (by decide) (fun c_3 => ?_) (fun c_3 => ?_)
        · have c_3 : (o : Int32) ≤ v_sg i := c_3
          refine lv_iinc (v := nI (i + 1)) (lv' := [(6, .int (nI (i + 1))), (7, .ref (P.2.2.2 i)), (0, .ref q), (1, .int s), (2, .int o), (3, .ref u9), (4, .ref (P.1 4)), (5, .int (nI v_ng))]) hx hb dX3_drop_56 hl (k := 7) rfl (nI_add i 1) (by decide) rfl (fun ls hl => ?_)
          refine lv_goto (tgt := 19) hx hb dX3_drop_59 (by decide) ?_
          refine W.widen (k := 1 + (i + 1)) (n := 21 * (i + 1)) (show 1 + i ≤ 1 + (i + 1) by omega) (show 21 * i ≤ 21 * (i + 1) by omega) ?_
          exact ih_19 (i + 1) _ _ _ _ (by omega) (hw.to (by first | (simp only [d_n, d_ix, if_pos c_3]; done) | (simp only [d_n, d_ix, if_neg c_2, if_pos c_3]; done) | (simp only [d_n, d_ix, if_neg c_2, if_neg c_3, nQ_ext]; done))) (lv_sub hl [2, 3, 4, 5, 6, 7, 0] rfl)
        · have c_3 : ¬ (o : Int32) ≤ v_sg i := c_3
          refine lv_aload_n hx hb dX3_drop_49 rfl (lv_at hl 4 rfl) ?_
          refine lv_aload hx hb dX3_drop_50 (lv_at hl 0 rfl) ?_
          have hn52 : Rn ([(u9, aQ E (d_n (v_ss) (v_sg) s o i) (fun j => some (P.2.2.2 (d_ix (v_ss) (v_sg) s o i j))))] ++ wS E q P (mkS v_ni v_wa v_un v_ns v_np v_nw v_ng v_ma v_st v_ou v_ru v_so v_mt v_vo v_gi v_ca v_tr v_sw v_ss v_sg)) ([(u9, aQ E (d_n (v_ss) (v_sg) s o i) ((fun j => some (P.2.2.2 (d_ix (v_ss) (v_sg) s o i j)))))] ++ (wS E q P (mkS v_ni v_wa v_un v_ns v_np v_nw v_ng v_ma v_st v_ou v_ru v_so v_mt v_vo v_gi v_ca v_tr v_sw v_ss v_sg))) [] := (perm9 (fun a => by simp only [cnt9_app, cnt9_cons, cnt9_nil] <;> omega) : ([(u9, aQ E (d_n (v_ss) (v_sg) s o i) (fun j => some (P.2.2.2 (d_ix (v_ss) (v_sg) s o i j))))] ++ wS E q P (mkS v_ni v_wa v_un v_ns v_np v_nw v_ng v_ma v_st v_ou v_ru v_so v_mt v_vo v_gi v_ca v_tr v_sw v_ss v_sg)).Perm ([(u9, aQ E (d_n (v_ss) (v_sg) s o i) ((fun j => some (P.2.2.2 (d_ix (v_ss) (v_sg) s o i j)))))] ++ (wS E q P (mkS v_ni v_wa v_un v_ns v_np v_nw v_ng v_ma v_st v_ou v_ru v_so v_mt v_vo v_gi v_ca v_tr v_sw v_ss v_sg)))).trans (List.Perm.of_eq (List.append_nil _).symm)
          refine kr_r (va_runS (As := [.ref u9, .ref (P.2.2.2 i)]) (rest := []) ⟨hx, hb, hml, hown, hts⟩ (c_X3_more l E u9 (d_n (v_ss) (v_sg) s o i) (P.2.2.2 i) ((fun j => some (P.2.2.2 (d_ix (v_ss) (v_sg) s o i j)))) (wS E q P (mkS v_ni v_wa v_un v_ns v_np v_nw v_ng v_ma v_st v_ou v_ru v_so v_mt v_vo v_gi v_ca v_tr v_sw v_ss v_sg)) (Nat.le_trans (d_n_le _ _ _ _ _) (by omega)) (fun j hj => ⟨_, 3, row3 (mkS v_ni v_wa v_un v_ns v_np v_nw v_ng v_ma v_st v_ou v_ru v_so v_mt v_vo v_gi v_ca v_tr v_sw v_ss v_sg) _, rfl, (Pk_3 (show d_ix (v_ss) (v_sg) s o i j < v_ng by have := d_ix_lt (v_ss) (v_sg) s o i j hj; omega)).mem⟩) (⟨3, row3 (mkS v_ni v_wa v_un v_ns v_np v_nw v_ng v_ma v_st v_ou v_ru v_so v_mt v_vo v_gi v_ca v_tr v_sw v_ss v_sg) i, (Pk_3 (show i < v_ng by omega)).mem⟩) _) (va_cwS 2 hts gX3_drop_X3_more rfl rfl rfl hd_X3_more ⟨Nat.le_of_ble_eq_true rfl, Nat.le_of_ble_eq_true rfl⟩) (rpS (AV := [.ref u9, .ref (P.2.2.2 i)]) hw hK hG hn52.rp) rfl rfl hl.1 rfl (lv_room (Nat.le_of_ble_eq_true rfl)) dX3_drop_52 ⟨(show 1 + i + 1 ≤ 21 by omega), (show 21 * i + 21 ≤ 420 by omega)⟩) hw hA hn52 (fun _ b_4 H locs hw => ?_)
          have hw : Wd E A9 s9.heap ([(b_4, aQ E (d_n (v_ss) (v_sg) s o i + 1) (fun j => if j = d_n (v_ss) (v_sg) s o i then some (P.2.2.2 i) else some (P.2.2.2 (d_ix (v_ss) (v_sg) s o i j))))] ++ wS E q P (mkS v_ni v_wa v_un v_ns v_np v_nw v_ng v_ma v_st v_ou v_ru v_so v_mt v_vo v_gi v_ca v_tr v_sw v_ss v_sg)) H _ := Wd.perm hw (perm9 (fun a => by simp only [cnt9_app, cnt9_cons, cnt9_nil] <;> omega))
          refine lv_astore_n (lv' := [(3, .ref b_4), (7, .ref (P.2.2.2 i)), (0, .ref q), (1, .int s), (2, .int o), (4, .ref (P.1 4)), (5, .int (nI v_ng)), (6, .int (nI i))]) hx hb dX3_drop_55 rfl hl (by decide) rfl (fun ls hl => ?_)
          refine lv_iinc (v := nI (i + 1)) (lv' := [(6, .int (nI (i + 1))), (3, .ref b_4), (7, .ref (P.2.2.2 i)), (0, .ref q), (1, .int s), (2, .int o), (4, .ref (P.1 4)), (5, .int (nI v_ng))]) hx hb dX3_drop_56 hl (k := 7) rfl (nI_add i 1) (by decide) rfl (fun ls hl => ?_)
          refine lv_goto (tgt := 19) hx hb dX3_drop_59 (by decide) ?_
          refine W.widen (k := 1 + (i + 1)) (n := 21 * (i + 1)) (show 1 + i + 1 ≤ 1 + (i + 1) by omega) (show 21 * i + 21 ≤ 21 * (i + 1) by omega) ?_
          exact ih_19 (i + 1) _ _ _ _ (by omega) (hw.to (by first | (simp only [d_n, d_ix, if_pos c_3]; done) | (simp only [d_n, d_ix, if_neg c_2, if_pos c_3]; done) | (simp only [d_n, d_ix, if_neg c_2, if_neg c_3, nQ_ext]; done))) (lv_sub hl [3, 4, 5, 1, 6, 7, 0] rfl)
  exact L_19 (v_ng - 0) 0 _ _ _ _ (by omega) hw (lv_sub hl [4, 5, 6, 3, 2, 1, 0] rfl)
