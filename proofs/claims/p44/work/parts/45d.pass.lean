set_option maxHeartbeats 8000000 in
set_option maxRecDepth 100000 in
theorem sg_pass_90 (l : Launch) (E : Ev) {p9 : Program} {e : Env} {s9 : State} {m : MethodId} {args : Array Value} {below : List Frame} {meth : Method} {c : Code} {A9 : Nat → Prop} {H : Heap} {locs : List Loc} {ls : Array Slot} (hC : Cx E yX3_pass.cls cX3_pass 7 (some .int) wsX3_pass p9 s9 m args meth c A9) (q : Nat) (P : AP) (v_ni v_wa v_un : Int32) (v_ns v_np v_nw v_ng : Nat) (v_ma v_st v_ou v_ru : Fn) (v_so : FnN) (v_mt v_vo v_gi v_ca v_tr : Fn) (v_sw v_ss : FnN) (v_sg : Fn) (hns : v_ns ≤ 5) (hnp : v_np ≤ 16) (hnw : v_nw ≤ 4) (hng : v_ng ≤ 20) (hso : ∀ p, p < v_np → v_so p < v_ns) (hsw : ∀ j, j < v_ng → v_sw j < v_nw) (hw : Wd E A9 s9.heap (wS E q P (mkS v_ni v_wa v_un v_ns v_np v_nw v_ng v_ma v_st v_ou v_ru v_so v_mt v_vo v_gi v_ca v_tr v_sw v_ss v_sg)) H locs) (hl : lv_has ls 7 [(0, .ref q), (1, .int 0)]) : W p9 l e rm_X3_pass s9 m args below meth c H locs 21 420 (EndA E A9 (f_ngN (f_ngB (mkS v_ni v_wa v_un v_ns v_np v_nw v_ng v_ma v_st v_ou v_ru v_so v_mt v_vo v_gi v_ca v_tr v_sw v_ss v_sg))) (fun (u : AP) => wS E q u (f_tlB (mkS v_ni v_wa v_un v_ns v_np v_nw v_ng v_ma v_st v_ou v_ru v_so v_mt v_vo v_gi v_ca v_tr v_sw v_ss v_sg))) below args s9 (rm_X3_pass).cells (rm_X3_pass).slots) (F0 m 90 ls []) := by
  have hC0 := hC
  obtain ⟨hx, hb, hml, hr, hown, hts, hlocks, hK, hG, hA⟩ := hC
  have hf9 := hts (.fieldLink RX3 9 "SailorCandlesLaw$Sim" "ships" "[[I") (List.mem_of_getElem? (i := 3) rfl)
  have hinX3 : ∀ w ∈ wsX30, w ∈ wsX3_pass := fun w h => List.mem_cons_of_mem _ (List.mem_append_right _ h)
  have hf36 := hts (.fieldLink RX3 36 "SailorCandlesLaw$Sim" "unrung" "I") (List.mem_of_getElem? (i := 4) rfl)
  refine lv_iconst (v := 0) hx hb dX3_pass_90 (by decide) ?_
  refine lv_istore_n (lv' := [(2, .int 0), (0, .ref q), (1, .int 0)]) hx hb dX3_pass_91 rfl hl (by decide) rfl (fun ls hl => ?_)
  have L_92 : ∀ (k9 i : Nat) (H : Heap) (locs : List Loc) (ls : Array Slot), i + k9 = v_ns → Wd E A9 s9.heap (wS E q P (mkS v_ni v_wa ((l_ub (v_ss) (v_sw) (v_tr) (v_ng) (v_ru) (v_un) i).2) v_ns v_np v_nw v_ng v_ma v_st v_ou ((l_ub (v_ss) (v_sw) (v_tr) (v_ng) (v_ru) (v_un) i).1) v_so v_mt v_vo v_gi v_ca v_tr v_sw v_ss v_sg)) H locs → lv_has ls 7 [(0, .ref q), (1, .int 0), (2, .int (nI i))] → W p9 l e rm_X3_pass s9 m args below meth c H locs 21 420 (EndA E A9 (f_ngN (f_ngB (mkS v_ni v_wa v_un v_ns v_np v_nw v_ng v_ma v_st v_ou v_ru v_so v_mt v_vo v_gi v_ca v_tr v_sw v_ss v_sg))) (fun (u : AP) => wS E q u (f_tlB (mkS v_ni v_wa v_un v_ns v_np v_nw v_ng v_ma v_st v_ou v_ru v_so v_mt v_vo v_gi v_ca v_tr v_sw v_ss v_sg))) below args s9 (rm_X3_pass).cells (rm_X3_pass).slots) (F0 m 92 ls []) := by
    intro k9
    induction k9 with
    | zero =>
      intro i H locs ls hi hw hl
      have hz_1 : v_ns = i := by omega
      refine lv_iload_n hx hb dX3_pass_92 rfl (lv_at hl 2 rfl) ?_
      refine lv_aload_n hx hb dX3_pass_93 rfl (lv_at hl 0 rfl) ?_
      refine k_get (ci := 3) (v := .ref (P.1 1)) (C := RX3) (T := TX3) (N := 7) hx hb hown hK hw hts hinX3 0 rfl rfl 3 (by decide) hf9 rfl dX3_pass_94 ?_
      refine k_lenQ (n := v_ns) hx hb hK hw 1 rfl dX3_pass_97 ?_
      refine lv_icmp_ge (tgt := 149) hx hb dX3_pass_98 (by decide) (fun _ => ?_) (fun q8 => absurd (by rw [← hz_1]; exact Int32.le_refl _) q8)
      have h9 := sg_pass_149 (e := e) (below := below) l E hC0 q P v_ni v_wa ((l_ub (v_ss) (v_sw) (v_tr) (v_ng) (v_ru) (v_un) i).2) v_ns v_np v_nw v_ng v_ma v_st v_ou ((l_ub (v_ss) (v_sw) (v_tr) (v_ng) (v_ru) (v_un) i).1) v_so v_mt v_vo v_gi v_ca v_tr v_sw v_ss v_sg (hns) (hnp) (hnw) (hng) (hso) (hsw) hw (lv_sub hl [0, 1] rfl)
      rw [← hz_1] at h9
      exact h9
    | succ k9 ih_92 =>
      intro i H locs ls hi hw hl
      have hi9 : i < v_ns := by omega
      refine lv_iload_n hx hb dX3_pass_92 rfl (lv_at hl 2 rfl) ?_
      refine lv_aload_n hx hb dX3_pass_93 rfl (lv_at hl 0 rfl) ?_
      refine k_get (ci := 3) (v := .ref (P.1 1)) (C := RX3) (T := TX3) (N := 7) hx hb hown hK hw hts hinX3 0 rfl rfl 3 (by decide) hf9 rfl dX3_pass_94 ?_
      refine k_lenQ (n := v_ns) hx hb hK hw 1 rfl dX3_pass_97 ?_
      refine lv_icmp_ge (tgt := 149) hx hb dX3_pass_98 (by decide) (fun q8 => absurd q8 (nI_ge (a := i) (b := v_ns) (by omega) (by omega))) (fun _ => ?_)
      refine lv_aload_n hx hb dX3_pass_101 rfl (lv_at hl 0 rfl) ?_
      refine k_get (ci := 3) (v := .ref (P.1 1)) (C := RX3) (T := TX3) (N := 7) hx hb hown hK hw hts hinX3 0 rfl rfl 3 (by decide) hf9 rfl dX3_pass_102 ?_
      refine lv_iload_n hx hb dX3_pass_105 rfl (lv_at hl 2 rfl) ?_
      refine k_qld (i := i) (y := P.2.1 i) (n := v_ns) hx hb hK hw 1 rfl (show i < v_ns from by omega) (show v_ns < 2 ^ 31 by omega) rfl dX3_pass_106 ?_
      refine lv_iconst (v := 3) hx hb dX3_pass_107 (by decide) ?_
      refine k_ildP (i := 3) (v := ((l_ub (v_ss) (v_sw) (v_tr) (v_ng) (v_ru) (v_un) i).1) i) hx hb hK hw (Pk_4 (i := i) (show i < v_ns from by omega)) (by decide) (by decide) rfl dX3_pass_108 ?_
      refine lv_if_eq (tgt := 143) hx hb dX3_pass_109 (by decide) (fun c_2 => ?_) (fun c_2 => ?_)
      · have c_2 : (((l_ub (v_ss) (v_sw) (v_tr) (v_ng) (v_ru) (v_un) i).1) i : Int32) = 0 := c_2
        refine lv_iinc (v := nI (i + 1)) (lv' := [(2, .int (nI (i + 1))), (0, .ref q), (1, .int 0)]) hx hb dX3_pass_143 hl (k := 2) rfl (nI_add i 1) (by decide) rfl (fun ls hl => ?_)
        refine lv_goto (tgt := 92) hx hb dX3_pass_146 (by decide) ?_
        exact ih_92 (i + 1) _ _ _ (by omega) (hw.to (by first | assumption | (simp only [l_ag, l_ub, l_cd, f_cd, if_pos c_2, if_true, if_false, Bool.false_eq_true, Bool.true_eq_false, reduceIte, reduceCtorEq]; done) | (simp only [l_ag, l_ub, l_cd, f_cd, if_pos c_2, if_true, if_false, Bool.false_eq_true, Bool.true_eq_false, reduceIte, reduceCtorEq]; rfl) | rfl | (simp [l_ag, l_ub, l_cd, f_cd, if_pos c_2, if_true, if_false, Bool.false_eq_true, Bool.true_eq_false, reduceIte, reduceCtorEq]; done) | (simp [bI, l_ag, l_ub, l_cd, f_cd, c_2]; done))) (lv_sub hl [1, 2, 0] rfl)
      · have c_2 : ¬ (((l_ub (v_ss) (v_sw) (v_tr) (v_ng) (v_ru) (v_un) i).1) i : Int32) = 0 := c_2
        refine lv_aload_n hx hb dX3_pass_112 rfl (lv_at hl 0 rfl) ?_
        refine lv_iload_n hx hb dX3_pass_113 rfl (lv_at hl 2 rfl) ?_
        refine kr_i (ws' := wS E q P (mkS v_ni v_wa ((l_ub (v_ss) (v_sw) (v_tr) (v_ng) (v_ru) (v_un) i).2) v_ns v_np v_nw v_ng v_ma v_st v_ou ((l_ub (v_ss) (v_sw) (v_tr) (v_ng) (v_ru) (v_un) i).1) v_so v_mt v_vo v_gi v_ca v_tr v_sw v_ss v_sg)) (va_runV (As := [.int (nI i)]) (rest := []) ⟨hx, hb, hml, hown, hts⟩ (c_X3_trustIn l E q P v_ni v_wa ((l_ub (v_ss) (v_sw) (v_tr) (v_ng) (v_ru) (v_un) i).2) v_ns v_np v_nw v_ng v_ma v_st v_ou ((l_ub (v_ss) (v_sw) (v_tr) (v_ng) (v_ru) (v_un) i).1) v_so v_mt v_vo v_gi v_ca v_tr v_sw v_ss v_sg i hns hnp hnw hng hso hsw _) (cwV 1 hts gX3_pass_X3_trustIn rfl rfl rfl ⟨rfl, hd_X3_trustIn⟩ ⟨Nat.le_of_ble_eq_true rfl, Nat.le_of_ble_eq_true rfl⟩) (pwV (ci := 3) (q0 := 0) (C := RX3) hw hK rfl rfl rfl (rpS (AV := [.ref q, .int (nI i)]) hw hK hG rp_73)) rfl rfl hl.1 rfl (lv_room (Nat.le_of_ble_eq_true rfl)) dX3_pass_114 ⟨Nat.le_of_ble_eq_true rfl, Nat.le_of_ble_eq_true rfl⟩) hw hA rp_73 (fun H locs hw => ?_)
        refine lv_iconst (v := 5) hx hb dX3_pass_117 (by decide) ?_
        refine lv_icmp_le (tgt := 124) hx hb dX3_pass_118 (by decide) (fun c_3 => ?_) (fun c_3 => ?_)
        · have c_3 : (l_tin (v_ss) (v_sw) (v_tr) i (v_ng) : Int32) ≤ 5 := c_3
          refine lv_aload_n hx hb dX3_pass_124 rfl (lv_at hl 0 rfl) ?_
          refine k_get (ci := 3) (v := .ref (P.1 1)) (C := RX3) (T := TX3) (N := 7) hx hb hown hK hw hts hinX3 0 rfl rfl 3 (by decide) hf9 rfl dX3_pass_125 ?_
          refine lv_iload_n hx hb dX3_pass_128 rfl (lv_at hl 2 rfl) ?_
          refine k_qld (i := i) (y := P.2.1 i) (n := v_ns) hx hb hK hw 1 rfl (show i < v_ns from by omega) (show v_ns < 2 ^ 31 by omega) rfl dX3_pass_129 ?_
          refine lv_iconst (v := 3) hx hb dX3_pass_130 (by decide) ?_
          refine lv_iconst (v := 0) hx hb dX3_pass_131 (by decide) ?_
          refine k_istP (i := 3) (ws' := wS E q P (mkS v_ni v_wa ((l_ub (v_ss) (v_sw) (v_tr) (v_ng) (v_ru) (v_un) i).2) v_ns v_np v_nw v_ng v_ma v_st v_ou (upd ((l_ub (v_ss) (v_sw) (v_tr) (v_ng) (v_ru) (v_un) i).1) i 0) v_so v_mt v_vo v_gi v_ca v_tr v_sw v_ss v_sg)) hx hb hK hw (Pk_ru 0 (i := i) (show i < v_ns from by omega)) (by decide) (by decide) dX3_pass_132 (fun H locs hw => ?_)
          refine lv_aload_n hx hb dX3_pass_133 rfl (lv_at hl 0 rfl) ?_
          refine lv_dup hx hb dX3_pass_134 rfl ?_
          refine k_get (ci := 3) (v := .int ((l_ub (v_ss) (v_sw) (v_tr) (v_ng) (v_ru) (v_un) i).2)) (C := RX3) (T := TX3) (N := 7) hx hb hown hK hw hts hinX3 0 rfl rfl 2 (by decide) hf36 rfl dX3_pass_135 ?_
          refine lv_iconst (v := 1) hx hb dX3_pass_138 (by decide) ?_
          refine lv_iadd hx hb dX3_pass_139 ?_
          refine k_putP (ws' := wS E q P (mkS v_ni v_wa (((l_ub (v_ss) (v_sw) (v_tr) (v_ng) (v_ru) (v_un) i).2) + 1) v_ns v_np v_nw v_ng v_ma v_st v_ou (upd ((l_ub (v_ss) (v_sw) (v_tr) (v_ng) (v_ru) (v_un) i).1) i 0) v_so v_mt v_vo v_gi v_ca v_tr v_sw v_ss v_sg)) hx hb hown hK hw hts hinX3 2 (Pk_un (((l_ub (v_ss) (v_sw) (v_tr) (v_ng) (v_ru) (v_un) i).2) + 1)) (by decide) hf36 rfl rfl (Nat.le_of_ble_eq_true rfl) dX3_pass_140 (fun H locs hw => ?_)
          refine lv_iinc (v := nI (i + 1)) (lv' := [(2, .int (nI (i + 1))), (0, .ref q), (1, .int 0)]) hx hb dX3_pass_143 hl (k := 2) rfl (nI_add i 1) (by decide) rfl (fun ls hl => ?_)
          refine lv_goto (tgt := 92) hx hb dX3_pass_146 (by decide) ?_
          exact ih_92 (i + 1) _ _ _ (by omega) (hw.to (by first | assumption | (simp only [l_ag, l_ub, l_cd, f_cd, if_neg c_2, if_pos c_3, if_true, if_false, Bool.false_eq_true, Bool.true_eq_false, reduceIte, reduceCtorEq]; done) | (simp only [l_ag, l_ub, l_cd, f_cd, if_neg c_2, if_pos c_3, if_true, if_false, Bool.false_eq_true, Bool.true_eq_false, reduceIte, reduceCtorEq]; rfl) | rfl | (simp [l_ag, l_ub, l_cd, f_cd, if_neg c_2, if_pos c_3, if_true, if_false, Bool.false_eq_true, Bool.true_eq_false, reduceIte, reduceCtorEq]; done) | (simp [bI, l_ag, l_ub, l_cd, f_cd, c_2, c_3]; done))) (lv_sub hl [1, 2, 0] rfl)
        · have c_3 : ¬ (l_tin (v_ss) (v_sw) (v_tr) i (v_ng) : Int32) ≤ 5 := c_3
          refine lv_goto (tgt := 143) hx hb dX3_pass_121 (by decide) ?_
          refine lv_iinc (v := nI (i + 1)) (lv' := [(2, .int (nI (i + 1))), (0, .ref q), (1, .int 0)]) hx hb dX3_pass_143 hl (k := 2) rfl (nI_add i 1) (by decide) rfl (fun ls hl => ?_)
          refine lv_goto (tgt := 92) hx hb dX3_pass_146 (by decide) ?_
          exact ih_92 (i + 1) _ _ _ (by omega) (hw.to (by first | assumption | (simp only [l_ag, l_ub, l_cd, f_cd, if_neg c_2, if_neg c_3, if_true, if_false, Bool.false_eq_true, Bool.true_eq_false, reduceIte, reduceCtorEq]; done) | (simp only [l_ag, l_ub, l_cd, f_cd, if_neg c_2, if_neg c_3, if_true, if_false, Bool.false_eq_true, Bool.true_eq_false, reduceIte, reduceCtorEq]; rfl) | rfl | (simp [l_ag, l_ub, l_cd, f_cd, if_neg c_2, if_neg c_3, if_true, if_false, Bool.false_eq_true, Bool.true_eq_false, reduceIte, reduceCtorEq]; done) | (simp [bI, l_ag, l_ub, l_cd, f_cd, c_2, c_3]; done))) (lv_sub hl [1, 2, 0] rfl)
  exact L_92 (v_ns - 0) 0 _ _ _ (by omega) hw (lv_sub hl [1, 2, 0] rfl)
set_option maxHeartbeats 8000000 in
set_option maxRecDepth 100000 in
theorem c_X3_pass (l : Launch) (E : Ev) (q : Nat) (P : AP) (v_ni v_wa v_un : Int32) (v_ns v_np v_nw v_ng : Nat) (v_ma v_st v_ou v_ru : Fn) (v_so : FnN) (v_mt v_vo v_gi v_ca v_tr : Fn) (v_sw v_ss : FnN) (v_sg : Fn) (hns : v_ns ≤ 5) (hnp : v_np ≤ 16) (hnw : v_nw ≤ 4) (hng : v_ng ≤ 20) (hso : ∀ p, p < v_np → v_so p < v_ns) (hsw : ∀ j, j < v_ng → v_sw j < v_nw) : MA l E yX3_pass wsX3_pass rm_X3_pass [.ref q] (wS E q P (mkS v_ni v_wa v_un v_ns v_np v_nw v_ng v_ma v_st v_ou v_ru v_so v_mt v_vo v_gi v_ca v_tr v_sw v_ss v_sg)) (f_spN (mkS v_ni v_wa v_un v_ns v_np v_nw v_ng v_ma v_st v_ou v_ru v_so v_mt v_vo v_gi v_ca v_tr v_sw v_ss v_sg)) (fun (u : AP) => wS E q u (f_spass (mkS v_ni v_wa v_un v_ns v_np v_nw v_ng v_ma v_st v_ou v_ru v_so v_mt v_vo v_gi v_ca v_tr v_sw v_ss v_sg))) := by
  refine k_bA (cc := cX3_pass) (maxL := 7) (ret := (some .int)) (by decide) rfl (Nat.le_of_ble_eq_true rfl) ?_
  intro p9 e s9 m args below meth c A9 ls hC hl hw
  have hC0 := hC
  obtain ⟨hx, hb, hml, hr, hown, hts, hlocks, hK, hG, hA⟩ := hC
  have hf21 := hts (.fieldLink RX3 21 "SailorCandlesLaw$Sim" "sights" "[[I") (List.mem_of_getElem? (i := 1) rfl)
  have hinX3 : ∀ w ∈ wsX30, w ∈ wsX3_pass := fun w h => List.mem_cons_of_mem _ (List.mem_append_right _ h)
  have hf18 := hts (.fieldLink RX3 18 "SailorCandlesLaw$Sim" "trust" "[I") (List.mem_of_getElem? (i := 2) rfl)
  have hl : lv_has ls 7 [(0, .ref q)] := hl
  refine lv_iconst (v := 0) hx hb dX3_pass_0 (by decide) ?_
  refine lv_istore_n (lv' := [(1, .int 0), (0, .ref q)]) hx hb dX3_pass_1 rfl hl (by decide) rfl (fun ls hl => ?_)
  refine lv_aload_n hx hb dX3_pass_2 rfl (lv_at hl 1 rfl) ?_
  refine k_get (ci := 3) (v := .ref (P.1 4)) (C := RX3) (T := TX3) (N := 7) hx hb hown hK hw hts hinX3 0 rfl rfl 6 (by decide) hf21 rfl dX3_pass_3 ?_
  refine lv_astore_n (lv' := [(2, .ref (P.1 4)), (1, .int 0), (0, .ref q)]) hx hb dX3_pass_6 rfl hl (by decide) rfl (fun ls hl => ?_)
  refine lv_aload_n hx hb dX3_pass_7 rfl (lv_at hl 0 rfl) ?_
  refine k_lenQ (n := v_ng) hx hb hK hw 4 rfl dX3_pass_8 ?_
  refine lv_istore_n (lv' := [(3, .int (nI v_ng)), (2, .ref (P.1 4)), (1, .int 0), (0, .ref q)]) hx hb dX3_pass_9 rfl hl (by decide) rfl (fun ls hl => ?_)
  refine lv_iconst (v := 0) hx hb dX3_pass_10 (by decide) ?_
  refine lv_istore (lv' := [(4, .int 0), (3, .int (nI v_ng)), (2, .ref (P.1 4)), (1, .int 0), (0, .ref q)]) hx hb dX3_pass_11 hl (by decide) rfl (fun ls hl => ?_)
  have L_13 : ∀ (k9 i : Nat) (H : Heap) (locs : List Loc) (ls : Array Slot), i + k9 = v_ng → Wd E A9 s9.heap (wS E q P (mkS v_ni v_wa v_un v_ns v_np v_nw v_ng v_ma v_st v_ou v_ru v_so v_mt v_vo v_gi v_ca ((l_ag (v_sw) (v_tr) (v_sg) i).1) v_sw v_ss ((l_ag (v_sw) (v_tr) (v_sg) i).2))) H locs → lv_has ls 7 [(0, .ref q), (1, .int 0), (2, .ref (P.1 4)), (3, .int (nI v_ng)), (4, .int (nI i))] → W p9 l e rm_X3_pass s9 m args below meth c H locs 0 0 (EndA E A9 (f_spN (mkS v_ni v_wa v_un v_ns v_np v_nw v_ng v_ma v_st v_ou v_ru v_so v_mt v_vo v_gi v_ca v_tr v_sw v_ss v_sg)) (fun (u : AP) => wS E q u (f_spass (mkS v_ni v_wa v_un v_ns v_np v_nw v_ng v_ma v_st v_ou v_ru v_so v_mt v_vo v_gi v_ca v_tr v_sw v_ss v_sg))) below args s9 (rm_X3_pass).cells (rm_X3_pass).slots) (F0 m 13 ls []) := by
    intro k9
    induction k9 with
    | zero =>
      intro i H locs ls hi hw hl
      have hz_1 : v_ng = i := by omega
      refine lv_iload hx hb dX3_pass_13 (lv_at hl 4 rfl) ?_
      refine lv_iload_n hx hb dX3_pass_15 rfl (lv_at hl 3 rfl) ?_
      refine lv_icmp_ge (tgt := 84) hx hb dX3_pass_16 (by decide) (fun _ => ?_) (fun q8 => absurd (by rw [← hz_1]; exact Int32.le_refl _) q8)
      refine lv_aload_n hx hb dX3_pass_84 rfl (lv_at hl 0 rfl) ?_
      refine lv_iconst (v := (-1)) hx hb dX3_pass_85 (by decide) ?_
      refine lv_iconst (v := 3) hx hb dX3_pass_86 (by decide) ?_
      have hn87 : Rn (wS E q P (mkS v_ni v_wa v_un v_ns v_np v_nw v_ng v_ma v_st v_ou v_ru v_so v_mt v_vo v_gi v_ca ((l_ag (v_sw) (v_tr) (v_sg) i).1) v_sw v_ss ((l_ag (v_sw) (v_tr) (v_sg) i).2))) (wS E q P (mkS v_ni v_wa v_un v_ns v_np v_nw v_ng v_ma v_st v_ou v_ru v_so v_mt v_vo v_gi v_ca ((l_ag (v_sw) (v_tr) (v_sg) i).1) v_sw v_ss ((l_ag (v_sw) (v_tr) (v_sg) i).2))) (([] : va_W)) := perm9 (fun a => by simp only [cnt9_app, cnt9_cons, cnt9_nil] <;> omega)
      refine kr_new (va_runV (As := [.int (-1), .int 3]) (rest := []) ⟨hx, hb, hml, hown, hts⟩ (c_X3_drop l E q P v_ni v_wa v_un v_ns v_np v_nw v_ng v_ma v_st v_ou v_ru v_so v_mt v_vo v_gi v_ca ((l_ag (v_sw) (v_tr) (v_sg) i).1) v_sw v_ss ((l_ag (v_sw) (v_tr) (v_sg) i).2) (-1) 3 hns hnp hnw hng hso hsw _) (cwV 2 hts gX3_pass_X3_drop rfl rfl rfl ⟨rfl, hd_X3_drop⟩ ⟨Nat.le_of_ble_eq_true rfl, Nat.le_of_ble_eq_true rfl⟩) (pwV (ci := 3) (q0 := 0) (C := RX3) hw hK rfl rfl rfl (rpS (AV := [.ref q, .int (-1), .int 3]) hw hK hG hn87.rp)) rfl rfl hl.1 rfl (lv_room (Nat.le_of_ble_eq_true rfl)) dX3_pass_87 ⟨Nat.le_of_ble_eq_true rfl, Nat.le_of_ble_eq_true rfl⟩) hw hA hn87 (fun u_2 H locs _ hw => ?_)
      have hw : Wd E A9 s9.heap (wS E q u_2 (mkS v_ni v_wa v_un v_ns v_np v_nw (d_n (v_ss) (((l_ag (v_sw) (v_tr) (v_sg) i).2)) (-1) 3 (v_ng)) v_ma v_st v_ou v_ru v_so v_mt v_vo v_gi v_ca ((l_ag (v_sw) (v_tr) (v_sg) i).1) (fun j => v_sw (d_ix (v_ss) (((l_ag (v_sw) (v_tr) (v_sg) i).2)) (-1) 3 (v_ng) j)) (fun j => v_ss (d_ix (v_ss) (((l_ag (v_sw) (v_tr) (v_sg) i).2)) (-1) 3 (v_ng) j)) (fun j => ((l_ag (v_sw) (v_tr) (v_sg) i).2) (d_ix (v_ss) (((l_ag (v_sw) (v_tr) (v_sg) i).2)) (-1) 3 (v_ng) j)))) H _ := Wd.perm hw (perm9 (fun a => by simp only [cnt9_app, cnt9_cons, cnt9_nil] <;> omega))
      have h9 := sg_pass_90 (e := e) (below := below) l E hC0 q u_2 v_ni v_wa v_un v_ns v_np v_nw (d_n (v_ss) (((l_ag (v_sw) (v_tr) (v_sg) i).2)) (-1) 3 (v_ng)) v_ma v_st v_ou v_ru v_so v_mt v_vo v_gi v_ca ((l_ag (v_sw) (v_tr) (v_sg) i).1) (fun j => v_sw (d_ix (v_ss) (((l_ag (v_sw) (v_tr) (v_sg) i).2)) (-1) 3 (v_ng) j)) (fun j => v_ss (d_ix (v_ss) (((l_ag (v_sw) (v_tr) (v_sg) i).2)) (-1) 3 (v_ng) j)) (fun j => ((l_ag (v_sw) (v_tr) (v_sg) i).2) (d_ix (v_ss) (((l_ag (v_sw) (v_tr) (v_sg) i).2)) (-1) 3 (v_ng) j)) (hns) (hnp) (hnw) (Nat.le_trans (d_n_le _ _ _ _ _) hng) (hso) (fun j hj => hsw _ (d_ix_lt _ _ _ _ _ j hj)) hw (lv_sub hl [0, 1] rfl)
      rw [← hz_1] at h9
      exact h9
    | succ k9 ih_13 =>
      intro i H locs ls hi hw hl
      have hi9 : i < v_ng := by omega
      refine lv_iload hx hb dX3_pass_13 (lv_at hl 4 rfl) ?_
      refine lv_iload_n hx hb dX3_pass_15 rfl (lv_at hl 3 rfl) ?_
      refine lv_icmp_ge (tgt := 84) hx hb dX3_pass_16 (by decide) (fun q8 => absurd q8 (nI_ge (a := i) (b := v_ng) (by omega) (by omega))) (fun _ => ?_)
      refine lv_aload_n hx hb dX3_pass_19 rfl (lv_at hl 2 rfl) ?_
      refine lv_iload hx hb dX3_pass_20 (lv_at hl 4 rfl) ?_
      refine k_qld (i := i) (y := P.2.2.2 i) (n := v_ng) hx hb hK hw 4 rfl (show i < v_ng from by omega) (show v_ng < 2 ^ 31 by omega) rfl dX3_pass_22 ?_
      refine lv_astore (lv' := [(5, .ref (P.2.2.2 i)), (0, .ref q), (1, .int 0), (2, .ref (P.1 4)), (3, .int (nI v_ng)), (4, .int (nI i))]) hx hb dX3_pass_23 hl (by decide) rfl (fun ls hl => ?_)
      refine lv_aload hx hb dX3_pass_25 (lv_at hl 0 rfl) ?_
      refine lv_iconst (v := 2) hx hb dX3_pass_27 (by decide) ?_
      refine lv_dup2_11 hx hb dX3_pass_28 rfl rfl ?_
      refine k_ildP (i := 2) (v := ((l_ag (v_sw) (v_tr) (v_sg) i).2) i) hx hb hK hw (Pk_3 (i := i) (show i < v_ng from by omega)) (by decide) (by decide) rfl dX3_pass_29 ?_
      refine lv_iconst (v := 1) hx hb dX3_pass_30 (by decide) ?_
      refine lv_iadd hx hb dX3_pass_31 ?_
      refine k_istP (i := 2) (ws' := wS E q P (mkS v_ni v_wa v_un v_ns v_np v_nw v_ng v_ma v_st v_ou v_ru v_so v_mt v_vo v_gi v_ca ((l_ag (v_sw) (v_tr) (v_sg) i).1) v_sw v_ss (upd ((l_ag (v_sw) (v_tr) (v_sg) i).2) i ((((l_ag (v_sw) (v_tr) (v_sg) i).2) i) + 1)))) hx hb hK hw (Pk_sg ((((l_ag (v_sw) (v_tr) (v_sg) i).2) i) + 1) (i := i) (show i < v_ng from by omega)) (by decide) (by decide) dX3_pass_32 (fun H locs hw => ?_)
      refine lv_aload hx hb dX3_pass_33 (lv_at hl 0 rfl) ?_
      refine lv_iconst (v := 2) hx hb dX3_pass_35 (by decide) ?_
      refine k_ildP (i := 2) (v := (((l_ag (v_sw) (v_tr) (v_sg) i).2) i) + 1) hx hb hK hw (Pk_3 (i := i) (show i < v_ng from by omega)) (by decide) (by decide) pk_us dX3_pass_36 ?_
      refine lv_iconst (v := 3) hx hb dX3_pass_37 (by decide) ?_
      refine lv_icmp_ne (tgt := 78) hx hb dX3_pass_38 (by decide) (fun c_3 => ?_) (fun c_3 => ?_)
      · have c_3 : ¬ ((((l_ag (v_sw) (v_tr) (v_sg) i).2) i) + 1 : Int32) = 3 := c_3
        refine lv_iinc (v := nI (i + 1)) (lv' := [(4, .int (nI (i + 1))), (5, .ref (P.2.2.2 i)), (0, .ref q), (1, .int 0), (2, .ref (P.1 4)), (3, .int (nI v_ng))]) hx hb dX3_pass_78 hl (k := 5) rfl (nI_add i 1) (by decide) rfl (fun ls hl => ?_)
        refine lv_goto (tgt := 13) hx hb dX3_pass_81 (by decide) ?_
        exact ih_13 (i + 1) _ _ _ (by omega) (hw.to (by first | assumption | (simp only [l_ag, l_ub, l_cd, f_cd, if_neg c_3, if_true, if_false, Bool.false_eq_true, Bool.true_eq_false, reduceIte, reduceCtorEq]; done) | (simp only [l_ag, l_ub, l_cd, f_cd, if_neg c_3, if_true, if_false, Bool.false_eq_true, Bool.true_eq_false, reduceIte, reduceCtorEq]; rfl) | rfl | (simp [l_ag, l_ub, l_cd, f_cd, if_neg c_3, if_true, if_false, Bool.false_eq_true, Bool.true_eq_false, reduceIte, reduceCtorEq]; done) | (simp [bI, l_ag, l_ub, l_cd, f_cd, c_3]; done))) (lv_sub hl [2, 3, 4, 5, 0] rfl)
      · have c_3 : ((((l_ag (v_sw) (v_tr) (v_sg) i).2) i) + 1 : Int32) = 3 := c_3
        refine lv_aload_n hx hb dX3_pass_41 rfl (lv_at hl 1 rfl) ?_
        refine k_get (ci := 3) (v := .ref (P.1 3)) (C := RX3) (T := TX3) (N := 7) hx hb hown hK hw hts hinX3 0 rfl rfl 5 (by decide) hf18 rfl dX3_pass_42 ?_
        refine lv_aload hx hb dX3_pass_45 (lv_at hl 0 rfl) ?_
        refine lv_iconst (v := 0) hx hb dX3_pass_47 (by decide) ?_
        refine k_ildP (i := 0) (v := nI (v_sw i)) hx hb hK hw (Pk_3 (i := i) (show i < v_ng from by omega)) (by decide) (by decide) rfl dX3_pass_48 ?_
        refine lv_aload_n hx hb dX3_pass_49 rfl (lv_at hl 1 rfl) ?_
        refine k_get (ci := 3) (v := .ref (P.1 3)) (C := RX3) (T := TX3) (N := 7) hx hb hown hK hw hts hinX3 0 rfl rfl 5 (by decide) hf18 rfl dX3_pass_50 ?_
        refine lv_aload hx hb dX3_pass_53 (lv_at hl 0 rfl) ?_
        refine lv_iconst (v := 0) hx hb dX3_pass_55 (by decide) ?_
        refine k_ildP (i := 0) (v := nI (v_sw i)) hx hb hK hw (Pk_3 (i := i) (show i < v_ng from by omega)) (by decide) (by decide) rfl dX3_pass_56 ?_
        refine k_ildN (i := v_sw i) (n := v_nw) (f := (l_ag (v_sw) (v_tr) (v_sg) i).1) hx hb hK hw 3 rfl (show v_sw i < v_nw from by have := hsw i (by omega); omega) (show v_nw < 2 ^ 31 by omega) dX3_pass_57 ?_
        refine lv_iconst (v := 2) hx hb dX3_pass_58 (by decide) ?_
        refine lv_icmp_ge (tgt := 66) hx hb dX3_pass_59 (by decide) (fun c_4 => ?_) (fun c_4 => ?_)
        · have c_4 : (2 : Int32) ≤ ((l_ag (v_sw) (v_tr) (v_sg) i).1) (v_sw i) := c_4
          refine lv_aload_n hx hb dX3_pass_66 rfl (lv_at hl 1 rfl) ?_
          refine k_get (ci := 3) (v := .ref (P.1 3)) (C := RX3) (T := TX3) (N := 7) hx hb hown hK hw hts hinX3 0 rfl rfl 5 (by decide) hf18 rfl dX3_pass_67 ?_
          refine lv_aload hx hb dX3_pass_70 (lv_at hl 0 rfl) ?_
          refine lv_iconst (v := 0) hx hb dX3_pass_72 (by decide) ?_
          refine k_ildP (i := 0) (v := nI (v_sw i)) hx hb hK hw (Pk_3 (i := i) (show i < v_ng from by omega)) (by decide) (by decide) rfl dX3_pass_73 ?_
          refine k_ildN (i := v_sw i) (n := v_nw) (f := (l_ag (v_sw) (v_tr) (v_sg) i).1) hx hb hK hw 3 rfl (show v_sw i < v_nw from by have := hsw i (by omega); omega) (show v_nw < 2 ^ 31 by omega) dX3_pass_74 ?_
          refine lv_iconst (v := 2) hx hb dX3_pass_75 (by decide) ?_
          refine lv_isub hx hb dX3_pass_76 ?_
          refine k_istP (i := v_sw i) (n := v_nw) (f := (l_ag (v_sw) (v_tr) (v_sg) i).1) (ws' := wS E q P (mkS v_ni v_wa v_un v_ns v_np v_nw v_ng v_ma v_st v_ou v_ru v_so v_mt v_vo v_gi v_ca (upd ((l_ag (v_sw) (v_tr) (v_sg) i).1) (v_sw i) ((((l_ag (v_sw) (v_tr) (v_sg) i).1) (v_sw i)) - 2)) v_sw v_ss (upd ((l_ag (v_sw) (v_tr) (v_sg) i).2) i ((((l_ag (v_sw) (v_tr) (v_sg) i).2) i) + 1)))) hx hb hK hw (Pk_tr (upd ((l_ag (v_sw) (v_tr) (v_sg) i).1) (v_sw i) ((((l_ag (v_sw) (v_tr) (v_sg) i).1) (v_sw i)) - 2))) (show v_sw i < v_nw from by have := hsw i (by omega); omega) (show v_nw < 2 ^ 31 by omega) dX3_pass_77 (fun H locs hw => ?_)
          refine lv_iinc (v := nI (i + 1)) (lv' := [(4, .int (nI (i + 1))), (5, .ref (P.2.2.2 i)), (0, .ref q), (1, .int 0), (2, .ref (P.1 4)), (3, .int (nI v_ng))]) hx hb dX3_pass_78 hl (k := 5) rfl (nI_add i 1) (by decide) rfl (fun ls hl => ?_)
          refine lv_goto (tgt := 13) hx hb dX3_pass_81 (by decide) ?_
          exact ih_13 (i + 1) _ _ _ (by omega) (hw.to (by first | assumption | (simp only [l_ag, l_ub, l_cd, f_cd, if_pos c_3, if_pos c_4, if_true, if_false, Bool.false_eq_true, Bool.true_eq_false, reduceIte, reduceCtorEq]; done) | (simp only [l_ag, l_ub, l_cd, f_cd, if_pos c_3, if_pos c_4, if_true, if_false, Bool.false_eq_true, Bool.true_eq_false, reduceIte, reduceCtorEq]; rfl) | rfl | (simp [l_ag, l_ub, l_cd, f_cd, if_pos c_3, if_pos c_4, if_true, if_false, Bool.false_eq_true, Bool.true_eq_false, reduceIte, reduceCtorEq]; done) | (simp [bI, l_ag, l_ub, l_cd, f_cd, c_3, c_4]; done))) (lv_sub hl [2, 3, 4, 5, 0] rfl)
        · have c_4 : ¬ (2 : Int32) ≤ ((l_ag (v_sw) (v_tr) (v_sg) i).1) (v_sw i) := c_4
          refine lv_iconst (v := 0) hx hb dX3_pass_62 (by decide) ?_
          refine lv_goto (tgt := 77) hx hb dX3_pass_63 (by decide) ?_
          refine k_istP (i := v_sw i) (n := v_nw) (f := (l_ag (v_sw) (v_tr) (v_sg) i).1) (ws' := wS E q P (mkS v_ni v_wa v_un v_ns v_np v_nw v_ng v_ma v_st v_ou v_ru v_so v_mt v_vo v_gi v_ca (upd ((l_ag (v_sw) (v_tr) (v_sg) i).1) (v_sw i) 0) v_sw v_ss (upd ((l_ag (v_sw) (v_tr) (v_sg) i).2) i ((((l_ag (v_sw) (v_tr) (v_sg) i).2) i) + 1)))) hx hb hK hw (Pk_tr (upd ((l_ag (v_sw) (v_tr) (v_sg) i).1) (v_sw i) 0)) (show v_sw i < v_nw from by have := hsw i (by omega); omega) (show v_nw < 2 ^ 31 by omega) dX3_pass_77 (fun H locs hw => ?_)
          refine lv_iinc (v := nI (i + 1)) (lv' := [(4, .int (nI (i + 1))), (5, .ref (P.2.2.2 i)), (0, .ref q), (1, .int 0), (2, .ref (P.1 4)), (3, .int (nI v_ng))]) hx hb dX3_pass_78 hl (k := 5) rfl (nI_add i 1) (by decide) rfl (fun ls hl => ?_)
          refine lv_goto (tgt := 13) hx hb dX3_pass_81 (by decide) ?_
          exact ih_13 (i + 1) _ _ _ (by omega) (hw.to (by first | assumption | (simp only [l_ag, l_ub, l_cd, f_cd, if_pos c_3, if_neg c_4, if_true, if_false, Bool.false_eq_true, Bool.true_eq_false, reduceIte, reduceCtorEq]; done) | (simp only [l_ag, l_ub, l_cd, f_cd, if_pos c_3, if_neg c_4, if_true, if_false, Bool.false_eq_true, Bool.true_eq_false, reduceIte, reduceCtorEq]; rfl) | rfl | (simp [l_ag, l_ub, l_cd, f_cd, if_pos c_3, if_neg c_4, if_true, if_false, Bool.false_eq_true, Bool.true_eq_false, reduceIte, reduceCtorEq]; done) | (simp [bI, l_ag, l_ub, l_cd, f_cd, c_3, c_4]; done))) (lv_sub hl [2, 3, 4, 5, 0] rfl)
  exact L_13 (v_ng - 0) 0 _ _ _ (by omega) hw (lv_sub hl [4, 3, 2, 1, 0] rfl)
