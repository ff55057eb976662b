abbrev rm_L_below : Room := { frames := 0, cells := 0, slots := 0, locals := 0 }
set_option maxHeartbeats 4000000 in
set_option maxRecDepth 100000 in
theorem c_L_below (l : Launch) (E : Ev) (v : Int32) (n : Nat) (h0 : 0 < n) (hn : n < 1000) : MI l E yL_below wsL_below rm_L_below [.int v, .int (nI n)] ([] : va_W) (nI (bl v n)) ([] : va_W) := by
  refine k_bI (cc := cL_below) (maxL := 2) (ret := (some .int)) (by decide) rfl (Nat.le_of_ble_eq_true rfl) ?_
  intro p9 e s9 m args below meth c A9 ls hC hl hw
  obtain ⟨hx, hb, hml, hr, hown, hts, hlocks, hK, hG, hA⟩ := hC
  have hq0 := hts (.constant RL 7 (2147483647)) (List.mem_of_getElem? (i := 1) rfl)
  have hl : lv_has ls 2 [(0, .int v), (1, .int (nI n))] := hl
  refine lv_iload_n hx hb dL_below_0 rfl (lv_at hl 0 rfl) ?_
  refine lv_ldc (v := 2147483647) hx hb hown hq0 dL_below_1 ?_
  refine lv_iand hx hb dL_below_3 ?_
  refine lv_iload_n hx hb dL_below_4 rfl (lv_at hl 1 rfl) ?_
  refine lv_irem hx hb dL_below_5 (bl_ne h0 (by omega)) ?_
  exact k_iret hx hb hr hlocks hK hw rfl dL_below_6 (bl_val h0 (by omega)) rfl
abbrev rm_L_refused : Room := { frames := 1, cells := 0, slots := 0, locals := 27 }
set_option maxHeartbeats 4000000 in
set_option maxRecDepth 100000 in
theorem c_L_refused (l : Launch) (E : Ev) (q : Nat) (P : AP) (v_ni v_wa v_un : Int32) (v_ns v_np v_nw v_ng : Nat) (v_ma v_st v_ou v_ru : Fn) (v_so : FnN) (v_mt v_vo v_gi v_ca v_tr : Fn) (v_sw v_ss : FnN) (v_sg : Fn) (x : Int32) (s w p : Nat) (hns : v_ns ≤ 5) (hnp : v_np ≤ 16) (hnw : v_nw ≤ 4) (hng : v_ng ≤ 20) (hso : ∀ p, p < v_np → v_so p < v_ns) (hsw : ∀ j, j < v_ng → v_sw j < v_nw) (hs : s < v_ns) (hp : 0 < v_np → p < v_np) : MI l E yL_refused wsL_refused rm_L_refused [.ref q, .int x, .int (nI s), .int (nI w), .int (nI p)] (wS E q P (mkS v_ni v_wa v_un v_ns v_np v_nw v_ng v_ma v_st v_ou v_ru v_so v_mt v_vo v_gi v_ca v_tr v_sw v_ss v_sg)) (bI (f_ref v_ns v_np v_nw v_ng v_st v_vo v_so v_sw v_ss x s w p)) (wS E q P (mkS v_ni v_wa v_un v_ns v_np v_nw v_ng v_ma v_st v_ou v_ru v_so v_mt v_vo v_gi v_ca v_tr v_sw v_ss v_sg)) := by
  refine k_bI (cc := cL_refused) (maxL := 5) (ret := (some .boolean)) (by decide) rfl (Nat.le_of_ble_eq_true rfl) ?_
  intro p9 e s9 m args below meth c A9 ls hC hl hw
  obtain ⟨hx, hb, hml, hr, hown, hts, hlocks, hK, hG, hA⟩ := hC
  have hf9 := hts (.fieldLink RL 9 "SailorCandlesLaw$Sim" "ships" "[[I") (List.mem_of_getElem? (i := 1) rfl)
  have hinX3 : ∀ w ∈ wsX30, w ∈ wsL_refused := fun w h => List.mem_cons_of_mem _ (List.mem_append_right _ h)
  have hf25 := hts (.fieldLink RL 25 "SailorCandlesLaw$Sim" "sailors" "[[I") (List.mem_of_getElem? (i := 2) rfl)
  have hf21 := hts (.fieldLink RL 21 "SailorCandlesLaw$Sim" "trust" "[I") (List.mem_of_getElem? (i := 3) rfl)
  have hl : lv_has ls 5 [(0, .ref q), (1, .int x), (2, .int (nI s)), (3, .int (nI w)), (4, .int (nI p))] := hl
  refine lv_iload_n hx hb dL_refused_0 rfl (lv_at hl 1 rfl) ?_
  refine lv_bipush (v := 18) hx hb dL_refused_1 (by decide) ?_
  refine kr_i (ws' := wS E q P (mkS v_ni v_wa v_un v_ns v_np v_nw v_ng v_ma v_st v_ou v_ru v_so v_mt v_vo v_gi v_ca v_tr v_sw v_ss v_sg)) (va_runS (As := [.int x, .int 18]) (rest := []) ⟨hx, hb, hml, hown, hts⟩ (c_L_below l E x 18 (by omega) (by omega) _) (va_cwS 2 hts gL_refused_L_below rfl rfl rfl hd_L_below ⟨Nat.le_of_ble_eq_true rfl, Nat.le_of_ble_eq_true rfl⟩) (rpS (AV := [.int x, .int 18]) hw hK hG rp_75) rfl rfl hl.1 rfl (lv_room (Nat.le_of_ble_eq_true rfl)) dL_refused_3 ⟨Nat.le_of_ble_eq_true rfl, Nat.le_of_ble_eq_true rfl⟩) hw hA rp_75 (fun H locs hw => ?_)
  by_cases k_1 : bl x 18 = 0
  · refine k_tabIn (j := 0) (tgt := 76) hx hb dL_refused_6 k_1 (by decide) (by decide) rfl (by decide) ?_
    refine lv_aload_n hx hb dL_refused_76 rfl (lv_at hl 0 rfl) ?_
    refine k_get (ci := 3) (v := .ref (P.1 1)) (C := RX3) (T := TX3) (N := 7) hx hb hown hK hw hts hinX3 0 rfl rfl 3 (by decide) hf9 rfl dL_refused_77 ?_
    refine k_lenQ (n := v_ns) hx hb hK hw 1 rfl dL_refused_80 ?_
    refine lv_iconst (v := 5) hx hb dL_refused_81 (by decide) ?_
    refine lv_icmp_ne (tgt := 89) hx hb dL_refused_82 (by decide) (fun c_2 => ?_) (fun c_2 => ?_)
    · have c_2 : ¬ (nI v_ns : Int32) = 5 := c_2
      refine lv_iconst (v := 0) hx hb dL_refused_89 (by decide) ?_
      exact k_iret hx hb hr hlocks hK hw rfl dL_refused_90 (by first | assumption | (simp only [f_ref, bI_t, bI_f, if_pos k_1, if_neg c_2, if_true, if_false, Bool.false_eq_true, Bool.true_eq_false, reduceIte, reduceCtorEq]; done) | (simp only [f_ref, bI_t, bI_f, if_pos k_1, if_neg c_2, if_true, if_false, Bool.false_eq_true, Bool.true_eq_false, reduceIte, reduceCtorEq]; rfl) | rfl | (simp [f_ref, bI_t, bI_f, if_pos k_1, if_neg c_2, if_true, if_false, Bool.false_eq_true, Bool.true_eq_false, reduceIte, reduceCtorEq]; done) | (simp [bI, f_ref, bI_t, bI_f, k_1, c_2]; done)) rfl
    · have c_2 : (nI v_ns : Int32) = 5 := c_2
      refine lv_iconst (v := 1) hx hb dL_refused_85 (by decide) ?_
      refine lv_goto (tgt := 90) hx hb dL_refused_86 (by decide) ?_
      exact k_iret hx hb hr hlocks hK hw rfl dL_refused_90 (by first | assumption | (simp only [f_ref, bI_t, bI_f, if_pos k_1, if_pos c_2, if_true, if_false, Bool.false_eq_true, Bool.true_eq_false, reduceIte, reduceCtorEq]; done) | (simp only [f_ref, bI_t, bI_f, if_pos k_1, if_pos c_2, if_true, if_false, Bool.false_eq_true, Bool.true_eq_false, reduceIte, reduceCtorEq]; rfl) | rfl | (simp [f_ref, bI_t, bI_f, if_pos k_1, if_pos c_2, if_true, if_false, Bool.false_eq_true, Bool.true_eq_false, reduceIte, reduceCtorEq]; done) | (simp [bI, f_ref, bI_t, bI_f, k_1, c_2]; done)) rfl
  by_cases k_3 : bl x 18 = 1
  · refine k_tabIn (j := 1) (tgt := 91) hx hb dL_refused_6 k_3 (by decide) (by decide) rfl (by decide) ?_
    refine lv_aload_n hx hb dL_refused_91 rfl (lv_at hl 0 rfl) ?_
    refine k_get (ci := 3) (v := .ref (P.1 1)) (C := RX3) (T := TX3) (N := 7) hx hb hown hK hw hts hinX3 0 rfl rfl 3 (by decide) hf9 rfl dL_refused_92 ?_
    refine lv_iload_n hx hb dL_refused_95 rfl (lv_at hl 2 rfl) ?_
    refine k_qld (i := s) (y := P.2.1 s) (n := v_ns) hx hb hK hw 1 rfl (show s < v_ns from hs) (show v_ns < 2 ^ 31 by omega) rfl dL_refused_96 ?_
    refine lv_iconst (v := 1) hx hb dL_refused_97 (by decide) ?_
    refine k_ildP (i := 1) (v := v_st s) hx hb hK hw (Pk_4 (i := s) (show s < v_ns from hs)) (by decide) (by decide) rfl dL_refused_98 ?_
    refine lv_if_gt (tgt := 112) hx hb dL_refused_99 (by decide) (fun c_4 => ?_) (fun c_4 => ?_)
    · have c_4 : (0 : Int32) < v_st s := c_4
      refine lv_iconst (v := 1) hx hb dL_refused_112 (by decide) ?_
      refine lv_goto (tgt := 117) hx hb dL_refused_113 (by decide) ?_
      exact k_iret hx hb hr hlocks hK hw rfl dL_refused_117 (by first | assumption | (simp only [f_ref, bI_t, bI_f, if_neg k_1, if_pos k_3, if_pos c_4, if_true, if_false, Bool.false_eq_true, Bool.true_eq_false, reduceIte, reduceCtorEq]; done) | (simp only [f_ref, bI_t, bI_f, if_neg k_1, if_pos k_3, if_pos c_4, if_true, if_false, Bool.false_eq_true, Bool.true_eq_false, reduceIte, reduceCtorEq]; rfl) | rfl | (simp [f_ref, bI_t, bI_f, if_neg k_1, if_pos k_3, if_pos c_4, if_true, if_false, Bool.false_eq_true, Bool.true_eq_false, reduceIte, reduceCtorEq]; done) | (simp [bI, f_ref, bI_t, bI_f, k_1, k_3, c_4]; done)) rfl
    · have c_4 : ¬ (0 : Int32) < v_st s := c_4
      refine lv_aload_n hx hb dL_refused_102 rfl (lv_at hl 0 rfl) ?_
      refine k_get (ci := 3) (v := .ref (P.1 2)) (C := RX3) (T := TX3) (N := 7) hx hb hown hK hw hts hinX3 0 rfl rfl 4 (by decide) hf25 rfl dL_refused_103 ?_
      refine k_lenQ (n := v_np) hx hb hK hw 2 rfl dL_refused_106 ?_
      refine lv_bipush (v := 16) hx hb dL_refused_107 (by decide) ?_
      refine lv_icmp_ne (tgt := 116) hx hb dL_refused_109 (by decide) (fun c_5 => ?_) (fun c_5 => ?_)
      · have c_5 : ¬ (nI v_np : Int32) = 16 := c_5
        refine lv_iconst (v := 0) hx hb dL_refused_116 (by decide) ?_
        exact k_iret hx hb hr hlocks hK hw rfl dL_refused_117 (by first | assumption | (simp only [f_ref, bI_t, bI_f, if_neg k_1, if_pos k_3, if_neg c_4, if_neg c_5, if_true, if_false, Bool.false_eq_true, Bool.true_eq_false, reduceIte, reduceCtorEq]; done) | (simp only [f_ref, bI_t, bI_f, if_neg k_1, if_pos k_3, if_neg c_4, if_neg c_5, if_true, if_false, Bool.false_eq_true, Bool.true_eq_false, reduceIte, reduceCtorEq]; rfl) | rfl | (simp [f_ref, bI_t, bI_f, if_neg k_1, if_pos k_3, if_neg c_4, if_neg c_5, if_true, if_false, Bool.false_eq_true, Bool.true_eq_false, reduceIte, reduceCtorEq]; done) | (simp [bI, f_ref, bI_t, bI_f, k_1, k_3, c_4, c_5]; done)) rfl
      · have c_5 : (nI v_np : Int32) = 16 := c_5
        refine lv_iconst (v := 1) hx hb dL_refused_112 (by decide) ?_
        refine lv_goto (tgt := 117) hx hb dL_refused_113 (by decide) ?_
        exact k_iret hx hb hr hlocks hK hw rfl dL_refused_117 (by first | assumption | (simp only [f_ref, bI_t, bI_f, if_neg k_1, if_pos k_3, if_neg c_4, if_pos c_5, if_true, if_false, Bool.false_eq_true, Bool.true_eq_false, reduceIte, reduceCtorEq]; done) | (simp only [f_ref, bI_t, bI_f, if_neg k_1, if_pos k_3, if_neg c_4, if_pos c_5, if_true, if_false, Bool.false_eq_true, Bool.true_eq_false, reduceIte, reduceCtorEq]; rfl) | rfl | (simp [f_ref, bI_t, bI_f, if_neg k_1, if_pos k_3, if_neg c_4, if_pos c_5, if_true, if_false, Bool.false_eq_true, Bool.true_eq_false, reduceIte, reduceCtorEq]; done) | (simp [bI, f_ref, bI_t, bI_f, k_1, k_3, c_4, c_5]; done)) rfl
  by_cases k_6 : bl x 18 = 2
  · refine k_tabIn (j := 2) (tgt := 91) hx hb dL_refused_6 k_6 (by decide) (by decide) rfl (by decide) ?_
    refine lv_aload_n hx hb dL_refused_91 rfl (lv_at hl 0 rfl) ?_
    refine k_get (ci := 3) (v := .ref (P.1 1)) (C := RX3) (T := TX3) (N := 7) hx hb hown hK hw hts hinX3 0 rfl rfl 3 (by decide) hf9 rfl dL_refused_92 ?_
    refine lv_iload_n hx hb dL_refused_95 rfl (lv_at hl 2 rfl) ?_
    refine k_qld (i := s) (y := P.2.1 s) (n := v_ns) hx hb hK hw 1 rfl (show s < v_ns from hs) (show v_ns < 2 ^ 31 by omega) rfl dL_refused_96 ?_
    refine lv_iconst (v := 1) hx hb dL_refused_97 (by decide) ?_
    refine k_ildP (i := 1) (v := v_st s) hx hb hK hw (Pk_4 (i := s) (show s < v_ns from hs)) (by decide) (by decide) rfl dL_refused_98 ?_
    refine lv_if_gt (tgt := 112) hx hb dL_refused_99 (by decide) (fun c_7 => ?_) (fun c_7 => ?_)
    · have c_7 : (0 : Int32) < v_st s := c_7
      refine lv_iconst (v := 1) hx hb dL_refused_112 (by decide) ?_
      refine lv_goto (tgt := 117) hx hb dL_refused_113 (by decide) ?_
      exact k_iret hx hb hr hlocks hK hw rfl dL_refused_117 (by first | assumption | (simp only [f_ref, bI_t, bI_f, if_neg k_1, if_neg k_3, if_pos k_6, if_pos c_7, if_true, if_false, Bool.false_eq_true, Bool.true_eq_false, reduceIte, reduceCtorEq]; done) | (simp only [f_ref, bI_t, bI_f, if_neg k_1, if_neg k_3, if_pos k_6, if_pos c_7, if_true, if_false, Bool.false_eq_true, Bool.true_eq_false, reduceIte, reduceCtorEq]; rfl) | rfl | (simp [f_ref, bI_t, bI_f, if_neg k_1, if_neg k_3, if_pos k_6, if_pos c_7, if_true, if_false, Bool.false_eq_true, Bool.true_eq_false, reduceIte, reduceCtorEq]; done) | (simp [bI, f_ref, bI_t, bI_f, k_1, k_3, k_6, c_7]; done)) rfl
    · have c_7 : ¬ (0 : Int32) < v_st s := c_7
      refine lv_aload_n hx hb dL_refused_102 rfl (lv_at hl 0 rfl) ?_
      refine k_get (ci := 3) (v := .ref (P.1 2)) (C := RX3) (T := TX3) (N := 7) hx hb hown hK hw hts hinX3 0 rfl rfl 4 (by decide) hf25 rfl dL_refused_103 ?_
      refine k_lenQ (n := v_np) hx hb hK hw 2 rfl dL_refused_106 ?_
      refine lv_bipush (v := 16) hx hb dL_refused_107 (by decide) ?_
      refine lv_icmp_ne (tgt := 116) hx hb dL_refused_109 (by decide) (fun c_8 => ?_) (fun c_8 => ?_)
      · have c_8 : ¬ (nI v_np : Int32) = 16 := c_8
        refine lv_iconst (v := 0) hx hb dL_refused_116 (by decide) ?_
        exact k_iret hx hb hr hlocks hK hw rfl dL_refused_117 (by first | assumption | (simp only [f_ref, bI_t, bI_f, if_neg k_1, if_neg k_3, if_pos k_6, if_neg c_7, if_neg c_8, if_true, if_false, Bool.false_eq_true, Bool.true_eq_false, reduceIte, reduceCtorEq]; done) | (simp only [f_ref, bI_t, bI_f, if_neg k_1, if_neg k_3, if_pos k_6, if_neg c_7, if_neg c_8, if_true, if_false, Bool.false_eq_true, Bool.true_eq_false, reduceIte, reduceCtorEq]; rfl) | rfl | (simp [f_ref, bI_t, bI_f, if_neg k_1, if_neg k_3, if_pos k_6, if_neg c_7, if_neg c_8, if_true, if_false, Bool.false_eq_true, Bool.true_eq_false, reduceIte, reduceCtorEq]; done) | (simp [bI, f_ref, bI_t, bI_f, k_1, k_3, k_6, c_7, c_8]; done)) rfl
      · have c_8 : (nI v_np : Int32) = 16 := c_8
        refine lv_iconst (v := 1) hx hb dL_refused_112 (by decide) ?_
        refine lv_goto (tgt := 117) hx hb dL_refused_113 (by decide) ?_
        exact k_iret hx hb hr hlocks hK hw rfl dL_refused_117 (by first | assumption | (simp only [f_ref, bI_t, bI_f, if_neg k_1, if_neg k_3, if_pos k_6, if_neg c_7, if_pos c_8, if_true, if_false, Bool.false_eq_true, Bool.true_eq_false, reduceIte, reduceCtorEq]; done) | (simp only [f_ref, bI_t, bI_f, if_neg k_1, if_neg k_3, if_pos k_6, if_neg c_7, if_pos c_8, if_true, if_false, Bool.false_eq_true, Bool.true_eq_false, reduceIte, reduceCtorEq]; rfl) | rfl | (simp [f_ref, bI_t, bI_f, if_neg k_1, if_neg k_3, if_pos k_6, if_neg c_7, if_pos c_8, if_true, if_false, Bool.false_eq_true, Bool.true_eq_false, reduceIte, reduceCtorEq]; done) | (simp [bI, f_ref, bI_t, bI_f, k_1, k_3, k_6, c_7, c_8]; done)) rfl
  by_cases k_9 : bl x 18 = 3
  · refine k_tabIn (j := 3) (tgt := 118) hx hb dL_refused_6 k_9 (by decide) (by decide) rfl (by decide) ?_
    refine lv_aload_n hx hb dL_refused_118 rfl (lv_at hl 0 rfl) ?_
    refine k_get (ci := 3) (v := .ref (P.1 3)) (C := RX3) (T := TX3) (N := 7) hx hb hown hK hw hts hinX3 0 rfl rfl 5 (by decide) hf21 rfl dL_refused_119 ?_
    refine k_lenI (n := v_nw) hx hb hK hw 3 rfl dL_refused_122 ?_
    refine lv_iconst (v := 4) hx hb dL_refused_123 (by decide) ?_
    refine lv_icmp_ne (tgt := 131) hx hb dL_refused_124 (by decide) (fun c_10 => ?_) (fun c_10 => ?_)
    · have c_10 : ¬ (nI v_nw : Int32) = 4 := c_10
      refine lv_iconst (v := 0) hx hb dL_refused_131 (by decide) ?_
      exact k_iret hx hb hr hlocks hK hw rfl dL_refused_132 (by first | assumption | (simp only [f_ref, bI_t, bI_f, if_neg k_1, if_neg k_3, if_neg k_6, if_pos k_9, if_neg c_10, if_true, if_false, Bool.false_eq_true, Bool.true_eq_false, reduceIte, reduceCtorEq]; done) | (simp only [f_ref, bI_t, bI_f, if_neg k_1, if_neg k_3, if_neg k_6, if_pos k_9, if_neg c_10, if_true, if_false, Bool.false_eq_true, Bool.true_eq_false, reduceIte, reduceCtorEq]; rfl) | rfl | (simp [f_ref, bI_t, bI_f, if_neg k_1, if_neg k_3, if_neg k_6, if_pos k_9, if_neg c_10, if_true, if_false, Bool.false_eq_true, Bool.true_eq_false, reduceIte, reduceCtorEq]; done) | (simp [bI, f_ref, bI_t, bI_f, k_1, k_3, k_6, k_9, c_10]; done)) rfl
    · have c_10 : (nI v_nw : Int32) = 4 := c_10
      refine lv_iconst (v := 1) hx hb dL_refused_127 (by decide) ?_
      refine lv_goto (tgt := 132) hx hb dL_refused_128 (by decide) ?_
      exact k_iret hx hb hr hlocks hK hw rfl dL_refused_132 (by first | assumption | (simp only [f_ref, bI_t, bI_f, if_neg k_1, if_neg k_3, if_neg k_6, if_pos k_9, if_pos c_10, if_true, if_false, Bool.false_eq_true, Bool.true_eq_false, reduceIte, reduceCtorEq]; done) | (simp only [f_ref, bI_t, bI_f, if_neg k_1, if_neg k_3, if_neg k_6, if_pos k_9, if_pos c_10, if_true, if_false, Bool.false_eq_true, Bool.true_eq_false, reduceIte, reduceCtorEq]; rfl) | rfl | (simp [f_ref, bI_t, bI_f, if_neg k_1, if_neg k_3, if_neg k_6, if_pos k_9, if_pos c_10, if_true, if_false, Bool.false_eq_true, Bool.true_eq_false, reduceIte, reduceCtorEq]; done) | (simp [bI, f_ref, bI_t, bI_f, k_1, k_3, k_6, k_9, c_10]; done)) rfl
  by_cases k_11 : bl x 18 = 4
  · refine k_tabIn (j := 4) (tgt := 240) hx hb dL_refused_6 k_11 (by decide) (by decide) rfl (by decide) ?_
    refine lv_iconst (v := 0) hx hb dL_refused_240 (by decide) ?_
    exact k_iret hx hb hr hlocks hK hw rfl dL_refused_241 (by first | assumption | (simp only [f_ref, bI_t, bI_f, if_neg k_1, if_neg k_3, if_neg k_6, if_neg k_9, if_pos k_11, if_true, if_false, Bool.false_eq_true, Bool.true_eq_false, reduceIte, reduceCtorEq]; done) | (simp only [f_ref, bI_t, bI_f, if_neg k_1, if_neg k_3, if_neg k_6, if_neg k_9, if_pos k_11, if_true, if_false, Bool.false_eq_true, Bool.true_eq_false, reduceIte, reduceCtorEq]; rfl) | rfl | (simp [f_ref, bI_t, bI_f, if_neg k_1, if_neg k_3, if_neg k_6, if_neg k_9, if_pos k_11, if_true, if_false, Bool.false_eq_true, Bool.true_eq_false, reduceIte, reduceCtorEq]; done) | (simp [bI, f_ref, bI_t, bI_f, k_1, k_3, k_6, k_9, k_11]; done)) rfl
  by_cases k_12 : bl x 18 = 5
  · refine k_tabIn (j := 5) (tgt := 133) hx hb dL_refused_6 k_12 (by decide) (by decide) rfl (by decide) ?_
    refine lv_aload_n hx hb dL_refused_133 rfl (lv_at hl 0 rfl) ?_
    refine k_get (ci := 3) (v := .ref (P.1 1)) (C := RX3) (T := TX3) (N := 7) hx hb hown hK hw hts hinX3 0 rfl rfl 3 (by decide) hf9 rfl dL_refused_134 ?_
    refine lv_iload_n hx hb dL_refused_137 rfl (lv_at hl 2 rfl) ?_
    refine k_qld (i := s) (y := P.2.1 s) (n := v_ns) hx hb hK hw 1 rfl (show s < v_ns from hs) (show v_ns < 2 ^ 31 by omega) rfl dL_refused_138 ?_
    refine lv_iconst (v := 1) hx hb dL_refused_139 (by decide) ?_
    refine k_ildP (i := 1) (v := v_st s) hx hb hK hw (Pk_4 (i := s) (show s < v_ns from hs)) (by decide) (by decide) rfl dL_refused_140 ?_
    refine lv_if_le (tgt := 148) hx hb dL_refused_141 (by decide) (fun c_13 => ?_) (fun c_13 => ?_)
    · have c_13 : (v_st s : Int32) ≤ 0 := c_13
      refine lv_iconst (v := 0) hx hb dL_refused_148 (by decide) ?_
      exact k_iret hx hb hr hlocks hK hw rfl dL_refused_149 (by first | assumption | (simp only [f_ref, bI_t, bI_f, if_neg k_1, if_neg k_3, if_neg k_6, if_neg k_9, if_neg k_11, if_pos k_12, if_pos c_13, if_true, if_false, Bool.false_eq_true, Bool.true_eq_false, reduceIte, reduceCtorEq]; done) | (simp only [f_ref, bI_t, bI_f, if_neg k_1, if_neg k_3, if_neg k_6, if_neg k_9, if_neg k_11, if_pos k_12, if_pos c_13, if_true, if_false, Bool.false_eq_true, Bool.true_eq_false, reduceIte, reduceCtorEq]; rfl) | rfl | (simp [f_ref, bI_t, bI_f, if_neg k_1, if_neg k_3, if_neg k_6, if_neg k_9, if_neg k_11, if_pos k_12, if_pos c_13, if_true, if_false, Bool.false_eq_true, Bool.true_eq_false, reduceIte, reduceCtorEq]; done) | (simp [bI, f_ref, bI_t, bI_f, k_1, k_3, k_6, k_9, k_11, k_12, c_13]; done)) rfl
    · have c_13 : ¬ (v_st s : Int32) ≤ 0 := c_13
      refine lv_iconst (v := 1) hx hb dL_refused_144 (by decide) ?_
      refine lv_goto (tgt := 149) hx hb dL_refused_145 (by decide) ?_
      exact k_iret hx hb hr hlocks hK hw rfl dL_refused_149 (by first | assumption | (simp only [f_ref, bI_t, bI_f, if_neg k_1, if_neg k_3, if_neg k_6, if_neg k_9, if_neg k_11, if_pos k_12, if_neg c_13, if_true, if_false, Bool.false_eq_true, Bool.true_eq_false, reduceIte, reduceCtorEq]; done) | (simp only [f_ref, bI_t, bI_f, if_neg k_1, if_neg k_3, if_neg k_6, if_neg k_9, if_neg k_11, if_pos k_12, if_neg c_13, if_true, if_false, Bool.false_eq_true, Bool.true_eq_false, reduceIte, reduceCtorEq]; rfl) | rfl | (simp [f_ref, bI_t, bI_f, if_neg k_1, if_neg k_3, if_neg k_6, if_neg k_9, if_neg k_11, if_pos k_12, if_neg c_13, if_true, if_false, Bool.false_eq_true, Bool.true_eq_false, reduceIte, reduceCtorEq]; done) | (simp [bI, f_ref, bI_t, bI_f, k_1, k_3, k_6, k_9, k_11, k_12, c_13]; done)) rfl
  by_cases k_14 : bl x 18 = 6
  · refine k_tabIn (j := 6) (tgt := 133) hx hb dL_refused_6 k_14 (by decide) (by decide) rfl (by decide) ?_
    refine lv_aload_n hx hb dL_refused_133 rfl (lv_at hl 0 rfl) ?_
    refine k_get (ci := 3) (v := .ref (P.1 1)) (C := RX3) (T := TX3) (N := 7) hx hb hown hK hw hts hinX3 0 rfl rfl 3 (by decide) hf9 rfl dL_refused_134 ?_
    refine lv_iload_n hx hb dL_refused_137 rfl (lv_at hl 2 rfl) ?_
    refine k_qld (i := s) (y := P.2.1 s) (n := v_ns) hx hb hK hw 1 rfl (show s < v_ns from hs) (show v_ns < 2 ^ 31 by omega) rfl dL_refused_138 ?_
    refine lv_iconst (v := 1) hx hb dL_refused_139 (by decide) ?_
    refine k_ildP (i := 1) (v := v_st s) hx hb hK hw (Pk_4 (i := s) (show s < v_ns from hs)) (by decide) (by decide) rfl dL_refused_140 ?_
    refine lv_if_le (tgt := 148) hx hb dL_refused_141 (by decide) (fun c_15 => ?_) (fun c_15 => ?_)
    · have c_15 : (v_st s : Int32) ≤ 0 := c_15
      refine lv_iconst (v := 0) hx hb dL_refused_148 (by decide) ?_
      exact k_iret hx hb hr hlocks hK hw rfl dL_refused_149 (by first | assumption | (simp only [f_ref, bI_t, bI_f, if_neg k_1, if_neg k_3, if_neg k_6, if_neg k_9, if_neg k_11, if_neg k_12, if_pos k_14, if_pos c_15, if_true, if_false, Bool.false_eq_true, Bool.true_eq_false, reduceIte, reduceCtorEq]; done) | (simp only [f_ref, bI_t, bI_f, if_neg k_1, if_neg k_3, if_neg k_6, if_neg k_9, if_neg k_11, if_neg k_12, if_pos k_14, if_pos c_15, if_true, if_false, Bool.false_eq_true, Bool.true_eq_false, reduceIte, reduceCtorEq]; rfl) | rfl | (simp [f_ref, bI_t, bI_f, if_neg k_1, if_neg k_3, if_neg k_6, if_neg k_9, if_neg k_11, if_neg k_12, if_pos k_14, if_pos c_15, if_true, if_false, Bool.false_eq_true, Bool.true_eq_false, reduceIte, reduceCtorEq]; done) | (simp [bI, f_ref, bI_t, bI_f, k_1, k_3, k_6, k_9, k_11, k_12, k_14, c_15]; done)) rfl
    · have c_15 : ¬ (v_st s : Int32) ≤ 0 := c_15
      refine lv_iconst (v := 1) hx hb dL_refused_144 (by decide) ?_
      refine lv_goto (tgt := 149) hx hb dL_refused_145 (by decide) ?_
      exact k_iret hx hb hr hlocks hK hw rfl dL_refused_149 (by first | assumption | (simp only [f_ref, bI_t, bI_f, if_neg k_1, if_neg k_3, if_neg k_6, if_neg k_9, if_neg k_11, if_neg k_12, if_pos k_14, if_neg c_15, if_true, if_false, Bool.false_eq_true, Bool.true_eq_false, reduceIte, reduceCtorEq]; done) | (simp only [f_ref, bI_t, bI_f, if_neg k_1, if_neg k_3, if_neg k_6, if_neg k_9, if_neg k_11, if_neg k_12, if_pos k_14, if_neg c_15, if_true, if_false, Bool.false_eq_true, Bool.true_eq_false, reduceIte, reduceCtorEq]; rfl) | rfl | (simp [f_ref, bI_t, bI_f, if_neg k_1, if_neg k_3, if_neg k_6, if_neg k_9, if_neg k_11, if_neg k_12, if_pos k_14, if_neg c_15, if_true, if_false, Bool.false_eq_true, Bool.true_eq_false, reduceIte, reduceCtorEq]; done) | (simp [bI, f_ref, bI_t, bI_f, k_1, k_3, k_6, k_9, k_11, k_12, k_14, c_15]; done)) rfl
  by_cases k_16 : bl x 18 = 7
  · refine k_tabIn (j := 7) (tgt := 150) hx hb dL_refused_6 k_16 (by decide) (by decide) rfl (by decide) ?_
    refine lv_aload_n hx hb dL_refused_150 rfl (lv_at hl 0 rfl) ?_
    refine k_get (ci := 3) (v := .ref (P.1 1)) (C := RX3) (T := TX3) (N := 7) hx hb hown hK hw hts hinX3 0 rfl rfl 3 (by decide) hf9 rfl dL_refused_151 ?_
    refine lv_iload_n hx hb dL_refused_154 rfl (lv_at hl 2 rfl) ?_
    refine k_qld (i := s) (y := P.2.1 s) (n := v_ns) hx hb hK hw 1 rfl (show s < v_ns from hs) (show v_ns < 2 ^ 31 by omega) rfl dL_refused_155 ?_
    refine lv_iconst (v := 1) hx hb dL_refused_156 (by decide) ?_
    refine k_ildP (i := 1) (v := v_st s) hx hb hK hw (Pk_4 (i := s) (show s < v_ns from hs)) (by decide) (by decide) rfl dL_refused_157 ?_
    refine lv_if_ne (tgt := 165) hx hb dL_refused_158 (by decide) (fun c_17 => ?_) (fun c_17 => ?_)
    · have c_17 : ¬ (v_st s : Int32) = 0 := c_17
      refine lv_iconst (v := 0) hx hb dL_refused_165 (by decide) ?_
      exact k_iret hx hb hr hlocks hK hw rfl dL_refused_166 (by first | assumption | (simp only [f_ref, bI_t, bI_f, if_neg k_1, if_neg k_3, if_neg k_6, if_neg k_9, if_neg k_11, if_neg k_12, if_neg k_14, if_pos k_16, if_neg c_17, if_true, if_false, Bool.false_eq_true, Bool.true_eq_false, reduceIte, reduceCtorEq]; done) | (simp only [f_ref, bI_t, bI_f, if_neg k_1, if_neg k_3, if_neg k_6, if_neg k_9, if_neg k_11, if_neg k_12, if_neg k_14, if_pos k_16, if_neg c_17, if_true, if_false, Bool.false_eq_true, Bool.true_eq_false, reduceIte, reduceCtorEq]; rfl) | rfl | (simp [f_ref, bI_t, bI_f, if_neg k_1, if_neg k_3, if_neg k_6, if_neg k_9, if_neg k_11, if_neg k_12, if_neg k_14, if_pos k_16, if_neg c_17, if_true, if_false, Bool.false_eq_true, Bool.true_eq_false, reduceIte, reduceCtorEq]; done) | (simp [bI, f_ref, bI_t, bI_f, k_1, k_3, k_6, k_9, k_11, k_12, k_14, k_16, c_17]; done)) rfl
    · have c_17 : (v_st s : Int32) = 0 := c_17
      refine lv_iconst (v := 1) hx hb dL_refused_161 (by decide) ?_
      refine lv_goto (tgt := 166) hx hb dL_refused_162 (by decide) ?_
      exact k_iret hx hb hr hlocks hK hw rfl dL_refused_166 (by first | assumption | (simp only [f_ref, bI_t, bI_f, if_neg k_1, if_neg k_3, if_neg k_6, if_neg k_9, if_neg k_11, if_neg k_12, if_neg k_14, if_pos k_16, if_pos c_17, if_true, if_false, Bool.false_eq_true, Bool.true_eq_false, reduceIte, reduceCtorEq]; done) | (simp only [f_ref, bI_t, bI_f, if_neg k_1, if_neg k_3, if_neg k_6, if_neg k_9, if_neg k_11, if_neg k_12, if_neg k_14, if_pos k_16, if_pos c_17, if_true, if_false, Bool.false_eq_true, Bool.true_eq_false, reduceIte, reduceCtorEq]; rfl) | rfl | (simp [f_ref, bI_t, bI_f, if_neg k_1, if_neg k_3, if_neg k_6, if_neg k_9, if_neg k_11, if_neg k_12, if_neg k_14, if_pos k_16, if_pos c_17, if_true, if_false, Bool.false_eq_true, Bool.true_eq_false, reduceIte, reduceCtorEq]; done) | (simp [bI, f_ref, bI_t, bI_f, k_1, k_3, k_6, k_9, k_11, k_12, k_14, k_16, c_17]; done)) rfl
  by_cases k_18 : bl x 18 = 8
  · refine k_tabIn (j := 8) (tgt := 167) hx hb dL_refused_6 k_18 (by decide) (by decide) rfl (by decide) ?_
    refine lv_aload_n hx hb dL_refused_167 rfl (lv_at hl 0 rfl) ?_
    refine k_get (ci := 3) (v := .ref (P.1 1)) (C := RX3) (T := TX3) (N := 7) hx hb hown hK hw hts hinX3 0 rfl rfl 3 (by decide) hf9 rfl dL_refused_168 ?_
    refine lv_iload_n hx hb dL_refused_171 rfl (lv_at hl 2 rfl) ?_
    refine k_qld (i := s) (y := P.2.1 s) (n := v_ns) hx hb hK hw 1 rfl (show s < v_ns from hs) (show v_ns < 2 ^ 31 by omega) rfl dL_refused_172 ?_
    refine lv_iconst (v := 1) hx hb dL_refused_173 (by decide) ?_
    refine k_ildP (i := 1) (v := v_st s) hx hb hK hw (Pk_4 (i := s) (show s < v_ns from hs)) (by decide) (by decide) rfl dL_refused_174 ?_
    refine lv_iconst (v := 1) hx hb dL_refused_175 (by decide) ?_
    refine lv_icmp_ne (tgt := 188) hx hb dL_refused_176 (by decide) (fun c_19 => ?_) (fun c_19 => ?_)
    · have c_19 : ¬ (v_st s : Int32) = 1 := c_19
      refine lv_iconst (v := 1) hx hb dL_refused_188 (by decide) ?_
      refine lv_goto (tgt := 193) hx hb dL_refused_189 (by decide) ?_
      exact k_iret hx hb hr hlocks hK hw rfl dL_refused_193 (by first | assumption | (simp only [f_ref, bI_t, bI_f, if_neg k_1, if_neg k_3, if_neg k_6, if_neg k_9, if_neg k_11, if_neg k_12, if_neg k_14, if_neg k_16, if_pos k_18, if_neg c_19, if_true, if_false, Bool.false_eq_true, Bool.true_eq_false, reduceIte, reduceCtorEq]; done) | (simp only [f_ref, bI_t, bI_f, if_neg k_1, if_neg k_3, if_neg k_6, if_neg k_9, if_neg k_11, if_neg k_12, if_neg k_14, if_neg k_16, if_pos k_18, if_neg c_19, if_true, if_false, Bool.false_eq_true, Bool.true_eq_false, reduceIte, reduceCtorEq]; rfl) | rfl | (simp [f_ref, bI_t, bI_f, if_neg k_1, if_neg k_3, if_neg k_6, if_neg k_9, if_neg k_11, if_neg k_12, if_neg k_14, if_neg k_16, if_pos k_18, if_neg c_19, if_true, if_false, Bool.false_eq_true, Bool.true_eq_false, reduceIte, reduceCtorEq]; done) | (simp [bI, f_ref, bI_t, bI_f, k_1, k_3, k_6, k_9, k_11, k_12, k_14, k_16, k_18, c_19]; done)) rfl
    · have c_19 : (v_st s : Int32) = 1 := c_19
      refine lv_aload_n hx hb dL_refused_179 rfl (lv_at hl 0 rfl) ?_
      refine lv_iload_n hx hb dL_refused_180 rfl (lv_at hl 3 rfl) ?_
      refine lv_iload_n hx hb dL_refused_181 rfl (lv_at hl 2 rfl) ?_
      refine kr_i (ws' := wS E q P (mkS v_ni v_wa v_un v_ns v_np v_nw v_ng v_ma v_st v_ou v_ru v_so v_mt v_vo v_gi v_ca v_tr v_sw v_ss v_sg)) (va_runV (As := [.int (nI w), .int (nI s)]) (rest := []) ⟨hx, hb, hml, hown, hts⟩ (c_X3_isSighted l E q P v_ni v_wa v_un v_ns v_np v_nw v_ng v_ma v_st v_ou v_ru v_so v_mt v_vo v_gi v_ca v_tr v_sw v_ss v_sg w s hns hnp hnw hng hso hsw _) (cwV 2 hts gL_refused_X3_isSighted rfl rfl rfl ⟨rfl, hd_X3_isSighted⟩ ⟨Nat.le_of_ble_eq_true rfl, Nat.le_of_ble_eq_true rfl⟩) (pwV (ci := 3) (q0 := 0) (C := RX3) hw hK rfl rfl rfl (rpS (AV := [.ref q, .int (nI w), .int (nI s)]) hw hK hG rp_73)) rfl rfl hl.1 rfl (lv_room (Nat.le_of_ble_eq_true rfl)) dL_refused_182 ⟨Nat.le_of_ble_eq_true rfl, Nat.le_of_ble_eq_true rfl⟩) hw hA rp_73 (fun H locs hw => ?_)
      refine lv_if_eq (tgt := 192) hx hb dL_refused_185 (by decide) (fun c_20 => ?_) (fun c_20 => ?_)
      · have c_20 : l_sig (v_ss) (v_sw) w s (v_ng) = false := bI_z c_20
        refine lv_iconst (v := 0) hx hb dL_refused_192 (by decide) ?_
        exact k_iret hx hb hr hlocks hK hw rfl dL_refused_193 (by first | assumption | (simp only [f_ref, bI_t, bI_f, if_neg k_1, if_neg k_3, if_neg k_6, if_neg k_9, if_neg k_11, if_neg k_12, if_neg k_14, if_neg k_16, if_pos k_18, if_pos c_19, c_20, if_true, if_false, Bool.false_eq_true, Bool.true_eq_false, reduceIte, reduceCtorEq]; done) | (simp only [f_ref, bI_t, bI_f, if_neg k_1, if_neg k_3, if_neg k_6, if_neg k_9, if_neg k_11, if_neg k_12, if_neg k_14, if_neg k_16, if_pos k_18, if_pos c_19, c_20, if_true, if_false, Bool.false_eq_true, Bool.true_eq_false, reduceIte, reduceCtorEq]; rfl) | rfl | (simp [f_ref, bI_t, bI_f, if_neg k_1, if_neg k_3, if_neg k_6, if_neg k_9, if_neg k_11, if_neg k_12, if_neg k_14, if_neg k_16, if_pos k_18, if_pos c_19, c_20, if_true, if_false, Bool.false_eq_true, Bool.true_eq_false, reduceIte, reduceCtorEq]; done) | (simp [bI, f_ref, bI_t, bI_f, k_1, k_3, k_6, k_9, k_11, k_12, k_14, k_16, k_18, c_19, c_20]; done)) rfl
      · have c_20 : l_sig (v_ss) (v_sw) w s (v_ng) = true := bI_nz c_20
        refine lv_iconst (v := 1) hx hb dL_refused_188 (by decide) ?_
        refine lv_goto (tgt := 193) hx hb dL_refused_189 (by decide) ?_
        exact k_iret hx hb hr hlocks hK hw rfl dL_refused_193 (by first | assumption | (simp only [f_ref, bI_t, bI_f, if_neg k_1, if_neg k_3, if_neg k_6, if_neg k_9, if_neg k_11, if_neg k_12, if_neg k_14, if_neg k_16, if_pos k_18, if_pos c_19, c_20, if_true, if_false, Bool.false_eq_true, Bool.true_eq_false, reduceIte, reduceCtorEq]; done) | (simp only [f_ref, bI_t, bI_f, if_neg k_1, if_neg k_3, if_neg k_6, if_neg k_9, if_neg k_11, if_neg k_12, if_neg k_14, if_neg k_16, if_pos k_18, if_pos c_19, c_20, if_true, if_false, Bool.false_eq_true, Bool.true_eq_false, reduceIte, reduceCtorEq]; rfl) | rfl | (simp [f_ref, bI_t, bI_f, if_neg k_1, if_neg k_3, if_neg k_6, if_neg k_9, if_neg k_11, if_neg k_12, if_neg k_14, if_neg k_16, if_pos k_18, if_pos c_19, c_20, if_true, if_false, Bool.false_eq_true, Bool.true_eq_false, reduceIte, reduceCtorEq]; done) | (simp [bI, f_ref, bI_t, bI_f, k_1, k_3, k_6, k_9, k_11, k_12, k_14, k_16, k_18, c_19, c_20]; done)) rfl
  by_cases k_21 : bl x 18 = 9
  · refine k_tabIn (j := 9) (tgt := 167) hx hb dL_refused_6 k_21 (by decide) (by decide) rfl (by decide) ?_
    refine lv_aload_n hx hb dL_refused_167 rfl (lv_at hl 0 rfl) ?_
    refine k_get (ci := 3) (v := .ref (P.1 1)) (C := RX3) (T := TX3) (N := 7) hx hb hown hK hw hts hinX3 0 rfl rfl 3 (by decide) hf9 rfl dL_refused_168 ?_
    refine lv_iload_n hx hb dL_refused_171 rfl (lv_at hl 2 rfl) ?_
    refine k_qld (i := s) (y := P.2.1 s) (n := v_ns) hx hb hK hw 1 rfl (show s < v_ns from hs) (show v_ns < 2 ^ 31 by omega) rfl dL_refused_172 ?_
    refine lv_iconst (v := 1) hx hb dL_refused_173 (by decide) ?_
    refine k_ildP (i := 1) (v := v_st s) hx hb hK hw (Pk_4 (i := s) (show s < v_ns from hs)) (by decide) (by decide) rfl dL_refused_174 ?_
    refine lv_iconst (v := 1) hx hb dL_refused_175 (by decide) ?_
    refine lv_icmp_ne (tgt := 188) hx hb dL_refused_176 (by decide) (fun c_22 => ?_) (fun c_22 => ?_)
    · have c_22 : ¬ (v_st s : Int32) = 1 := c_22
      refine lv_iconst (v := 1) hx hb dL_refused_188 (by decide) ?_
      refine lv_goto (tgt := 193) hx hb dL_refused_189 (by decide) ?_
      exact k_iret hx hb hr hlocks hK hw rfl dL_refused_193 (by first | assumption | (simp only [f_ref, bI_t, bI_f, if_neg k_1, if_neg k_3, if_neg k_6, if_neg k_9, if_neg k_11, if_neg k_12, if_neg k_14, if_neg k_16, if_neg k_18, if_pos k_21, if_neg c_22, if_true, if_false, Bool.false_eq_true, Bool.true_eq_false, reduceIte, reduceCtorEq]; done) | (simp only [f_ref, bI_t, bI_f, if_neg k_1, if_neg k_3, if_neg k_6, if_neg k_9, if_neg k_11, if_neg k_12, if_neg k_14, if_neg k_16, if_neg k_18, if_pos k_21, if_neg c_22, if_true, if_false, Bool.false_eq_true, Bool.true_eq_false, reduceIte, reduceCtorEq]; rfl) | rfl | (simp [f_ref, bI_t, bI_f, if_neg k_1, if_neg k_3, if_neg k_6, if_neg k_9, if_neg k_11, if_neg k_12, if_neg k_14, if_neg k_16, if_neg k_18, if_pos k_21, if_neg c_22, if_true, if_false, Bool.false_eq_true, Bool.true_eq_false, reduceIte, reduceCtorEq]; done) | (simp [bI, f_ref, bI_t, bI_f, k_1, k_3, k_6, k_9, k_11, k_12, k_14, k_16, k_18, k_21, c_22]; done)) rfl
    · have c_22 : (v_st s : Int32) = 1 := c_22
      refine lv_aload_n hx hb dL_refused_179 rfl (lv_at hl 0 rfl) ?_
      refine lv_iload_n hx hb dL_refused_180 rfl (lv_at hl 3 rfl) ?_
      refine lv_iload_n hx hb dL_refused_181 rfl (lv_at hl 2 rfl) ?_
      refine kr_i (ws' := wS E q P (mkS v_ni v_wa v_un v_ns v_np v_nw v_ng v_ma v_st v_ou v_ru v_so v_mt v_vo v_gi v_ca v_tr v_sw v_ss v_sg)) (va_runV (As := [.int (nI w), .int (nI s)]) (rest := []) ⟨hx, hb, hml, hown, hts⟩ (c_X3_isSighted l E q P v_ni v_wa v_un v_ns v_np v_nw v_ng v_ma v_st v_ou v_ru v_so v_mt v_vo v_gi v_ca v_tr v_sw v_ss v_sg w s hns hnp hnw hng hso hsw _) (cwV 2 hts gL_refused_X3_isSighted rfl rfl rfl ⟨rfl, hd_X3_isSighted⟩ ⟨Nat.le_of_ble_eq_true rfl, Nat.le_of_ble_eq_true rfl⟩) (pwV (ci := 3) (q0 := 0) (C := RX3) hw hK rfl rfl rfl (rpS (AV := [.ref q, .int (nI w), .int (nI s)]) hw hK hG rp_73)) rfl rfl hl.1 rfl (lv_room (Nat.le_of_ble_eq_true rfl)) dL_refused_182 ⟨Nat.le_of_ble_eq_true rfl, Nat.le_of_ble_eq_true rfl⟩) hw hA rp_73 (fun H locs hw => ?_)
      refine lv_if_eq (tgt := 192) hx hb dL_refused_185 (by decide) (fun c_23 => ?_) (fun c_23 => ?_)
      · have c_23 : l_sig (v_ss) (v_sw) w s (v_ng) = false := bI_z c_23
        refine lv_iconst (v := 0) hx hb dL_refused_192 (by decide) ?_
        exact k_iret hx hb hr hlocks hK hw rfl dL_refused_193 (by first | assumption | (simp only [f_ref, bI_t, bI_f, if_neg k_1, if_neg k_3, if_neg k_6, if_neg k_9, if_neg k_11, if_neg k_12, if_neg k_14, if_neg k_16, if_neg k_18, if_pos k_21, if_pos c_22, c_23, if_true, if_false, Bool.false_eq_true, Bool.true_eq_false, reduceIte, reduceCtorEq]; done) | (simp only [f_ref, bI_t, bI_f, if_neg k_1, if_neg k_3, if_neg k_6, if_neg k_9, if_neg k_11, if_neg k_12, if_neg k_14, if_neg k_16, if_neg k_18, if_pos k_21, if_pos c_22, c_23, if_true, if_false, Bool.false_eq_true, Bool.true_eq_false, reduceIte, reduceCtorEq]; rfl) | rfl | (simp [f_ref, bI_t, bI_f, if_neg k_1, if_neg k_3, if_neg k_6, if_neg k_9, if_neg k_11, if_neg k_12, if_neg k_14, if_neg k_16, if_neg k_18, if_pos k_21, if_pos c_22, c_23, if_true, if_false, Bool.false_eq_true, Bool.true_eq_false, reduceIte, reduceCtorEq]; done) | (simp [bI, f_ref, bI_t, bI_f, k_1, k_3, k_6, k_9, k_11, k_12, k_14, k_16, k_18, k_21, c_22, c_23]; done)) rfl
      · have c_23 : l_sig (v_ss) (v_sw) w s (v_ng) = true := bI_nz c_23
        refine lv_iconst (v := 1) hx hb dL_refused_188 (by decide) ?_
        refine lv_goto (tgt := 193) hx hb dL_refused_189 (by decide) ?_
        exact k_iret hx hb hr hlocks hK hw rfl dL_refused_193 (by first | assumption | (simp only [f_ref, bI_t, bI_f, if_neg k_1, if_neg k_3, if_neg k_6, if_neg k_9, if_neg k_11, if_neg k_12, if_neg k_14, if_neg k_16, if_neg k_18, if_pos k_21, if_pos c_22, c_23, if_true, if_false, Bool.false_eq_true, Bool.true_eq_false, reduceIte, reduceCtorEq]; done) | (simp only [f_ref, bI_t, bI_f, if_neg k_1, if_neg k_3, if_neg k_6, if_neg k_9, if_neg k_11, if_neg k_12, if_neg k_14, if_neg k_16, if_neg k_18, if_pos k_21, if_pos c_22, c_23, if_true, if_false, Bool.false_eq_true, Bool.true_eq_false, reduceIte, reduceCtorEq]; rfl) | rfl | (simp [f_ref, bI_t, bI_f, if_neg k_1, if_neg k_3, if_neg k_6, if_neg k_9, if_neg k_11, if_neg k_12, if_neg k_14, if_neg k_16, if_neg k_18, if_pos k_21, if_pos c_22, c_23, if_true, if_false, Bool.false_eq_true, Bool.true_eq_false, reduceIte, reduceCtorEq]; done) | (simp [bI, f_ref, bI_t, bI_f, k_1, k_3, k_6, k_9, k_11, k_12, k_14, k_16, k_18, k_21, c_22, c_23]; done)) rfl
  by_cases k_24 : bl x 18 = 10
  · refine k_tabIn (j := 10) (tgt := 167) hx hb dL_refused_6 k_24 (by decide) (by decide) rfl (by decide) ?_
    refine lv_aload_n hx hb dL_refused_167 rfl (lv_at hl 0 rfl) ?_
    refine k_get (ci := 3) (v := .ref (P.1 1)) (C := RX3) (T := TX3) (N := 7) hx hb hown hK hw hts hinX3 0 rfl rfl 3 (by decide) hf9 rfl dL_refused_168 ?_
    refine lv_iload_n hx hb dL_refused_171 rfl (lv_at hl 2 rfl) ?_
    refine k_qld (i := s) (y := P.2.1 s) (n := v_ns) hx hb hK hw 1 rfl (show s < v_ns from hs) (show v_ns < 2 ^ 31 by omega) rfl dL_refused_172 ?_
    refine lv_iconst (v := 1) hx hb dL_refused_173 (by decide) ?_
    refine k_ildP (i := 1) (v := v_st s) hx hb hK hw (Pk_4 (i := s) (show s < v_ns from hs)) (by decide) (by decide) rfl dL_refused_174 ?_
    refine lv_iconst (v := 1) hx hb dL_refused_175 (by decide) ?_
    refine lv_icmp_ne (tgt := 188) hx hb dL_refused_176 (by decide) (fun c_25 => ?_) (fun c_25 => ?_)
    · have c_25 : ¬ (v_st s : Int32) = 1 := c_25
      refine lv_iconst (v := 1) hx hb dL_refused_188 (by decide) ?_
      refine lv_goto (tgt := 193) hx hb dL_refused_189 (by decide) ?_
      exact k_iret hx hb hr hlocks hK hw rfl dL_refused_193 (by first | assumption | (simp only [f_ref, bI_t, bI_f, if_neg k_1, if_neg k_3, if_neg k_6, if_neg k_9, if_neg k_11, if_neg k_12, if_neg k_14, if_neg k_16, if_neg k_18, if_neg k_21, if_pos k_24, if_neg c_25, if_true, if_false, Bool.false_eq_true, Bool.true_eq_false, reduceIte, reduceCtorEq]; done) | (simp only [f_ref, bI_t, bI_f, if_neg k_1, if_neg k_3, if_neg k_6, if_neg k_9, if_neg k_11, if_neg k_12, if_neg k_14, if_neg k_16, if_neg k_18, if_neg k_21, if_pos k_24, if_neg c_25, if_true, if_false, Bool.false_eq_true, Bool.true_eq_false, reduceIte, reduceCtorEq]; rfl) | rfl | (simp [f_ref, bI_t, bI_f, if_neg k_1, if_neg k_3, if_neg k_6, if_neg k_9, if_neg k_11, if_neg k_12, if_neg k_14, if_neg k_16, if_neg k_18, if_neg k_21, if_pos k_24, if_neg c_25, if_true, if_false, Bool.false_eq_true, Bool.true_eq_false, reduceIte, reduceCtorEq]; done) | (simp [bI, f_ref, bI_t, bI_f, k_1, k_3, k_6, k_9, k_11, k_12, k_14, k_16, k_18, k_21, k_24, c_25]; done)) rfl
    · have c_25 : (v_st s : Int32) = 1 := c_25
      refine lv_aload_n hx hb dL_refused_179 rfl (lv_at hl 0 rfl) ?_
      refine lv_iload_n hx hb dL_refused_180 rfl (lv_at hl 3 rfl) ?_
      refine lv_iload_n hx hb dL_refused_181 rfl (lv_at hl 2 rfl) ?_
      refine kr_i (ws' := wS E q P (mkS v_ni v_wa v_un v_ns v_np v_nw v_ng v_ma v_st v_ou v_ru v_so v_mt v_vo v_gi v_ca v_tr v_sw v_ss v_sg)) (va_runV (As := [.int (nI w), .int (nI s)]) (rest := []) ⟨hx, hb, hml, hown, hts⟩ (c_X3_isSighted l E q P v_ni v_wa v_un v_ns v_np v_nw v_ng v_ma v_st v_ou v_ru v_so v_mt v_vo v_gi v_ca v_tr v_sw v_ss v_sg w s hns hnp hnw hng hso hsw _) (cwV 2 hts gL_refused_X3_isSighted rfl rfl rfl ⟨rfl, hd_X3_isSighted⟩ ⟨Nat.le_of_ble_eq_true rfl, Nat.le_of_ble_eq_true rfl⟩) (pwV (ci := 3) (q0 := 0) (C := RX3) hw hK rfl rfl rfl (rpS (AV := [.ref q, .int (nI w), .int (nI s)]) hw hK hG rp_73)) rfl rfl hl.1 rfl (lv_room (Nat.le_of_ble_eq_true rfl)) dL_refused_182 ⟨Nat.le_of_ble_eq_true rfl, Nat.le_of_ble_eq_true rfl⟩) hw hA rp_73 (fun H locs hw => ?_)
      refine lv_if_eq (tgt := 192) hx hb dL_refused_185 (by decide) (fun c_26 => ?_) (fun c_26 => ?_)
      · have c_26 : l_sig (v_ss) (v_sw) w s (v_ng) = false := bI_z c_26
        refine lv_iconst (v := 0) hx hb dL_refused_192 (by decide) ?_
        exact k_iret hx hb hr hlocks hK hw rfl dL_refused_193 (by first | assumption | (simp only [f_ref, bI_t, bI_f, if_neg k_1, if_neg k_3, if_neg k_6, if_neg k_9, if_neg k_11, if_neg k_12, if_neg k_14, if_neg k_16, if_neg k_18, if_neg k_21, if_pos k_24, if_pos c_25, c_26, if_true, if_false, Bool.false_eq_true, Bool.true_eq_false, reduceIte, reduceCtorEq]; done) | (simp only [f_ref, bI_t, bI_f, if_neg k_1, if_neg k_3, if_neg k_6, if_neg k_9, if_neg k_11, if_neg k_12, if_neg k_14, if_neg k_16, if_neg k_18, if_neg k_21, if_pos k_24, if_pos c_25, c_26, if_true, if_false, Bool.false_eq_true, Bool.true_eq_false, reduceIte, reduceCtorEq]; rfl) | rfl | (simp [f_ref, bI_t, bI_f, if_neg k_1, if_neg k_3, if_neg k_6, if_neg k_9, if_neg k_11, if_neg k_12, if_neg k_14, if_neg k_16, if_neg k_18, if_neg k_21, if_pos k_24, if_pos c_25, c_26, if_true, if_false, Bool.false_eq_true, Bool.true_eq_false, reduceIte, reduceCtorEq]; done) | (simp [bI, f_ref, bI_t, bI_f, k_1, k_3, k_6, k_9, k_11, k_12, k_14, k_16, k_18, k_21, k_24, c_25, c_26]; done)) rfl
      · have c_26 : l_sig (v_ss) (v_sw) w s (v_ng) = true := bI_nz c_26
        refine lv_iconst (v := 1) hx hb dL_refused_188 (by decide) ?_
        refine lv_goto (tgt := 193) hx hb dL_refused_189 (by decide) ?_
        exact k_iret hx hb hr hlocks hK hw rfl dL_refused_193 (by first | assumption | (simp only [f_ref, bI_t, bI_f, if_neg k_1, if_neg k_3, if_neg k_6, if_neg k_9, if_neg k_11, if_neg k_12, if_neg k_14, if_neg k_16, if_neg k_18, if_neg k_21, if_pos k_24, if_pos c_25, c_26, if_true, if_false, Bool.false_eq_true, Bool.true_eq_false, reduceIte, reduceCtorEq]; done) | (simp only [f_ref, bI_t, bI_f, if_neg k_1, if_neg k_3, if_neg k_6, if_neg k_9, if_neg k_11, if_neg k_12, if_neg k_14, if_neg k_16, if_neg k_18, if_neg k_21, if_pos k_24, if_pos c_25, c_26, if_true, if_false, Bool.false_eq_true, Bool.true_eq_false, reduceIte, reduceCtorEq]; rfl) | rfl | (simp [f_ref, bI_t, bI_f, if_neg k_1, if_neg k_3, if_neg k_6, if_neg k_9, if_neg k_11, if_neg k_12, if_neg k_14, if_neg k_16, if_neg k_18, if_neg k_21, if_pos k_24, if_pos c_25, c_26, if_true, if_false, Bool.false_eq_true, Bool.true_eq_false, reduceIte, reduceCtorEq]; done) | (simp [bI, f_ref, bI_t, bI_f, k_1, k_3, k_6, k_9, k_11, k_12, k_14, k_16, k_18, k_21, k_24, c_25, c_26]; done)) rfl
  by_cases k_27 : bl x 18 = 11
  · refine k_tabIn (j := 11) (tgt := 194) hx hb dL_refused_6 k_27 (by decide) (by decide) rfl (by decide) ?_
    refine lv_aload_n hx hb dL_refused_194 rfl (lv_at hl 0 rfl) ?_
    refine k_get (ci := 3) (v := .ref (P.1 2)) (C := RX3) (T := TX3) (N := 7) hx hb hown hK hw hts hinX3 0 rfl rfl 4 (by decide) hf25 rfl dL_refused_195 ?_
    refine k_lenQ (n := v_np) hx hb hK hw 2 rfl dL_refused_198 ?_
    refine lv_if_le (tgt := 238) hx hb dL_refused_199 (by decide) (fun c_28 => ?_) (fun c_28 => ?_)
    · have c_28 : (nI v_np : Int32) ≤ 0 := c_28
      refine lv_iconst (v := 0) hx hb dL_refused_238 (by decide) ?_
      exact k_iret hx hb hr hlocks hK hw rfl dL_refused_239 (by first | assumption | (simp only [f_ref, bI_t, bI_f, if_neg k_1, if_neg k_3, if_neg k_6, if_neg k_9, if_neg k_11, if_neg k_12, if_neg k_14, if_neg k_16, if_neg k_18, if_neg k_21, if_neg k_24, if_pos k_27, if_pos c_28, if_true, if_false, Bool.false_eq_true, Bool.true_eq_false, reduceIte, reduceCtorEq]; done) | (simp only [f_ref, bI_t, bI_f, if_neg k_1, if_neg k_3, if_neg k_6, if_neg k_9, if_neg k_11, if_neg k_12, if_neg k_14, if_neg k_16, if_neg k_18, if_neg k_21, if_neg k_24, if_pos k_27, if_pos c_28, if_true, if_false, Bool.false_eq_true, Bool.true_eq_false, reduceIte, reduceCtorEq]; rfl) | rfl | (simp [f_ref, bI_t, bI_f, if_neg k_1, if_neg k_3, if_neg k_6, if_neg k_9, if_neg k_11, if_neg k_12, if_neg k_14, if_neg k_16, if_neg k_18, if_neg k_21, if_neg k_24, if_pos k_27, if_pos c_28, if_true, if_false, Bool.false_eq_true, Bool.true_eq_false, reduceIte, reduceCtorEq]; done) | (simp [bI, f_ref, bI_t, bI_f, k_1, k_3, k_6, k_9, k_11, k_12, k_14, k_16, k_18, k_21, k_24, k_27, c_28]; done)) rfl
    · have c_28 : ¬ (nI v_np : Int32) ≤ 0 := c_28
      refine lv_aload_n hx hb dL_refused_202 rfl (lv_at hl 0 rfl) ?_
      refine k_get (ci := 3) (v := .ref (P.1 2)) (C := RX3) (T := TX3) (N := 7) hx hb hown hK hw hts hinX3 0 rfl rfl 4 (by decide) hf25 rfl dL_refused_203 ?_
      refine lv_iload hx hb dL_refused_206 (lv_at hl 4 rfl) ?_
      refine k_qld (i := p) (y := P.2.2.1 p) (n := v_np) hx hb hK hw 2 rfl (show p < v_np from (hp (np_pos c_28))) (show v_np < 2 ^ 31 by omega) rfl dL_refused_208 ?_
      refine lv_iconst (v := 2) hx hb dL_refused_209 (by decide) ?_
      refine k_ildP (i := 2) (v := v_vo p) hx hb hK hw (Pk_5 (i := p) (show p < v_np from (hp (np_pos c_28)))) (by decide) (by decide) rfl dL_refused_210 ?_
      refine lv_if_eq (tgt := 234) hx hb dL_refused_211 (by decide) (fun c_29 => ?_) (fun c_29 => ?_)
      · have c_29 : (v_vo p : Int32) = 0 := c_29
        refine lv_iconst (v := 1) hx hb dL_refused_234 (by decide) ?_
        refine lv_goto (tgt := 239) hx hb dL_refused_235 (by decide) ?_
        exact k_iret hx hb hr hlocks hK hw rfl dL_refused_239 (by first | assumption | (simp only [f_ref, bI_t, bI_f, if_neg k_1, if_neg k_3, if_neg k_6, if_neg k_9, if_neg k_11, if_neg k_12, if_neg k_14, if_neg k_16, if_neg k_18, if_neg k_21, if_neg k_24, if_pos k_27, if_neg c_28, if_pos c_29, if_true, if_false, Bool.false_eq_true, Bool.true_eq_false, reduceIte, reduceCtorEq]; done) | (simp only [f_ref, bI_t, bI_f, if_neg k_1, if_neg k_3, if_neg k_6, if_neg k_9, if_neg k_11, if_neg k_12, if_neg k_14, if_neg k_16, if_neg k_18, if_neg k_21, if_neg k_24, if_pos k_27, if_neg c_28, if_pos c_29, if_true, if_false, Bool.false_eq_true, Bool.true_eq_false, reduceIte, reduceCtorEq]; rfl) | rfl | (simp [f_ref, bI_t, bI_f, if_neg k_1, if_neg k_3, if_neg k_6, if_neg k_9, if_neg k_11, if_neg k_12, if_neg k_14, if_neg k_16, if_neg k_18, if_neg k_21, if_neg k_24, if_pos k_27, if_neg c_28, if_pos c_29, if_true, if_false, Bool.false_eq_true, Bool.true_eq_false, reduceIte, reduceCtorEq]; done) | (simp [bI, f_ref, bI_t, bI_f, k_1, k_3, k_6, k_9, k_11, k_12, k_14, k_16, k_18, k_21, k_24, k_27, c_28, c_29]; done)) rfl
      · have c_29 : ¬ (v_vo p : Int32) = 0 := c_29
        refine lv_aload_n hx hb dL_refused_214 rfl (lv_at hl 0 rfl) ?_
        refine k_get (ci := 3) (v := .ref (P.1 1)) (C := RX3) (T := TX3) (N := 7) hx hb hown hK hw hts hinX3 0 rfl rfl 3 (by decide) hf9 rfl dL_refused_215 ?_
        refine lv_aload_n hx hb dL_refused_218 rfl (lv_at hl 0 rfl) ?_
        refine k_get (ci := 3) (v := .ref (P.1 2)) (C := RX3) (T := TX3) (N := 7) hx hb hown hK hw hts hinX3 0 rfl rfl 4 (by decide) hf25 rfl dL_refused_219 ?_
        refine lv_iload hx hb dL_refused_222 (lv_at hl 4 rfl) ?_
        refine k_qld (i := p) (y := P.2.2.1 p) (n := v_np) hx hb hK hw 2 rfl (show p < v_np from (hp (np_pos c_28))) (show v_np < 2 ^ 31 by omega) rfl dL_refused_224 ?_
        refine lv_iconst (v := 0) hx hb dL_refused_225 (by decide) ?_
        refine k_ildP (i := 0) (v := nI (v_so p)) hx hb hK hw (Pk_5 (i := p) (show p < v_np from (hp (np_pos c_28)))) (by decide) (by decide) rfl dL_refused_226 ?_
        refine k_qld (i := v_so p) (y := P.2.1 (v_so p)) (n := v_ns) hx hb hK hw 1 rfl (show v_so p < v_ns from (hso p (hp (np_pos c_28)))) (show v_ns < 2 ^ 31 by omega) rfl dL_refused_227 ?_
        refine lv_iconst (v := 1) hx hb dL_refused_228 (by decide) ?_
        refine k_ildP (i := 1) (v := v_st (v_so p)) hx hb hK hw (Pk_4 (i := v_so p) (show v_so p < v_ns from (hso p (hp (np_pos c_28))))) (by decide) (by decide) rfl dL_refused_229 ?_
        refine lv_iconst (v := 1) hx hb dL_refused_230 (by decide) ?_
        refine lv_icmp_eq (tgt := 238) hx hb dL_refused_231 (by decide) (fun c_30 => ?_) (fun c_30 => ?_)
        · have c_30 : (v_st (v_so p) : Int32) = 1 := c_30
          refine lv_iconst (v := 0) hx hb dL_refused_238 (by decide) ?_
          exact k_iret hx hb hr hlocks hK hw rfl dL_refused_239 (by first | assumption | (simp only [f_ref, bI_t, bI_f, if_neg k_1, if_neg k_3, if_neg k_6, if_neg k_9, if_neg k_11, if_neg k_12, if_neg k_14, if_neg k_16, if_neg k_18, if_neg k_21, if_neg k_24, if_pos k_27, if_neg c_28, if_neg c_29, if_pos c_30, if_true, if_false, Bool.false_eq_true, Bool.true_eq_false, reduceIte, reduceCtorEq]; done) | (simp only [f_ref, bI_t, bI_f, if_neg k_1, if_neg k_3, if_neg k_6, if_neg k_9, if_neg k_11, if_neg k_12, if_neg k_14, if_neg k_16, if_neg k_18, if_neg k_21, if_neg k_24, if_pos k_27, if_neg c_28, if_neg c_29, if_pos c_30, if_true, if_false, Bool.false_eq_true, Bool.true_eq_false, reduceIte, reduceCtorEq]; rfl) | rfl | (simp [f_ref, bI_t, bI_f, if_neg k_1, if_neg k_3, if_neg k_6, if_neg k_9, if_neg k_11, if_neg k_12, if_neg k_14, if_neg k_16, if_neg k_18, if_neg k_21, if_neg k_24, if_pos k_27, if_neg c_28, if_neg c_29, if_pos c_30, if_true, if_false, Bool.false_eq_true, Bool.true_eq_false, reduceIte, reduceCtorEq]; done) | (simp [bI, f_ref, bI_t, bI_f, k_1, k_3, k_6, k_9, k_11, k_12, k_14, k_16, k_18, k_21, k_24, k_27, c_28, c_29, c_30]; done)) rfl
        · have c_30 : ¬ (v_st (v_so p) : Int32) = 1 := c_30
          refine lv_iconst (v := 1) hx hb dL_refused_234 (by decide) ?_
          refine lv_goto (tgt := 239) hx hb dL_refused_235 (by decide) ?_
          exact k_iret hx hb hr hlocks hK hw rfl dL_refused_239 (by first | assumption | (simp only [f_ref, bI_t, bI_f, if_neg k_1, if_neg k_3, if_neg k_6, if_neg k_9, if_neg k_11, if_neg k_12, if_neg k_14, if_neg k_16, if_neg k_18, if_neg k_21, if_neg k_24, if_pos k_27, if_neg c_28, if_neg c_29, if_neg c_30, if_true, if_false, Bool.false_eq_true, Bool.true_eq_false, reduceIte, reduceCtorEq]; done) | (simp only [f_ref, bI_t, bI_f, if_neg k_1, if_neg k_3, if_neg k_6, if_neg k_9, if_neg k_11, if_neg k_12, if_neg k_14, if_neg k_16, if_neg k_18, if_neg k_21, if_neg k_24, if_pos k_27, if_neg c_28, if_neg c_29, if_neg c_30, if_true, if_false, Bool.false_eq_true, Bool.true_eq_false, reduceIte, reduceCtorEq]; rfl) | rfl | (simp [f_ref, bI_t, bI_f, if_neg k_1, if_neg k_3, if_neg k_6, if_neg k_9, if_neg k_11, if_neg k_12, if_neg k_14, if_neg k_16, if_neg k_18, if_neg k_21, if_neg k_24, if_pos k_27, if_neg c_28, if_neg c_29, if_neg c_30, if_true, if_false, Bool.false_eq_true, Bool.true_eq_false, reduceIte, reduceCtorEq]; done) | (simp [bI, f_ref, bI_t, bI_f, k_1, k_3, k_6, k_9, k_11, k_12, k_14, k_16, k_18, k_21, k_24, k_27, c_28, c_29, c_30]; done)) rfl
  by_cases k_31 : bl x 18 = 12
  · refine k_tabIn (j := 12) (tgt := 194) hx hb dL_refused_6 k_31 (by decide) (by decide) rfl (by decide) ?_
    refine lv_aload_n hx hb dL_refused_194 rfl (lv_at hl 0 rfl) ?_
    refine k_get (ci := 3) (v := .ref (P.1 2)) (C := RX3) (T := TX3) (N := 7) hx hb hown hK hw hts hinX3 0 rfl rfl 4 (by decide) hf25 rfl dL_refused_195 ?_
    refine k_lenQ (n := v_np) hx hb hK hw 2 rfl dL_refused_198 ?_
    refine lv_if_le (tgt := 238) hx hb dL_refused_199 (by decide) (fun c_32 => ?_) (fun c_32 => ?_)
    · have c_32 : (nI v_np : Int32) ≤ 0 := c_32
      refine lv_iconst (v := 0) hx hb dL_refused_238 (by decide) ?_
      exact k_iret hx hb hr hlocks hK hw rfl dL_refused_239 (by first | assumption | (simp only [f_ref, bI_t, bI_f, if_neg k_1, if_neg k_3, if_neg k_6, if_neg k_9, if_neg k_11, if_neg k_12, if_neg k_14, if_neg k_16, if_neg k_18, if_neg k_21, if_neg k_24, if_neg k_27, if_pos k_31, if_pos c_32, if_true, if_false, Bool.false_eq_true, Bool.true_eq_false, reduceIte, reduceCtorEq]; done) | (simp only [f_ref, bI_t, bI_f, if_neg k_1, if_neg k_3, if_neg k_6, if_neg k_9, if_neg k_11, if_neg k_12, if_neg k_14, if_neg k_16, if_neg k_18, if_neg k_21, if_neg k_24, if_neg k_27, if_pos k_31, if_pos c_32, if_true, if_false, Bool.false_eq_true, Bool.true_eq_false, reduceIte, reduceCtorEq]; rfl) | rfl | (simp [f_ref, bI_t, bI_f, if_neg k_1, if_neg k_3, if_neg k_6, if_neg k_9, if_neg k_11, if_neg k_12, if_neg k_14, if_neg k_16, if_neg k_18, if_neg k_21, if_neg k_24, if_neg k_27, if_pos k_31, if_pos c_32, if_true, if_false, Bool.false_eq_true, Bool.true_eq_false, reduceIte, reduceCtorEq]; done) | (simp [bI, f_ref, bI_t, bI_f, k_1, k_3, k_6, k_9, k_11, k_12, k_14, k_16, k_18, k_21, k_24, k_27, k_31, c_32]; done)) rfl
    · have c_32 : ¬ (nI v_np : Int32) ≤ 0 := c_32
      refine lv_aload_n hx hb dL_refused_202 rfl (lv_at hl 0 rfl) ?_
      refine k_get (ci := 3) (v := .ref (P.1 2)) (C := RX3) (T := TX3) (N := 7) hx hb hown hK hw hts hinX3 0 rfl rfl 4 (by decide) hf25 rfl dL_refused_203 ?_
      refine lv_iload hx hb dL_refused_206 (lv_at hl 4 rfl) ?_
      refine k_qld (i := p) (y := P.2.2.1 p) (n := v_np) hx hb hK hw 2 rfl (show p < v_np from (hp (np_pos c_32))) (show v_np < 2 ^ 31 by omega) rfl dL_refused_208 ?_
      refine lv_iconst (v := 2) hx hb dL_refused_209 (by decide) ?_
      refine k_ildP (i := 2) (v := v_vo p) hx hb hK hw (Pk_5 (i := p) (show p < v_np from (hp (np_pos c_32)))) (by decide) (by decide) rfl dL_refused_210 ?_
      refine lv_if_eq (tgt := 234) hx hb dL_refused_211 (by decide) (fun c_33 => ?_) (fun c_33 => ?_)
      · have c_33 : (v_vo p : Int32) = 0 := c_33
        refine lv_iconst (v := 1) hx hb dL_refused_234 (by decide) ?_
        refine lv_goto (tgt := 239) hx hb dL_refused_235 (by decide) ?_
        exact k_iret hx hb hr hlocks hK hw rfl dL_refused_239 (by first | assumption | (simp only [f_ref, bI_t, bI_f, if_neg k_1, if_neg k_3, if_neg k_6, if_neg k_9, if_neg k_11, if_neg k_12, if_neg k_14, if_neg k_16, if_neg k_18, if_neg k_21, if_neg k_24, if_neg k_27, if_pos k_31, if_neg c_32, if_pos c_33, if_true, if_false, Bool.false_eq_true, Bool.true_eq_false, reduceIte, reduceCtorEq]; done) | (simp only [f_ref, bI_t, bI_f, if_neg k_1, if_neg k_3, if_neg k_6, if_neg k_9, if_neg k_11, if_neg k_12, if_neg k_14, if_neg k_16, if_neg k_18, if_neg k_21, if_neg k_24, if_neg k_27, if_pos k_31, if_neg c_32, if_pos c_33, if_true, if_false, Bool.false_eq_true, Bool.true_eq_false, reduceIte, reduceCtorEq]; rfl) | rfl | (simp [f_ref, bI_t, bI_f, if_neg k_1, if_neg k_3, if_neg k_6, if_neg k_9, if_neg k_11, if_neg k_12, if_neg k_14, if_neg k_16, if_neg k_18, if_neg k_21, if_neg k_24, if_neg k_27, if_pos k_31, if_neg c_32, if_pos c_33, if_true, if_false, Bool.false_eq_true, Bool.true_eq_false, reduceIte, reduceCtorEq]; done) | (simp [bI, f_ref, bI_t, bI_f, k_1, k_3, k_6, k_9, k_11, k_12, k_14, k_16, k_18, k_21, k_24, k_27, k_31, c_32, c_33]; done)) rfl
      · have c_33 : ¬ (v_vo p : Int32) = 0 := c_33
        refine lv_aload_n hx hb dL_refused_214 rfl (lv_at hl 0 rfl) ?_
        refine k_get (ci := 3) (v := .ref (P.1 1)) (C := RX3) (T := TX3) (N := 7) hx hb hown hK hw hts hinX3 0 rfl rfl 3 (by decide) hf9 rfl dL_refused_215 ?_
        refine lv_aload_n hx hb dL_refused_218 rfl (lv_at hl 0 rfl) ?_
        refine k_get (ci := 3) (v := .ref (P.1 2)) (C := RX3) (T := TX3) (N := 7) hx hb hown hK hw hts hinX3 0 rfl rfl 4 (by decide) hf25 rfl dL_refused_219 ?_
        refine lv_iload hx hb dL_refused_222 (lv_at hl 4 rfl) ?_
        refine k_qld (i := p) (y := P.2.2.1 p) (n := v_np) hx hb hK hw 2 rfl (show p < v_np from (hp (np_pos c_32))) (show v_np < 2 ^ 31 by omega) rfl dL_refused_224 ?_
        refine lv_iconst (v := 0) hx hb dL_refused_225 (by decide) ?_
        refine k_ildP (i := 0) (v := nI (v_so p)) hx hb hK hw (Pk_5 (i := p) (show p < v_np from (hp (np_pos c_32)))) (by decide) (by decide) rfl dL_refused_226 ?_
        refine k_qld (i := v_so p) (y := P.2.1 (v_so p)) (n := v_ns) hx hb hK hw 1 rfl (show v_so p < v_ns from (hso p (hp (np_pos c_32)))) (show v_ns < 2 ^ 31 by omega) rfl dL_refused_227 ?_
        refine lv_iconst (v := 1) hx hb dL_refused_228 (by decide) ?_
        refine k_ildP (i := 1) (v := v_st (v_so p)) hx hb hK hw (Pk_4 (i := v_so p) (show v_so p < v_ns from (hso p (hp (np_pos c_32))))) (by decide) (by decide) rfl dL_refused_229 ?_
        refine lv_iconst (v := 1) hx hb dL_refused_230 (by decide) ?_
        refine lv_icmp_eq (tgt := 238) hx hb dL_refused_231 (by decide) (fun c_34 => ?_) (fun c_34 => ?_)
        · have c_34 : (v_st (v_so p) : Int32) = 1 := c_34
          refine lv_iconst (v := 0) hx hb dL_refused_238 (by decide) ?_
          exact k_iret hx hb hr hlocks hK hw rfl dL_refused_239 (by first | assumption | (simp only [f_ref, bI_t, bI_f, if_neg k_1, if_neg k_3, if_neg k_6, if_neg k_9, if_neg k_11, if_neg k_12, if_neg k_14, if_neg k_16, if_neg k_18, if_neg k_21, if_neg k_24, if_neg k_27, if_pos k_31, if_neg c_32, if_neg c_33, if_pos c_34, if_true, if_false, Bool.false_eq_true, Bool.true_eq_false, reduceIte, reduceCtorEq]; done) | (simp only [f_ref, bI_t, bI_f, if_neg k_1, if_neg k_3, if_neg k_6, if_neg k_9, if_neg k_11, if_neg k_12, if_neg k_14, if_neg k_16, if_neg k_18, if_neg k_21, if_neg k_24, if_neg k_27, if_pos k_31, if_neg c_32, if_neg c_33, if_pos c_34, if_true, if_false, Bool.false_eq_true, Bool.true_eq_false, reduceIte, reduceCtorEq]; rfl) | rfl | (simp [f_ref, bI_t, bI_f, if_neg k_1, if_neg k_3, if_neg k_6, if_neg k_9, if_neg k_11, if_neg k_12, if_neg k_14, if_neg k_16, if_neg k_18, if_neg k_21, if_neg k_24, if_neg k_27, if_pos k_31, if_neg c_32, if_neg c_33, if_pos c_34, if_true, if_false, Bool.false_eq_true, Bool.true_eq_false, reduceIte, reduceCtorEq]; done) | (simp [bI, f_ref, bI_t, bI_f, k_1, k_3, k_6, k_9, k_11, k_12, k_14, k_16, k_18, k_21, k_24, k_27, k_31, c_32, c_33, c_34]; done)) rfl
        · have c_34 : ¬ (v_st (v_so p) : Int32) = 1 := c_34
          refine lv_iconst (v := 1) hx hb dL_refused_234 (by decide) ?_
          refine lv_goto (tgt := 239) hx hb dL_refused_235 (by decide) ?_
          exact k_iret hx hb hr hlocks hK hw rfl dL_refused_239 (by first | assumption | (simp only [f_ref, bI_t, bI_f, if_neg k_1, if_neg k_3, if_neg k_6, if_neg k_9, if_neg k_11, if_neg k_12, if_neg k_14, if_neg k_16, if_neg k_18, if_neg k_21, if_neg k_24, if_neg k_27, if_pos k_31, if_neg c_32, if_neg c_33, if_neg c_34, if_true, if_false, Bool.false_eq_true, Bool.true_eq_false, reduceIte, reduceCtorEq]; done) | (simp only [f_ref, bI_t, bI_f, if_neg k_1, if_neg k_3, if_neg k_6, if_neg k_9, if_neg k_11, if_neg k_12, if_neg k_14, if_neg k_16, if_neg k_18, if_neg k_21, if_neg k_24, if_neg k_27, if_pos k_31, if_neg c_32, if_neg c_33, if_neg c_34, if_true, if_false, Bool.false_eq_true, Bool.true_eq_false, reduceIte, reduceCtorEq]; rfl) | rfl | (simp [f_ref, bI_t, bI_f, if_neg k_1, if_neg k_3, if_neg k_6, if_neg k_9, if_neg k_11, if_neg k_12, if_neg k_14, if_neg k_16, if_neg k_18, if_neg k_21, if_neg k_24, if_neg k_27, if_pos k_31, if_neg c_32, if_neg c_33, if_neg c_34, if_true, if_false, Bool.false_eq_true, Bool.true_eq_false, reduceIte, reduceCtorEq]; done) | (simp [bI, f_ref, bI_t, bI_f, k_1, k_3, k_6, k_9, k_11, k_12, k_14, k_16, k_18, k_21, k_24, k_27, k_31, c_32, c_33, c_34]; done)) rfl
  by_cases k_35 : bl x 18 = 13
  · refine k_tabIn (j := 13) (tgt := 194) hx hb dL_refused_6 k_35 (by decide) (by decide) rfl (by decide) ?_
    refine lv_aload_n hx hb dL_refused_194 rfl (lv_at hl 0 rfl) ?_
    refine k_get (ci := 3) (v := .ref (P.1 2)) (C := RX3) (T := TX3) (N := 7) hx hb hown hK hw hts hinX3 0 rfl rfl 4 (by decide) hf25 rfl dL_refused_195 ?_
    refine k_lenQ (n := v_np) hx hb hK hw 2 rfl dL_refused_198 ?_
    refine lv_if_le (tgt := 238) hx hb dL_refused_199 (by decide) (fun c_36 => ?_) (fun c_36 => ?_)
    · have c_36 : (nI v_np : Int32) ≤ 0 := c_36
      refine lv_iconst (v := 0) hx hb dL_refused_238 (by decide) ?_
      exact k_iret hx hb hr hlocks hK hw rfl dL_refused_239 (by first | assumption | (simp only [f_ref, bI_t, bI_f, if_neg k_1, if_neg k_3, if_neg k_6, if_neg k_9, if_neg k_11, if_neg k_12, if_neg k_14, if_neg k_16, if_neg k_18, if_neg k_21, if_neg k_24, if_neg k_27, if_neg k_31, if_pos k_35, if_pos c_36, if_true, if_false, Bool.false_eq_true, Bool.true_eq_false, reduceIte, reduceCtorEq]; done) | (simp only [f_ref, bI_t, bI_f, if_neg k_1, if_neg k_3, if_neg k_6, if_neg k_9, if_neg k_11, if_neg k_12, if_neg k_14, if_neg k_16, if_neg k_18, if_neg k_21, if_neg k_24, if_neg k_27, if_neg k_31, if_pos k_35, if_pos c_36, if_true, if_false, Bool.false_eq_true, Bool.true_eq_false, reduceIte, reduceCtorEq]; rfl) | rfl | (simp [f_ref, bI_t, bI_f, if_neg k_1, if_neg k_3, if_neg k_6, if_neg k_9, if_neg k_11, if_neg k_12, if_neg k_14, if_neg k_16, if_neg k_18, if_neg k_21, if_neg k_24, if_neg k_27, if_neg k_31, if_pos k_35, if_pos c_36, if_true, if_false, Bool.false_eq_true, Bool.true_eq_false, reduceIte, reduceCtorEq]; done) | (simp [bI, f_ref, bI_t, bI_f, k_1, k_3, k_6, k_9, k_11, k_12, k_14, k_16, k_18, k_21, k_24, k_27, k_31, k_35, c_36]; done)) rfl
    · have c_36 : ¬ (nI v_np : Int32) ≤ 0 := c_36
      refine lv_aload_n hx hb dL_refused_202 rfl (lv_at hl 0 rfl) ?_
      refine k_get (ci := 3) (v := .ref (P.1 2)) (C := RX3) (T := TX3) (N := 7) hx hb hown hK hw hts hinX3 0 rfl rfl 4 (by decide) hf25 rfl dL_refused_203 ?_
      refine lv_iload hx hb dL_refused_206 (lv_at hl 4 rfl) ?_
      refine k_qld (i := p) (y := P.2.2.1 p) (n := v_np) hx hb hK hw 2 rfl (show p < v_np from (hp (np_pos c_36))) (show v_np < 2 ^ 31 by omega) rfl dL_refused_208 ?_
      refine lv_iconst (v := 2) hx hb dL_refused_209 (by decide) ?_
      refine k_ildP (i := 2) (v := v_vo p) hx hb hK hw (Pk_5 (i := p) (show p < v_np from (hp (np_pos c_36)))) (by decide) (by decide) rfl dL_refused_210 ?_
      refine lv_if_eq (tgt := 234) hx hb dL_refused_211 (by decide) (fun c_37 => ?_) (fun c_37 => ?_)
      · have c_37 : (v_vo p : Int32) = 0 := c_37
        refine lv_iconst (v := 1) hx hb dL_refused_234 (by decide) ?_
        refine lv_goto (tgt := 239) hx hb dL_refused_235 (by decide) ?_
        exact k_iret hx hb hr hlocks hK hw rfl dL_refused_239 (by first | assumption | (simp only [f_ref, bI_t, bI_f, if_neg k_1, if_neg k_3, if_neg k_6, if_neg k_9, if_neg k_11, if_neg k_12, if_neg k_14, if_neg k_16, if_neg k_18, if_neg k_21, if_neg k_24, if_neg k_27, if_neg k_31, if_pos k_35, if_neg c_36, if_pos c_37, if_true, if_false, Bool.false_eq_true, Bool.true_eq_false, reduceIte, reduceCtorEq]; done) | (simp only [f_ref, bI_t, bI_f, if_neg k_1, if_neg k_3, if_neg k_6, if_neg k_9, if_neg k_11, if_neg k_12, if_neg k_14, if_neg k_16, if_neg k_18, if_neg k_21, if_neg k_24, if_neg k_27, if_neg k_31, if_pos k_35, if_neg c_36, if_pos c_37, if_true, if_false, Bool.false_eq_true, Bool.true_eq_false, reduceIte, reduceCtorEq]; rfl) | rfl | (simp [f_ref, bI_t, bI_f, if_neg k_1, if_neg k_3, if_neg k_6, if_neg k_9, if_neg k_11, if_neg k_12, if_neg k_14, if_neg k_16, if_neg k_18, if_neg k_21, if_neg k_24, if_neg k_27, if_neg k_31, if_pos k_35, if_neg c_36, if_pos c_37, if_true, if_false, Bool.false_eq_true, Bool.true_eq_false, reduceIte, reduceCtorEq]; done) | (simp [bI, f_ref, bI_t, bI_f, k_1, k_3, k_6, k_9, k_11, k_12, k_14, k_16, k_18, k_21, k_24, k_27, k_31, k_35, c_36, c_37]; done)) rfl
      · have c_37 : ¬ (v_vo p : Int32) = 0 := c_37
        refine lv_aload_n hx hb dL_refused_214 rfl (lv_at hl 0 rfl) ?_
        refine k_get (ci := 3) (v := .ref (P.1 1)) (C := RX3) (T := TX3) (N := 7) hx hb hown hK hw hts hinX3 0 rfl rfl 3 (by decide) hf9 rfl dL_refused_215 ?_
        refine lv_aload_n hx hb dL_refused_218 rfl (lv_at hl 0 rfl) ?_
        refine k_get (ci := 3) (v := .ref (P.1 2)) (C := RX3) (T := TX3) (N := 7) hx hb hown hK hw hts hinX3 0 rfl rfl 4 (by decide) hf25 rfl dL_refused_219 ?_
        refine lv_iload hx hb dL_refused_222 (lv_at hl 4 rfl) ?_
        refine k_qld (i := p) (y := P.2.2.1 p) (n := v_np) hx hb hK hw 2 rfl (show p < v_np from (hp (np_pos c_36))) (show v_np < 2 ^ 31 by omega) rfl dL_refused_224 ?_
        refine lv_iconst (v := 0) hx hb dL_refused_225 (by decide) ?_
        refine k_ildP (i := 0) (v := nI (v_so p)) hx hb hK hw (Pk_5 (i := p) (show p < v_np from (hp (np_pos c_36)))) (by decide) (by decide) rfl dL_refused_226 ?_
        refine k_qld (i := v_so p) (y := P.2.1 (v_so p)) (n := v_ns) hx hb hK hw 1 rfl (show v_so p < v_ns from (hso p (hp (np_pos c_36)))) (show v_ns < 2 ^ 31 by omega) rfl dL_refused_227 ?_
        refine lv_iconst (v := 1) hx hb dL_refused_228 (by decide) ?_
        refine k_ildP (i := 1) (v := v_st (v_so p)) hx hb hK hw (Pk_4 (i := v_so p) (show v_so p < v_ns from (hso p (hp (np_pos c_36))))) (by decide) (by decide) rfl dL_refused_229 ?_
        refine lv_iconst (v := 1) hx hb dL_refused_230 (by decide) ?_
        refine lv_icmp_eq (tgt := 238) hx hb dL_refused_231 (by decide) (fun c_38 => ?_) (fun c_38 => ?_)
        · have c_38 : (v_st (v_so p) : Int32) = 1 := c_38
          refine lv_iconst (v := 0) hx hb dL_refused_238 (by decide) ?_
          exact k_iret hx hb hr hlocks hK hw rfl dL_refused_239 (by first | assumption | (simp only [f_ref, bI_t, bI_f, if_neg k_1, if_neg k_3, if_neg k_6, if_neg k_9, if_neg k_11, if_neg k_12, if_neg k_14, if_neg k_16, if_neg k_18, if_neg k_21, if_neg k_24, if_neg k_27, if_neg k_31, if_pos k_35, if_neg c_36, if_neg c_37, if_pos c_38, if_true, if_false, Bool.false_eq_true, Bool.true_eq_false, reduceIte, reduceCtorEq]; done) | (simp only [f_ref, bI_t, bI_f, if_neg k_1, if_neg k_3, if_neg k_6, if_neg k_9, if_neg k_11, if_neg k_12, if_neg k_14, if_neg k_16, if_neg k_18, if_neg k_21, if_neg k_24, if_neg k_27, if_neg k_31, if_pos k_35, if_neg c_36, if_neg c_37, if_pos c_38, if_true, if_false, Bool.false_eq_true, Bool.true_eq_false, reduceIte, reduceCtorEq]; rfl) | rfl | (simp [f_ref, bI_t, bI_f, if_neg k_1, if_neg k_3, if_neg k_6, if_neg k_9, if_neg k_11, if_neg k_12, if_neg k_14, if_neg k_16, if_neg k_18, if_neg k_21, if_neg k_24, if_neg k_27, if_neg k_31, if_pos k_35, if_neg c_36, if_neg c_37, if_pos c_38, if_true, if_false, Bool.false_eq_true, Bool.true_eq_false, reduceIte, reduceCtorEq]; done) | (simp [bI, f_ref, bI_t, bI_f, k_1, k_3, k_6, k_9, k_11, k_12, k_14, k_16, k_18, k_21, k_24, k_27, k_31, k_35, c_36, c_37, c_38]; done)) rfl
        · have c_38 : ¬ (v_st (v_so p) : Int32) = 1 := c_38
          refine lv_iconst (v := 1) hx hb dL_refused_234 (by decide) ?_
          refine lv_goto (tgt := 239) hx hb dL_refused_235 (by decide) ?_
          exact k_iret hx hb hr hlocks hK hw rfl dL_refused_239 (by first | assumption | (simp only [f_ref, bI_t, bI_f, if_neg k_1, if_neg k_3, if_neg k_6, if_neg k_9, if_neg k_11, if_neg k_12, if_neg k_14, if_neg k_16, if_neg k_18, if_neg k_21, if_neg k_24, if_neg k_27, if_neg k_31, if_pos k_35, if_neg c_36, if_neg c_37, if_neg c_38, if_true, if_false, Bool.false_eq_true, Bool.true_eq_false, reduceIte, reduceCtorEq]; done) | (simp only [f_ref, bI_t, bI_f, if_neg k_1, if_neg k_3, if_neg k_6, if_neg k_9, if_neg k_11, if_neg k_12, if_neg k_14, if_neg k_16, if_neg k_18, if_neg k_21, if_neg k_24, if_neg k_27, if_neg k_31, if_pos k_35, if_neg c_36, if_neg c_37, if_neg c_38, if_true, if_false, Bool.false_eq_true, Bool.true_eq_false, reduceIte, reduceCtorEq]; rfl) | rfl | (simp [f_ref, bI_t, bI_f, if_neg k_1, if_neg k_3, if_neg k_6, if_neg k_9, if_neg k_11, if_neg k_12, if_neg k_14, if_neg k_16, if_neg k_18, if_neg k_21, if_neg k_24, if_neg k_27, if_neg k_31, if_pos k_35, if_neg c_36, if_neg c_37, if_neg c_38, if_true, if_false, Bool.false_eq_true, Bool.true_eq_false, reduceIte, reduceCtorEq]; done) | (simp [bI, f_ref, bI_t, bI_f, k_1, k_3, k_6, k_9, k_11, k_12, k_14, k_16, k_18, k_21, k_24, k_27, k_31, k_35, c_36, c_37, c_38]; done)) rfl
  refine k_tabOut (tgt := 240) hx hb dL_refused_6 (by omega) (by have := bl_lt (v := x) (n := 18) (by omega); omega) (by decide) ?_
  refine lv_iconst (v := 0) hx hb dL_refused_240 (by decide) ?_
  exact k_iret hx hb hr hlocks hK hw rfl dL_refused_241 (by first | assumption | (simp only [f_ref, bI_t, bI_f, if_neg k_1, if_neg k_3, if_neg k_6, if_neg k_9, if_neg k_11, if_neg k_12, if_neg k_14, if_neg k_16, if_neg k_18, if_neg k_21, if_neg k_24, if_neg k_27, if_neg k_31, if_neg k_35, if_true, if_false, Bool.false_eq_true, Bool.true_eq_false, reduceIte, reduceCtorEq]; done) | (simp only [f_ref, bI_t, bI_f, if_neg k_1, if_neg k_3, if_neg k_6, if_neg k_9, if_neg k_11, if_neg k_12, if_neg k_14, if_neg k_16, if_neg k_18, if_neg k_21, if_neg k_24, if_neg k_27, if_neg k_31, if_neg k_35, if_true, if_false, Bool.false_eq_true, Bool.true_eq_false, reduceIte, reduceCtorEq]; rfl) | rfl | (simp [f_ref, bI_t, bI_f, if_neg k_1, if_neg k_3, if_neg k_6, if_neg k_9, if_neg k_11, if_neg k_12, if_neg k_14, if_neg k_16, if_neg k_18, if_neg k_21, if_neg k_24, if_neg k_27, if_neg k_31, if_neg k_35, if_true, if_false, Bool.false_eq_true, Bool.true_eq_false, reduceIte, reduceCtorEq]; done) | (simp [bI, f_ref, bI_t, bI_f, k_1, k_3, k_6, k_9, k_11, k_12, k_14, k_16, k_18, k_21, k_24, k_27, k_31, k_35]; done)) rfl
