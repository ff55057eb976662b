abbrev rm_X3_ends : Room := { frames := 2, cells := 21, slots := 420, locals := 50 }
set_option maxHeartbeats 4000000 in
set_option maxRecDepth 100000 in
theorem c_X3_ends (l : Launch) (E : Ev) (q : Nat) (P : AP) (M : SM) (s : Nat) (hM : MOK M) (hs : s < m_ns M) : MC l E yX3_ends wsX3_ends rm_X3_ends [.ref q, .int (nI s)] (wS E q P M) (fun (u : AP) => True) (fun (u : AP) => wS E q u (f_ends M s)) := by
  have hM0 := hM
  obtain ⟨hns, hnp, hnw, hng, hso, hsw⟩ := hM
  refine k_bC (cc := cX3_ends) (maxL := 6) (ret := none) (by decide) rfl (Nat.le_of_ble_eq_true rfl) ?_
  intro p9 e s9 m args below meth c A9 ls hC hin9 hl hw
  obtain ⟨hx, hb, hml, hr, hown, hts, hlocks, hK, hG, hA⟩ := hC
  have hf9 := hts (.fieldLink RX3 9 "SailorCandlesLaw$Sim" "ships" "[[I") (List.mem_of_getElem? (i := 1) rfl)
  have hinX3 : ∀ w ∈ wsX30, w ∈ wsX3_ends := fun w h => List.mem_cons_of_mem _ (List.mem_append_right _ h)
  have hf15 := hts (.fieldLink RX3 15 "SailorCandlesLaw$Sim" "sailors" "[[I") (List.mem_of_getElem? (i := 2) rfl)
  have hf33 := hts (.fieldLink RX3 33 "SailorCandlesLaw$Sim" "wax" "I") (List.mem_of_getElem? (i := 3) rfl)
  have hl : lv_has ls 6 [(0, .ref q), (1, .int (nI s))] := hl
  refine lv_aload_n hx hb dX3_ends_0 rfl (lv_at hl 0 rfl) ?_
  refine lv_iload_n hx hb dX3_ends_1 rfl (lv_at hl 1 rfl) ?_
  refine lv_bipush (v := 99) hx hb dX3_ends_2 (by decide) ?_
  have hn4 : Rn (wS E q P M) (wS E q P M) (([] : va_W)) := perm9 (fun a => by simp only [cnt9_app, cnt9_cons, cnt9_nil] <;> omega)
  refine kr_new (va_runV (As := [.int (nI s), .int 99]) (rest := []) ⟨hx, hb, hml, hown, hts⟩ (c_X3_drop l E q P M (nI s) 99 (hM0) _) (cwV 2 hts gX3_ends_X3_drop rfl rfl rfl ⟨rfl, hd_X3_drop⟩ ⟨Nat.le_of_ble_eq_true rfl, Nat.le_of_ble_eq_true rfl⟩) (pwV (ci := 3) (q0 := 0) (C := RX3) hw hK rfl rfl rfl (rpS (AV := [.ref q, .int (nI s), .int 99]) hw hK hG hn4.rp)) rfl rfl hl.1 rfl (lv_room (Nat.le_of_ble_eq_true rfl)) dX3_ends_4 ⟨Nat.le_of_ble_eq_true rfl, Nat.le_of_ble_eq_true rfl⟩) hw hA hn4 (fun u_1 H locs _ hw => ?_)
  have hw : Wd E A9 s9.heap (wS E q u_1 (f_drop M (nI s) 99)) H _ := Wd.perm hw (perm9 (fun a => by simp only [cnt9_app, cnt9_cons, cnt9_nil] <;> omega))
  refine lv_aload_n hx hb dX3_ends_7 rfl (lv_at hl 0 rfl) ?_
  refine k_get (ci := 3) (v := .ref (u_1.1 1)) (C := RX3) (T := TX3) (N := 7) hx hb hown hK hw hts hinX3 0 rfl rfl 3 (by decide) hf9 rfl dX3_ends_8 ?_
  refine lv_iload_n hx hb dX3_ends_11 rfl (lv_at hl 1 rfl) ?_
  refine k_qld (i := s) (y := u_1.2.1 s) (n := m_ns M) hx hb hK hw 1 rfl (show s < m_ns M from hs) (show m_ns M < 2 ^ 31 by omega) rfl dX3_ends_12 ?_
  refine lv_iconst (v := 3) hx hb dX3_ends_13 (by decide) ?_
  refine lv_iconst (v := 0) hx hb dX3_ends_14 (by decide) ?_
  refine k_istP (i := 3) (ws' := wS E q u_1 (q_ru (f_drop M (nI s) 99) (upd (m_ru M) s 0))) hx hb hK hw (Pk_ru 0 (i := s) (show s < m_ns M from hs)) (by decide) (by decide) dX3_ends_15 (fun H locs hw => ?_)
  refine lv_aload_n hx hb dX3_ends_16 rfl (lv_at hl 0 rfl) ?_
  refine k_get (ci := 3) (v := .ref (u_1.1 2)) (C := RX3) (T := TX3) (N := 7) hx hb hown hK hw hts hinX3 0 rfl rfl 4 (by decide) hf15 rfl dX3_ends_17 ?_
  refine lv_astore_n (lv' := [(2, .ref (u_1.1 2)), (0, .ref q), (1, .int (nI s))]) hx hb dX3_ends_20 rfl hl (by decide) rfl (fun ls hl => ?_)
  refine lv_aload_n hx hb dX3_ends_21 rfl (lv_at hl 0 rfl) ?_
  refine k_lenQ (n := m_np M) hx hb hK hw 2 rfl dX3_ends_22 ?_
  refine lv_istore_n (lv' := [(3, .int (nI (m_np M))), (2, .ref (u_1.1 2)), (0, .ref q), (1, .int (nI s))]) hx hb dX3_ends_23 rfl hl (by decide) rfl (fun ls hl => ?_)
  refine lv_iconst (v := 0) hx hb dX3_ends_24 (by decide) ?_
  refine lv_istore (lv' := [(4, .int 0), (3, .int (nI (m_np M))), (2, .ref (u_1.1 2)), (0, .ref q), (1, .int (nI s))]) hx hb dX3_ends_25 hl (by decide) rfl (fun ls hl => ?_)
  have L_27 : ∀ (k9 j : Nat) (H : Heap) (locs : List Loc) (ls : Array Slot), j + k9 = (m_np M) → Wd E A9 s9.heap (wS E q u_1 (q_wa (q_ca ((q_ru (f_drop M (nI s) 99) (upd (m_ru M) s 0))) (l_en (m_so M) s (m_ca M) (m_wa M) j).1) (l_en (m_so M) s (m_ca M) (m_wa M) j).2)) H locs → lv_has ls 6 [(0, .ref q), (1, .int (nI s)), (2, .ref (u_1.1 2)), (3, .int (nI (m_np M))), (4, .int (nI j))] → W p9 l e rm_X3_ends s9 m args below meth c H locs 21 420 (EndC E A9 (fun (u : AP) => True) (fun (u : AP) => wS E q u (f_ends M s)) below args s9 (rm_X3_ends).cells (rm_X3_ends).slots) (F0 m 27 ls []) := by
    intro k9
    induction k9 with
    | zero =>
      intro j H locs ls hi hw hl
      have hz_2 : m_np M = j := by omega
      refine lv_iload hx hb dX3_ends_27 (lv_at hl 4 rfl) ?_
      refine lv_iload_n hx hb dX3_ends_29 rfl (lv_at hl 3 rfl) ?_
      refine lv_icmp_ge (tgt := 74) hx hb dX3_ends_30 (by decide) (fun _ => ?_) (fun q8 => absurd (by rw [← hz_2]; exact Int32.le_refl _) q8)
      refine W.widen (k := (rm_X3_ends).cells) (n := (rm_X3_ends).slots) (Nat.le_of_ble_eq_true rfl) (Nat.le_of_ble_eq_true rfl) ?_
      exact k_cret u_1 hx hb hr hlocks hK (hw.to (by rw [← hz_2]; rfl)) dX3_ends_74 trivial rfl
    | succ k9 ih_27 =>
      intro j H locs ls hi hw hl
      have hi9 : j < m_np M := by omega
      refine lv_iload hx hb dX3_ends_27 (lv_at hl 4 rfl) ?_
      refine lv_iload_n hx hb dX3_ends_29 rfl (lv_at hl 3 rfl) ?_
      refine lv_icmp_ge (tgt := 74) hx hb dX3_ends_30 (by decide) (fun q8 => absurd q8 (nI_ge (a := j) (b := m_np M) (by omega) (by omega))) (fun _ => ?_)
      refine lv_aload_n hx hb dX3_ends_33 rfl (lv_at hl 2 rfl) ?_
      refine lv_iload hx hb dX3_ends_34 (lv_at hl 4 rfl) ?_
      refine k_qld (i := j) (y := u_1.2.2.1 j) (n := m_np M) hx hb hK hw 2 rfl (show j < m_np M from by omega) (show m_np M < 2 ^ 31 by omega) rfl dX3_ends_36 ?_
      refine lv_astore (lv' := [(5, .ref (u_1.2.2.1 j)), (0, .ref q), (1, .int (nI s)), (2, .ref (u_1.1 2)), (3, .int (nI (m_np M))), (4, .int (nI j))]) hx hb dX3_ends_37 hl (by decide) rfl (fun ls hl => ?_)
      refine lv_aload hx hb dX3_ends_39 (lv_at hl 0 rfl) ?_
      refine lv_iconst (v := 0) hx hb dX3_ends_41 (by decide) ?_
      refine k_ildP (i := 0) (v := nI ((m_so M) j)) hx hb hK hw (Pk_5 (i := j) (show j < m_np M from by omega)) (by decide) (by decide) rfl dX3_ends_42 ?_
      refine lv_iload_n hx hb dX3_ends_43 rfl (lv_at hl 2 rfl) ?_
      refine lv_icmp_eq (tgt := 50) hx hb dX3_ends_44 (by decide) (fun c_3 => ?_) (fun c_3 => ?_)
      · refine lv_aload_n hx hb dX3_ends_50 rfl (lv_at hl 1 rfl) ?_
        refine lv_dup hx hb dX3_ends_51 rfl ?_
        refine k_get (ci := 3) (v := .int ((l_en (m_so M) s (m_ca M) (m_wa M) j).2)) (C := RX3) (T := TX3) (N := 7) hx hb hown hK hw hts hinX3 0 rfl rfl 1 (by decide) hf33 rfl dX3_ends_52 ?_
        refine lv_aload hx hb dX3_ends_55 (lv_at hl 0 rfl) ?_
        refine lv_iconst (v := 4) hx hb dX3_ends_57 (by decide) ?_
        refine k_ildP (i := 4) (v := ((l_en (m_so M) s (m_ca M) (m_wa M) j).1) j) hx hb hK hw (Pk_5 (i := j) (show j < m_np M from by omega)) (by decide) (by decide) rfl dX3_ends_58 ?_
        refine lv_iadd hx hb dX3_ends_59 ?_
        refine k_put (ci := 3) (C := RX3) (T := TX3) (N := 7) (ws' := wS E q u_1 (q_wa (q_wa (q_ca ((q_ru (f_drop M (nI s) 99) (upd (m_ru M) s 0))) (l_en (m_so M) s (m_ca M) (m_wa M) j).1) (l_en (m_so M) s (m_ca M) (m_wa M) j).2) (((l_en (m_so M) s (m_ca M) (m_wa M) j).2) + (((l_en (m_so M) s (m_ca M) (m_wa M) j).1) j)))) hx hb hown hK hw hts hinX3 tyX3 tyX3_ok nmX3 0 rfl rfl 1 (by decide) hf33 rfl rfl (Nat.le_of_ble_eq_true rfl) dX3_ends_60 rfl (fun H locs hw => ?_)
        refine lv_aload hx hb dX3_ends_63 (lv_at hl 0 rfl) ?_
        refine lv_iconst (v := 4) hx hb dX3_ends_65 (by decide) ?_
        refine lv_iconst (v := 0) hx hb dX3_ends_66 (by decide) ?_
        refine k_istP (i := 4) (ws' := wS E q u_1 (q_ca (q_wa (q_wa (q_ca ((q_ru (f_drop M (nI s) 99) (upd (m_ru M) s 0))) (l_en (m_so M) s (m_ca M) (m_wa M) j).1) (l_en (m_so M) s (m_ca M) (m_wa M) j).2) (((l_en (m_so M) s (m_ca M) (m_wa M) j).2) + (((l_en (m_so M) s (m_ca M) (m_wa M) j).1) j))) (upd ((l_en (m_so M) s (m_ca M) (m_wa M) j).1) j 0))) hx hb hK hw (Pk_ca 0 (i := j) (show j < m_np M from by omega)) (by decide) (by decide) dX3_ends_67 (fun H locs hw => ?_)
        refine lv_iinc (v := nI (j + 1)) (lv' := [(4, .int (nI (j + 1))), (5, .ref (u_1.2.2.1 j)), (0, .ref q), (1, .int (nI s)), (2, .ref (u_1.1 2)), (3, .int (nI (m_np M)))]) hx hb dX3_ends_68 hl (k := 5) rfl (nI_add j 1) (by decide) rfl (fun ls hl => ?_)
        refine lv_goto (tgt := 27) hx hb dX3_ends_71 (by decide) ?_
        exact ih_27 (j + 1) _ _ _ (by omega) (hw.to (by first | assumption | (simp only [l_en, if_pos c_3, if_true, if_false, Bool.false_eq_true, Bool.true_eq_false, reduceIte, reduceCtorEq]; done) | (simp only [l_en, if_pos c_3, if_true, if_false, Bool.false_eq_true, Bool.true_eq_false, reduceIte, reduceCtorEq]; rfl) | rfl | (simp [l_en, if_pos c_3, if_true, if_false, Bool.false_eq_true, Bool.true_eq_false, reduceIte, reduceCtorEq]; done) | (simp [bI, l_en, c_3]; done))) (lv_sub hl [2, 3, 4, 5, 0] rfl)
      · refine lv_goto (tgt := 68) hx hb dX3_ends_47 (by decide) ?_
        refine lv_iinc (v := nI (j + 1)) (lv' := [(4, .int (nI (j + 1))), (5, .ref (u_1.2.2.1 j)), (0, .ref q), (1, .int (nI s)), (2, .ref (u_1.1 2)), (3, .int (nI (m_np M)))]) hx hb dX3_ends_68 hl (k := 5) rfl (nI_add j 1) (by decide) rfl (fun ls hl => ?_)
        refine lv_goto (tgt := 27) hx hb dX3_ends_71 (by decide) ?_
        exact ih_27 (j + 1) _ _ _ (by omega) (hw.to (by first | assumption | (simp only [l_en, if_neg c_3, if_true, if_false, Bool.false_eq_true, Bool.true_eq_false, reduceIte, reduceCtorEq]; done) | (simp only [l_en, if_neg c_3, if_true, if_false, Bool.false_eq_true, Bool.true_eq_false, reduceIte, reduceCtorEq]; rfl) | rfl | (simp [l_en, if_neg c_3, if_true, if_false, Bool.false_eq_true, Bool.true_eq_false, reduceIte, reduceCtorEq]; done) | (simp [bI, l_en, c_3]; done))) (lv_sub hl [2, 3, 4, 5, 0] rfl)
  exact L_27 ((m_np M) - 0) 0 _ _ _ (by omega) hw (lv_sub hl [3, 4, 2, 1, 0] rfl)
abbrev rm_X3_pass : Room := { frames := 3, cells := 126, slots := 2520, locals := 75 }
set_option maxHeartbeats 4000000 in
set_option maxRecDepth 100000 in
theorem c_X3_pass (l : Launch) (E : Ev) (q : Nat) (P : AP) (M : SM) (hM : MOK M) : MA l E yX3_pass wsX3_pass rm_X3_pass [.ref q] (wS E q P M) (f_spN M) (fun (u : AP) => wS E q u (f_spass M)) := by
  have hM0 := hM
  obtain ⟨hns, hnp, hnw, hng, hso, hsw⟩ := hM
  refine k_bA (cc := cX3_pass) (maxL := 7) (ret := (some .int)) (by decide) rfl (Nat.le_of_ble_eq_true rfl) ?_
  intro p9 e s9 m args below meth c A9 ls hC hl hw
  obtain ⟨hx, hb, hml, hr, hown, hts, hlocks, hK, hG, hA⟩ := hC
  have hf21 := hts (.fieldLink RX3 21 "SailorCandlesLaw$Sim" "sights" "[[I") (List.mem_of_getElem? (i := 1) rfl)
  have hinX3 : ∀ w ∈ wsX30, w ∈ wsX3_pass := fun w h => List.mem_cons_of_mem _ (List.mem_append_right _ h)
  have hf9 := hts (.fieldLink RX3 9 "SailorCandlesLaw$Sim" "ships" "[[I") (List.mem_of_getElem? (i := 3) rfl)
  have hf15 := hts (.fieldLink RX3 15 "SailorCandlesLaw$Sim" "sailors" "[[I") (List.mem_of_getElem? (i := 5) rfl)
  have hf29 := hts (.fieldLink RX3 29 "SailorCandlesLaw$Sim" "night" "I") (List.mem_of_getElem? (i := 6) rfl)
  have hf36 := hts (.fieldLink RX3 36 "SailorCandlesLaw$Sim" "unrung" "I") (List.mem_of_getElem? (i := 4) rfl)
  have hf18 := hts (.fieldLink RX3 18 "SailorCandlesLaw$Sim" "trust" "[I") (List.mem_of_getElem? (i := 2) rfl)
  have hl : lv_has ls 7 [(0, .ref q)] := hl
  refine lv_iconst (v := 0) hx hb dX3_pass_0 (by decide) ?_
  refine lv_istore_n (lv' := [(1, .int 0), (0, .ref q)]) hx hb dX3_pass_1 rfl hl (by decide) rfl (fun ls hl => ?_)
  refine lv_aload_n hx hb dX3_pass_2 rfl (lv_at hl 1 rfl) ?_
  refine k_get (ci := 3) (v := .ref (P.1 4)) (C := RX3) (T := TX3) (N := 7) hx hb hown hK hw hts hinX3 0 rfl rfl 6 (by decide) hf21 rfl dX3_pass_3 ?_
  refine lv_astore_n (lv' := [(2, .ref (P.1 4)), (1, .int 0), (0, .ref q)]) hx hb dX3_pass_6 rfl hl (by decide) rfl (fun ls hl => ?_)
  refine lv_aload_n hx hb dX3_pass_7 rfl (lv_at hl 0 rfl) ?_
  refine k_lenQ (n := m_ng M) hx hb hK hw 4 rfl dX3_pass_8 ?_
  refine lv_istore_n (lv' := [(3, .int (nI (m_ng M))), (2, .ref (P.1 4)), (1, .int 0), (0, .ref q)]) hx hb dX3_pass_9 rfl hl (by decide) rfl (fun ls hl => ?_)
  refine lv_iconst (v := 0) hx hb dX3_pass_10 (by decide) ?_
  refine lv_istore (lv' := [(4, .int 0), (3, .int (nI (m_ng M))), (2, .ref (P.1 4)), (1, .int 0), (0, .ref q)]) hx hb dX3_pass_11 hl (by decide) rfl (fun ls hl => ?_)
  have L_13 : ∀ (k9 i : Nat) (H : Heap) (locs : List Loc) (ls : Array Slot), i + k9 = (m_ng M) → Wd E A9 s9.heap (wS E q P (q_sg (q_tr M (l_ag (m_sw M) (m_tr M) (m_sg M) i).1) (l_ag (m_sw M) (m_tr M) (m_sg M) i).2)) H locs → lv_has ls 7 [(0, .ref q), (1, .int 0), (2, .ref (P.1 4)), (3, .int (nI (m_ng M))), (4, .int (nI i))] → W p9 l e rm_X3_pass s9 m args below meth c H locs 0 0 (EndA E A9 (f_spN M) (fun (u : AP) => wS E q u (f_spass M)) below args s9 (rm_X3_pass).cells (rm_X3_pass).slots) (F0 m 13 ls []) := by
    intro k9
    induction k9 with
    | zero =>
      intro i H locs ls hi hw hl
      have hz_1 : m_ng M = i := by omega
      refine lv_iload hx hb dX3_pass_13 (lv_at hl 4 rfl) ?_
      refine lv_iload_n hx hb dX3_pass_15 rfl (lv_at hl 3 rfl) ?_
      refine lv_icmp_ge (tgt := 84) hx hb dX3_pass_16 (by decide) (fun _ => ?_) (fun q8 => absurd (by rw [← hz_1]; exact Int32.le_refl _) q8)
      refine lv_aload_n hx hb dX3_pass_84 rfl (lv_at hl 0 rfl) ?_
      refine lv_iconst (v := (-1)) hx hb dX3_pass_85 (by decide) ?_
      refine lv_iconst (v := 3) hx hb dX3_pass_86 (by decide) ?_
      have hn87 : Rn (wS E q P (q_sg (q_tr M (l_ag (m_sw M) (m_tr M) (m_sg M) i).1) (l_ag (m_sw M) (m_tr M) (m_sg M) i).2)) (wS E q P (q_sg (q_tr M (l_ag (m_sw M) (m_tr M) (m_sg M) i).1) (l_ag (m_sw M) (m_tr M) (m_sg M) i).2)) (([] : va_W)) := perm9 (fun a => by simp only [cnt9_app, cnt9_cons, cnt9_nil] <;> omega)
      refine kr_new (va_runV (As := [.int (-1), .int 3]) (rest := []) ⟨hx, hb, hml, hown, hts⟩ (c_X3_drop l E q P (q_sg (q_tr M (l_ag (m_sw M) (m_tr M) (m_sg M) i).1) (l_ag (m_sw M) (m_tr M) (m_sg M) i).2) (-1) 3 (hM0) _) (cwV 2 hts gX3_pass_X3_drop rfl rfl rfl ⟨rfl, hd_X3_drop⟩ ⟨Nat.le_of_ble_eq_true rfl, Nat.le_of_ble_eq_true rfl⟩) (pwV (ci := 3) (q0 := 0) (C := RX3) hw hK rfl rfl rfl (rpS (AV := [.ref q, .int (-1), .int 3]) hw hK hG hn87.rp)) rfl rfl hl.1 rfl (lv_room (Nat.le_of_ble_eq_true rfl)) dX3_pass_87 ⟨Nat.le_of_ble_eq_true rfl, Nat.le_of_ble_eq_true rfl⟩) hw hA hn87 (fun u_2 H locs _ hw => ?_)
      have hw : Wd E A9 s9.heap (wS E q u_2 (f_drop (q_sg (q_tr M (l_ag (m_sw M) (m_tr M) (m_sg M) i).1) (l_ag (m_sw M) (m_tr M) (m_sg M) i).2) (-1) 3)) H _ := Wd.perm hw (perm9 (fun a => by simp only [cnt9_app, cnt9_cons, cnt9_nil] <;> omega))
      have hw : Wd E A9 s9.heap (wS E q u_2 (f_ngA M)) H _ := hw.to (by rw [← hz_1]; rfl)
      refine lv_iconst (v := 0) hx hb dX3_pass_90 (by decide) ?_
      refine lv_istore_n (lv' := [(2, .int 0), (0, .ref q), (1, .int 0), (3, .int (nI (m_ng M))), (4, .int (nI i))]) hx hb dX3_pass_91 rfl hl (by decide) rfl (fun ls hl => ?_)
      have L_92 : ∀ (k9 i : Nat) (H : Heap) (locs : List Loc) (ls : Array Slot), i + k9 = (m_ns M) → Wd E A9 s9.heap (wS E q u_2 (q_un (q_ru (f_ngA M) (l_ub (m_ss (f_ngA M)) (m_sw (f_ngA M)) (m_tr (f_ngA M)) (m_ng (f_ngA M)) (m_ru M) (m_un M) i).1) (l_ub (m_ss (f_ngA M)) (m_sw (f_ngA M)) (m_tr (f_ngA M)) (m_ng (f_ngA M)) (m_ru M) (m_un M) i).2)) H locs → lv_has ls 7 [(0, .ref q), (1, .int 0), (2, .int (nI i))] → W p9 l e rm_X3_pass s9 m args below meth c H locs 21 420 (EndA E A9 (f_spN M) (fun (u : AP) => wS E q u (f_spass M)) below args s9 (rm_X3_pass).cells (rm_X3_pass).slots) (F0 m 92 ls []) := by
        intro k9
        induction k9 with
        | zero =>
          intro i H locs ls hi hw hl
          have hz_3 : m_ns M = i := by omega
          refine lv_iload_n hx hb dX3_pass_92 rfl (lv_at hl 2 rfl) ?_
          refine lv_aload_n hx hb dX3_pass_93 rfl (lv_at hl 0 rfl) ?_
          refine k_get (ci := 3) (v := .ref (u_2.1 1)) (C := RX3) (T := TX3) (N := 7) hx hb hown hK hw hts hinX3 0 rfl rfl 3 (by decide) hf9 rfl dX3_pass_94 ?_
          refine k_lenQ (n := m_ns M) hx hb hK hw 1 rfl dX3_pass_97 ?_
          refine lv_icmp_ge (tgt := 149) hx hb dX3_pass_98 (by decide) (fun _ => ?_) (fun q8 => absurd (by rw [← hz_3]; exact Int32.le_refl _) q8)
          have hw : Wd E A9 s9.heap (wS E q u_2 (f_ngB (f_ngA M))) H _ := hw.to (by rw [← hz_3]; rfl)
          refine lv_aload_n hx hb dX3_pass_149 rfl (lv_at hl 0 rfl) ?_
          refine k_get (ci := 3) (v := .ref (u_2.1 2)) (C := RX3) (T := TX3) (N := 7) hx hb hown hK hw hts hinX3 0 rfl rfl 4 (by decide) hf15 rfl dX3_pass_150 ?_
          refine lv_astore_n (lv' := [(2, .ref (u_2.1 2)), (0, .ref q), (1, .int 0)]) hx hb dX3_pass_153 rfl hl (by decide) rfl (fun ls hl => ?_)
          refine lv_aload_n hx hb dX3_pass_154 rfl (lv_at hl 0 rfl) ?_
          refine k_lenQ (n := m_np M) hx hb hK hw 2 rfl dX3_pass_155 ?_
          refine lv_istore_n (lv' := [(3, .int (nI (m_np M))), (2, .ref (u_2.1 2)), (0, .ref q), (1, .int 0)]) hx hb dX3_pass_156 rfl hl (by decide) rfl (fun ls hl => ?_)
          refine lv_iconst (v := 0) hx hb dX3_pass_157 (by decide) ?_
          refine lv_istore (lv' := [(4, .int 0), (3, .int (nI (m_np M))), (2, .ref (u_2.1 2)), (0, .ref q), (1, .int 0)]) hx hb dX3_pass_158 hl (by decide) rfl (fun ls hl => ?_)
          have L_160 : ∀ (k9 i : Nat) (H : Heap) (locs : List Loc) (ls : Array Slot), i + k9 = (m_np M) → Wd E A9 s9.heap (wS E q u_2 (q_wa (q_ca (f_ngB (f_ngA M)) (l_cd (m_st M) (m_ru (f_ngB (f_ngA M))) (m_mt M) (m_so M) (m_ca M) (m_wa M) i).1) (l_cd (m_st M) (m_ru (f_ngB (f_ngA M))) (m_mt M) (m_so M) (m_ca M) (m_wa M) i).2.1)) H locs → lv_has ls 7 [(0, .ref q), (1, .int ((l_cd (m_st M) (m_ru (f_ngB (f_ngA M))) (m_mt M) (m_so M) (m_ca M) (m_wa M) i).2.2)), (2, .ref (u_2.1 2)), (3, .int (nI (m_np M))), (4, .int (nI i))] → W p9 l e rm_X3_pass s9 m args below meth c H locs 21 420 (EndA E A9 (f_spN M) (fun (u : AP) => wS E q u (f_spass M)) below args s9 (rm_X3_pass).cells (rm_X3_pass).slots) (F0 m 160 ls []) := by
            intro k9
            induction k9 with
            | zero =>
              intro i H locs ls hi hw hl
              have hz_4 : m_np M = i := by omega
              refine lv_iload hx hb dX3_pass_160 (lv_at hl 4 rfl) ?_
              refine lv_iload_n hx hb dX3_pass_162 rfl (lv_at hl 3 rfl) ?_
              refine lv_icmp_ge (tgt := 259) hx hb dX3_pass_163 (by decide) (fun _ => ?_) (fun q8 => absurd (by rw [← hz_4]; exact Int32.le_refl _) q8)
              have hw : Wd E A9 s9.heap (wS E q u_2 (f_ngC (f_ngB (f_ngA M)))) H _ := hw.to (by rw [← hz_4]; rfl)
              refine lv_iconst (v := 0) hx hb dX3_pass_259 (by decide) ?_
              refine lv_istore_n (lv' := [(2, .int 0), (0, .ref q), (1, .int ((l_cd (m_st M) (m_ru (f_ngB (f_ngA M))) (m_mt M) (m_so M) (m_ca M) (m_wa M) i).2.2)), (3, .int (nI (m_np M))), (4, .int (nI i))]) hx hb dX3_pass_260 rfl hl (by decide) rfl (fun ls hl => ?_)
              have L_261 : ∀ (k9 i : Nat) (P9 : AP) (H : Heap) (locs : List Loc) (ls : Array Slot), i + k9 = (m_ns M) → Wd E A9 s9.heap (wS E q P9 (mix9 (f_ngC (f_ngB (f_ngA M))) (l_lo (f_ngC (f_ngB (f_ngA M))) i))) H locs → lv_has ls 7 [(0, .ref q), (1, .int (f_spN M)), (2, .int (nI i))] → W p9 l e rm_X3_pass s9 m args below meth c H locs (21 + 21 * i) (420 + 420 * i) (EndA E A9 (f_spN M) (fun (u : AP) => wS E q u (f_spass M)) below args s9 (rm_X3_pass).cells (rm_X3_pass).slots) (F0 m 261 ls []) := by
                intro k9
                induction k9 with
                | zero =>
                  intro i P9 H locs ls hi hw hl
                  have hz_5 : m_ns M = i := by omega
                  refine lv_iload_n hx hb dX3_pass_261 rfl (lv_at hl 2 rfl) ?_
                  refine lv_aload_n hx hb dX3_pass_262 rfl (lv_at hl 0 rfl) ?_
                  refine k_get (ci := 3) (v := .ref (P9.1 1)) (C := RX3) (T := TX3) (N := 7) hx hb hown hK hw hts hinX3 0 rfl rfl 3 (by decide) hf9 rfl dX3_pass_263 ?_
                  refine k_lenQ (n := m_ns M) hx hb hK hw 1 rfl dX3_pass_266 ?_
                  refine lv_icmp_ge (tgt := 350) hx hb dX3_pass_267 (by decide) (fun _ => ?_) (fun q8 => absurd (by rw [← hz_5]; exact Int32.le_refl _) q8)
                  have hw : Wd E A9 s9.heap (wS E q P9 (mix9 (f_ngC (f_ngB (f_ngA M))) (l_lo (f_ngC (f_ngB (f_ngA M))) (m_ns M)))) H _ := hw.to (by rw [← hz_5]; rfl)
                  refine lv_aload_n hx hb dX3_pass_350 rfl (lv_at hl 0 rfl) ?_
                  refine lv_dup hx hb dX3_pass_351 rfl ?_
                  refine k_get (ci := 3) (v := .int (m_ni M)) (C := RX3) (T := TX3) (N := 7) hx hb hown hK hw hts hinX3 0 rfl rfl 0 (by decide) hf29 rfl dX3_pass_352 ?_
                  refine lv_iconst (v := 1) hx hb dX3_pass_355 (by decide) ?_
                  refine lv_iadd hx hb dX3_pass_356 ?_
                  refine k_put (ci := 3) (C := RX3) (T := TX3) (N := 7) (ws' := wS E q P9 (q_ni (mix9 (f_ngC (f_ngB (f_ngA M))) (l_lo (f_ngC (f_ngB (f_ngA M))) (m_ns M))) ((m_ni M) + 1))) hx hb hown hK hw hts hinX3 tyX3 tyX3_ok nmX3 0 rfl rfl 0 (by decide) hf29 rfl rfl (Nat.le_of_ble_eq_true rfl) dX3_pass_357 rfl (fun H locs hw => ?_)
                  refine lv_iload_n hx hb dX3_pass_360 rfl (lv_at hl 1 rfl) ?_
                  refine W.widen (k := (rm_X3_pass).cells) (n := (rm_X3_pass).slots) (show 21 + 21 * i ≤ 126 by omega) (show 420 + 420 * i ≤ 2520 by omega) ?_
                  exact k_aret9 P9 hx hb hr hlocks hK hw rfl dX3_pass_361 rfl (by rfl)
                | succ k9 ih_261 =>
                  intro i P9 H locs ls hi hw hl
                  have hi9 : i < m_ns M := by omega
                  refine lv_iload_n hx hb dX3_pass_261 rfl (lv_at hl 2 rfl) ?_
                  refine lv_aload_n hx hb dX3_pass_262 rfl (lv_at hl 0 rfl) ?_
                  refine k_get (ci := 3) (v := .ref (P9.1 1)) (C := RX3) (T := TX3) (N := 7) hx hb hown hK hw hts hinX3 0 rfl rfl 3 (by decide) hf9 rfl dX3_pass_263 ?_
                  refine k_lenQ (n := m_ns M) hx hb hK hw 1 rfl dX3_pass_266 ?_
                  refine lv_icmp_ge (tgt := 350) hx hb dX3_pass_267 (by decide) (fun q8 => absurd q8 (nI_ge (a := i) (b := m_ns M) (by omega) (by omega))) (fun _ => ?_)
                  refine lv_aload_n hx hb dX3_pass_270 rfl (lv_at hl 0 rfl) ?_
                  refine k_get (ci := 3) (v := .ref (P9.1 1)) (C := RX3) (T := TX3) (N := 7) hx hb hown hK hw hts hinX3 0 rfl rfl 3 (by decide) hf9 rfl dX3_pass_271 ?_
                  refine lv_iload_n hx hb dX3_pass_274 rfl (lv_at hl 2 rfl) ?_
                  refine k_qld (i := i) (y := P9.2.1 i) (n := m_ns M) hx hb hK hw 1 rfl (show i < m_ns M from by omega) (show m_ns M < 2 ^ 31 by omega) rfl dX3_pass_275 ?_
                  refine lv_iconst (v := 1) hx hb dX3_pass_276 (by decide) ?_
                  refine k_ildP (i := 1) (v := (m_st (mix9 (f_ngC (f_ngB (f_ngA M))) (l_lo (f_ngC (f_ngB (f_ngA M))) i))) i) hx hb hK hw (Pk_4 (i := i) (show i < m_ns M from by omega)) (by decide) (by decide) rfl dX3_pass_277 ?_
                  refine lv_iconst (v := 1) hx hb dX3_pass_278 (by decide) ?_
                  refine lv_icmp_eq (tgt := 285) hx hb dX3_pass_279 (by decide) (fun c_6 => ?_) (fun c_6 => ?_)
                  · refine lv_aload_n hx hb dX3_pass_285 rfl (lv_at hl 0 rfl) ?_
                    refine k_get (ci := 3) (v := .ref (P9.1 1)) (C := RX3) (T := TX3) (N := 7) hx hb hown hK hw hts hinX3 0 rfl rfl 3 (by decide) hf9 rfl dX3_pass_286 ?_
                    refine lv_iload_n hx hb dX3_pass_289 rfl (lv_at hl 2 rfl) ?_
                    refine k_qld (i := i) (y := P9.2.1 i) (n := m_ns M) hx hb hK hw 1 rfl (show i < m_ns M from by omega) (show m_ns M < 2 ^ 31 by omega) rfl dX3_pass_290 ?_
                    refine lv_iconst (v := 2) hx hb dX3_pass_291 (by decide) ?_
                    refine lv_dup2_11 hx hb dX3_pass_292 rfl rfl ?_
                    refine k_ildP (i := 2) (v := (m_ou (mix9 (f_ngC (f_ngB (f_ngA M))) (l_lo (f_ngC (f_ngB (f_ngA M))) i))) i) hx hb hK hw (Pk_4 (i := i) (show i < m_ns M from by omega)) (by decide) (by decide) rfl dX3_pass_293 ?_
                    refine lv_iconst (v := 1) hx hb dX3_pass_294 (by decide) ?_
                    refine lv_iadd hx hb dX3_pass_295 ?_
                    refine k_istP (i := 2) (ws' := wS E q P9 (q_ou (mix9 (f_ngC (f_ngB (f_ngA M))) (l_lo (f_ngC (f_ngB (f_ngA M))) i)) (upd (m_ou (mix9 (f_ngC (f_ngB (f_ngA M))) (l_lo (f_ngC (f_ngB (f_ngA M))) i))) i (((m_ou (mix9 (f_ngC (f_ngB (f_ngA M))) (l_lo (f_ngC (f_ngB (f_ngA M))) i))) i) + 1)))) hx hb hK hw (Pk_ou (((m_ou (mix9 (f_ngC (f_ngB (f_ngA M))) (l_lo (f_ngC (f_ngB (f_ngA M))) i))) i) + 1) (i := i) (show i < m_ns M from by omega)) (by decide) (by decide) dX3_pass_296 (fun H locs hw => ?_)
                    refine lv_aload_n hx hb dX3_pass_297 rfl (lv_at hl 0 rfl) ?_
                    refine k_get (ci := 3) (v := .ref (P9.1 1)) (C := RX3) (T := TX3) (N := 7) hx hb hown hK hw hts hinX3 0 rfl rfl 3 (by decide) hf9 rfl dX3_pass_298 ?_
                    refine lv_iload_n hx hb dX3_pass_301 rfl (lv_at hl 2 rfl) ?_
                    refine k_qld (i := i) (y := P9.2.1 i) (n := m_ns M) hx hb hK hw 1 rfl (show i < m_ns M from by omega) (show m_ns M < 2 ^ 31 by omega) rfl dX3_pass_302 ?_
                    refine lv_iconst (v := 2) hx hb dX3_pass_303 (by decide) ?_
                    refine k_ildP (i := 2) (v := ((m_ou (mix9 (f_ngC (f_ngB (f_ngA M))) (l_lo (f_ngC (f_ngB (f_ngA M))) i))) i) + 1) hx hb hK hw (Pk_4 (i := i) (show i < m_ns M from by omega)) (by decide) (by decide) pk_us dX3_pass_304 ?_
                    refine lv_bipush (v := 21) hx hb dX3_pass_305 (by decide) ?_
                    refine lv_icmp_lt (tgt := 344) hx hb dX3_pass_307 (by decide) (fun c_7 => ?_) (fun c_7 => ?_)
                    · refine lv_iinc (v := nI (i + 1)) (lv' := [(2, .int (nI (i + 1))), (0, .ref q), (1, .int (f_spN M))]) hx hb dX3_pass_344 hl (k := 2) rfl (nI_add i 1) (by decide) rfl (fun ls hl => ?_)
                      refine lv_goto (tgt := 261) hx hb dX3_pass_347 (by decide) ?_
                      refine W.widen (k := 21 + 21 * (i + 1)) (n := 420 + 420 * (i + 1)) (show 21 + 21 * i ≤ 21 + 21 * (i + 1) by omega) (show 420 + 420 * i ≤ 420 + 420 * (i + 1) by omega) ?_
                      exact ih_261 (i + 1) _ _ _ _ (by omega) (hw.to (by subst hz_4 hz_3 hz_1; first | exact wS_eq ((lo1_a c_7).trans (mix_lo (M := f_ngC (f_ngB (f_ngA M))) (MOK_ngA hM0) i).symm) | exact wS_eq ((lo1_b c_6 c_7).trans (mix_lo (M := f_ngC (f_ngB (f_ngA M))) (MOK_ngA hM0) i).symm) | exact wS_eq ((lo1_c CQ c_6 c_7).trans (mix_lo (M := f_ngC (f_ngB (f_ngA M))) (MOK_ngA hM0) i).symm) | exact wS_eq ((lo1_d CQ c_6 c_7).trans (mix_lo (M := f_ngC (f_ngB (f_ngA M))) (MOK_ngA hM0) i).symm))) (lv_sub hl [1, 2, 0] rfl)
                    · refine lv_aload_n hx hb dX3_pass_310 rfl (lv_at hl 0 rfl) ?_
                      refine lv_iload_n hx hb dX3_pass_311 rfl (lv_at hl 2 rfl) ?_
                      refine lv_iconst (v := 1) hx hb dX3_pass_312 (by decide) ?_
                      refine kr_i (ws' := wS E q P9 (q_ou (mix9 (f_ngC (f_ngB (f_ngA M))) (l_lo (f_ngC (f_ngB (f_ngA M))) i)) (upd (m_ou (mix9 (f_ngC (f_ngB (f_ngA M))) (l_lo (f_ngC (f_ngB (f_ngA M))) i))) i (((m_ou (mix9 (f_ngC (f_ngB (f_ngA M))) (l_lo (f_ngC (f_ngB (f_ngA M))) i))) i) + 1)))) (va_runV (As := [.int (nI i), .int 1]) (rest := []) ⟨hx, hb, hml, hown, hts⟩ (c_X3_votes l E q P9 (q_ou (mix9 (f_ngC (f_ngB (f_ngA M))) (l_lo (f_ngC (f_ngB (f_ngA M))) i)) (upd (m_ou (mix9 (f_ngC (f_ngB (f_ngA M))) (l_lo (f_ngC (f_ngB (f_ngA M))) i))) i (((m_ou (mix9 (f_ngC (f_ngB (f_ngA M))) (l_lo (f_ngC (f_ngB (f_ngA M))) i))) i) + 1))) i true ((MOK_lo (M := f_ngC (f_ngB (f_ngA M))) (MOK_ngA hM0) i)) _) (cwV 2 hts gX3_pass_X3_votes rfl rfl rfl ⟨rfl, hd_X3_votes⟩ ⟨Nat.le_of_ble_eq_true rfl, Nat.le_of_ble_eq_true rfl⟩) (pwV (ci := 3) (q0 := 0) (C := RX3) hw hK rfl rfl rfl (rpS (AV := [.ref q, .int (nI i), .int 1]) hw hK hG rp_73)) rfl rfl hl.1 rfl (lv_room (Nat.le_of_ble_eq_true rfl)) dX3_pass_313 ⟨(show 21 + 21 * i + 0 ≤ 126 by omega), (show 420 + 420 * i + 0 ≤ 2520 by omega)⟩) hw hA rp_73 (fun H locs hw => ?_)
                      refine lv_iconst (v := 2) hx hb dX3_pass_316 (by decide) ?_
                      refine lv_imul hx hb dX3_pass_317 ?_
                      refine lv_aload_n hx hb dX3_pass_318 rfl (lv_at hl 0 rfl) ?_
                      refine lv_iload_n hx hb dX3_pass_319 rfl (lv_at hl 2 rfl) ?_
                      refine lv_iconst (v := 0) hx hb dX3_pass_320 (by decide) ?_
                      refine kr_i (ws' := wS E q P9 (q_ou (mix9 (f_ngC (f_ngB (f_ngA M))) (l_lo (f_ngC (f_ngB (f_ngA M))) i)) (upd (m_ou (mix9 (f_ngC (f_ngB (f_ngA M))) (l_lo (f_ngC (f_ngB (f_ngA M))) i))) i (((m_ou (mix9 (f_ngC (f_ngB (f_ngA M))) (l_lo (f_ngC (f_ngB (f_ngA M))) i))) i) + 1)))) (va_runV (As := [.int (nI i), .int 0]) (rest := [.int ((l_vot (m_so M) (m_vo M) (m_gi M) i true (m_np M)) * 2)]) ⟨hx, hb, hml, hown, hts⟩ (c_X3_votes l E q P9 (q_ou (mix9 (f_ngC (f_ngB (f_ngA M))) (l_lo (f_ngC (f_ngB (f_ngA M))) i)) (upd (m_ou (mix9 (f_ngC (f_ngB (f_ngA M))) (l_lo (f_ngC (f_ngB (f_ngA M))) i))) i (((m_ou (mix9 (f_ngC (f_ngB (f_ngA M))) (l_lo (f_ngC (f_ngB (f_ngA M))) i))) i) + 1))) i false ((MOK_lo (M := f_ngC (f_ngB (f_ngA M))) (MOK_ngA hM0) i)) _) (cwV 2 hts gX3_pass_X3_votes rfl rfl rfl ⟨rfl, hd_X3_votes⟩ ⟨Nat.le_of_ble_eq_true rfl, Nat.le_of_ble_eq_true rfl⟩) (pwV (ci := 3) (q0 := 0) (C := RX3) hw hK rfl rfl rfl (rpS (AV := [.ref q, .int (nI i), .int 0]) hw hK hG rp_73)) rfl rfl hl.1 rfl (lv_room (Nat.le_of_ble_eq_true rfl)) dX3_pass_321 ⟨(show 21 + 21 * i + 0 ≤ 126 by omega), (show 420 + 420 * i + 0 ≤ 2520 by omega)⟩) hw hA rp_73 (fun H locs hw => ?_)
                      refine lv_icmp_gt (tgt := 330) hx hb dX3_pass_324 (by decide) (fun c_8 => ?_) (fun c_8 => ?_)
                      · refine lv_aload_n hx hb dX3_pass_330 rfl (lv_at hl 0 rfl) ?_
                        refine k_get (ci := 3) (v := .ref (P9.1 1)) (C := RX3) (T := TX3) (N := 7) hx hb hown hK hw hts hinX3 0 rfl rfl 3 (by decide) hf9 rfl dX3_pass_331 ?_
                        refine lv_iload_n hx hb dX3_pass_334 rfl (lv_at hl 2 rfl) ?_
                        refine k_qld (i := i) (y := P9.2.1 i) (n := m_ns M) hx hb hK hw 1 rfl (show i < m_ns M from by omega) (show m_ns M < 2 ^ 31 by omega) rfl dX3_pass_335 ?_
                        refine lv_iconst (v := 1) hx hb dX3_pass_336 (by decide) ?_
                        refine lv_iconst (v := 2) hx hb dX3_pass_337 (by decide) ?_
                        refine k_istP (i := 1) (ws' := wS E q P9 (q_st (q_ou (mix9 (f_ngC (f_ngB (f_ngA M))) (l_lo (f_ngC (f_ngB (f_ngA M))) i)) (upd (m_ou (mix9 (f_ngC (f_ngB (f_ngA M))) (l_lo (f_ngC (f_ngB (f_ngA M))) i))) i (((m_ou (mix9 (f_ngC (f_ngB (f_ngA M))) (l_lo (f_ngC (f_ngB (f_ngA M))) i))) i) + 1))) (upd (m_st (mix9 (f_ngC (f_ngB (f_ngA M))) (l_lo (f_ngC (f_ngB (f_ngA M))) i))) i 2))) hx hb hK hw (Pk_st 2 (i := i) (show i < m_ns M from by omega)) (by decide) (by decide) dX3_pass_338 (fun H locs hw => ?_)
                        refine lv_aload_n hx hb dX3_pass_339 rfl (lv_at hl 0 rfl) ?_
                        refine lv_iload_n hx hb dX3_pass_340 rfl (lv_at hl 2 rfl) ?_
                        have hn341 : Rn (wS E q P9 (q_st (q_ou (mix9 (f_ngC (f_ngB (f_ngA M))) (l_lo (f_ngC (f_ngB (f_ngA M))) i)) (upd (m_ou (mix9 (f_ngC (f_ngB (f_ngA M))) (l_lo (f_ngC (f_ngB (f_ngA M))) i))) i (((m_ou (mix9 (f_ngC (f_ngB (f_ngA M))) (l_lo (f_ngC (f_ngB (f_ngA M))) i))) i) + 1))) (upd (m_st (mix9 (f_ngC (f_ngB (f_ngA M))) (l_lo (f_ngC (f_ngB (f_ngA M))) i))) i 2))) (wS E q P9 (q_st (q_ou (mix9 (f_ngC (f_ngB (f_ngA M))) (l_lo (f_ngC (f_ngB (f_ngA M))) i)) (upd (m_ou (mix9 (f_ngC (f_ngB (f_ngA M))) (l_lo (f_ngC (f_ngB (f_ngA M))) i))) i (((m_ou (mix9 (f_ngC (f_ngB (f_ngA M))) (l_lo (f_ngC (f_ngB (f_ngA M))) i))) i) + 1))) (upd (m_st (mix9 (f_ngC (f_ngB (f_ngA M))) (l_lo (f_ngC (f_ngB (f_ngA M))) i))) i 2))) (([] : va_W)) := perm9 (fun a => by simp only [cnt9_app, cnt9_cons, cnt9_nil] <;> omega)
                        refine kr_new (va_runV (As := [.int (nI i)]) (rest := []) ⟨hx, hb, hml, hown, hts⟩ (c_X3_ends l E q P9 (q_st (q_ou (mix9 (f_ngC (f_ngB (f_ngA M))) (l_lo (f_ngC (f_ngB (f_ngA M))) i)) (upd (m_ou (mix9 (f_ngC (f_ngB (f_ngA M))) (l_lo (f_ngC (f_ngB (f_ngA M))) i))) i (((m_ou (mix9 (f_ngC (f_ngB (f_ngA M))) (l_lo (f_ngC (f_ngB (f_ngA M))) i))) i) + 1))) (upd (m_st (mix9 (f_ngC (f_ngB (f_ngA M))) (l_lo (f_ngC (f_ngB (f_ngA M))) i))) i 2)) i ((MOK_lo (M := f_ngC (f_ngB (f_ngA M))) (MOK_ngA hM0) i)) (by omega) _) (cwV 1 hts gX3_pass_X3_ends rfl rfl rfl ⟨rfl, hd_X3_ends⟩ ⟨Nat.le_of_ble_eq_true rfl, Nat.le_of_ble_eq_true rfl⟩) (pwV (ci := 3) (q0 := 0) (C := RX3) hw hK rfl rfl rfl (rpS (AV := [.ref q, .int (nI i)]) hw hK hG hn341.rp)) rfl rfl hl.1 rfl (lv_room (Nat.le_of_ble_eq_true rfl)) dX3_pass_341 ⟨(show 21 + 21 * i + 21 ≤ 126 by omega), (show 420 + 420 * i + 420 ≤ 2520 by omega)⟩) hw hA hn341 (fun u_9 H locs _ hw => ?_)
                        have hw : Wd E A9 s9.heap (wS E q u_9 (f_ends (q_st (q_ou (mix9 (f_ngC (f_ngB (f_ngA M))) (l_lo (f_ngC (f_ngB (f_ngA M))) i)) (upd (m_ou (mix9 (f_ngC (f_ngB (f_ngA M))) (l_lo (f_ngC (f_ngB (f_ngA M))) i))) i (((m_ou (mix9 (f_ngC (f_ngB (f_ngA M))) (l_lo (f_ngC (f_ngB (f_ngA M))) i))) i) + 1))) (upd (m_st (mix9 (f_ngC (f_ngB (f_ngA M))) (l_lo (f_ngC (f_ngB (f_ngA M))) i))) i 2)) i)) H _ := Wd.perm hw (perm9 (fun a => by simp only [cnt9_app, cnt9_cons, cnt9_nil] <;> omega))
                        refine lv_iinc (v := nI (i + 1)) (lv' := [(2, .int (nI (i + 1))), (0, .ref q), (1, .int (f_spN M))]) hx hb dX3_pass_344 hl (k := 2) rfl (nI_add i 1) (by decide) rfl (fun ls hl => ?_)
                        refine lv_goto (tgt := 261) hx hb dX3_pass_347 (by decide) ?_
                        refine W.widen (k := 21 + 21 * (i + 1)) (n := 420 + 420 * (i + 1)) (show 21 + 21 * i + 21 ≤ 21 + 21 * (i + 1) by omega) (show 420 + 420 * i + 420 ≤ 420 + 420 * (i + 1) by omega) ?_
                        exact ih_261 (i + 1) _ _ _ _ (by omega) (hw.to (by subst hz_4 hz_3 hz_1; first | exact wS_eq ((lo1_a c_8).trans (mix_lo (M := f_ngC (f_ngB (f_ngA M))) (MOK_ngA hM0) i).symm) | exact wS_eq ((lo1_b c_7 c_8).trans (mix_lo (M := f_ngC (f_ngB (f_ngA M))) (MOK_ngA hM0) i).symm) | exact wS_eq ((lo1_c c_6 c_7 c_8).trans (mix_lo (M := f_ngC (f_ngB (f_ngA M))) (MOK_ngA hM0) i).symm) | exact wS_eq ((lo1_d c_6 c_7 c_8).trans (mix_lo (M := f_ngC (f_ngB (f_ngA M))) (MOK_ngA hM0) i).symm))) (lv_sub hl [1, 2, 0] rfl)
                      · refine lv_goto (tgt := 344) hx hb dX3_pass_327 (by decide) ?_
                        refine lv_iinc (v := nI (i + 1)) (lv' := [(2, .int (nI (i + 1))), (0, .ref q), (1, .int (f_spN M))]) hx hb dX3_pass_344 hl (k := 2) rfl (nI_add i 1) (by decide) rfl (fun ls hl => ?_)
                        refine lv_goto (tgt := 261) hx hb dX3_pass_347 (by decide) ?_
                        refine W.widen (k := 21 + 21 * (i + 1)) (n := 420 + 420 * (i + 1)) (show 21 + 21 * i ≤ 21 + 21 * (i + 1) by omega) (show 420 + 420 * i ≤ 420 + 420 * (i + 1) by omega) ?_
                        exact ih_261 (i + 1) _ _ _ _ (by omega) (hw.to (by subst hz_4 hz_3 hz_1; first | exact wS_eq ((lo1_a c_8).trans (mix_lo (M := f_ngC (f_ngB (f_ngA M))) (MOK_ngA hM0) i).symm) | exact wS_eq ((lo1_b c_7 c_8).trans (mix_lo (M := f_ngC (f_ngB (f_ngA M))) (MOK_ngA hM0) i).symm) | exact wS_eq ((lo1_c c_6 c_7 c_8).trans (mix_lo (M := f_ngC (f_ngB (f_ngA M))) (MOK_ngA hM0) i).symm) | exact wS_eq ((lo1_d c_6 c_7 c_8).trans (mix_lo (M := f_ngC (f_ngB (f_ngA M))) (MOK_ngA hM0) i).symm))) (lv_sub hl [1, 2, 0] rfl)
                  · refine lv_goto (tgt := 344) hx hb dX3_pass_282 (by decide) ?_
                    refine lv_iinc (v := nI (i + 1)) (lv' := [(2, .int (nI (i + 1))), (0, .ref q), (1, .int (f_spN M))]) hx hb dX3_pass_344 hl (k := 2) rfl (nI_add i 1) (by decide) rfl (fun ls hl => ?_)
                    refine lv_goto (tgt := 261) hx hb dX3_pass_347 (by decide) ?_
                    refine W.widen (k := 21 + 21 * (i + 1)) (n := 420 + 420 * (i + 1)) (show 21 + 21 * i ≤ 21 + 21 * (i + 1) by omega) (show 420 + 420 * i ≤ 420 + 420 * (i + 1) by omega) ?_
                    exact ih_261 (i + 1) _ _ _ _ (by omega) (hw.to (by subst hz_4 hz_3 hz_1; first | exact wS_eq ((lo1_a c_6).trans (mix_lo (M := f_ngC (f_ngB (f_ngA M))) (MOK_ngA hM0) i).symm) | exact wS_eq ((lo1_b CP c_6).trans (mix_lo (M := f_ngC (f_ngB (f_ngA M))) (MOK_ngA hM0) i).symm) | exact wS_eq ((lo1_c CQ CP c_6).trans (mix_lo (M := f_ngC (f_ngB (f_ngA M))) (MOK_ngA hM0) i).symm) | exact wS_eq ((lo1_d CQ CP c_6).trans (mix_lo (M := f_ngC (f_ngB (f_ngA M))) (MOK_ngA hM0) i).symm))) (lv_sub hl [1, 2, 0] rfl)
              exact L_261 ((m_ns M) - 0) 0 _ _ _ _ (by omega) hw (lv_sub hl [1, 2, 0] rfl)
            | succ k9 ih_160 =>
              intro i H locs ls hi hw hl
              have hi9 : i < m_np M := by omega
              refine lv_iload hx hb dX3_pass_160 (lv_at hl 4 rfl) ?_
              refine lv_iload_n hx hb dX3_pass_162 rfl (lv_at hl 3 rfl) ?_
              refine lv_icmp_ge (tgt := 259) hx hb dX3_pass_163 (by decide) (fun q8 => absurd q8 (nI_ge (a := i) (b := m_np M) (by omega) (by omega))) (fun _ => ?_)
              refine lv_aload_n hx hb dX3_pass_166 rfl (lv_at hl 2 rfl) ?_
              refine lv_iload hx hb dX3_pass_167 (lv_at hl 4 rfl) ?_
              refine k_qld (i := i) (y := u_2.2.2.1 i) (n := m_np M) hx hb hK hw 2 rfl (show i < m_np M from by omega) (show m_np M < 2 ^ 31 by omega) rfl dX3_pass_169 ?_
              refine lv_astore (lv' := [(5, .ref (u_2.2.2.1 i)), (0, .ref q), (1, .int ((l_cd (m_st M) (m_ru (f_ngB (f_ngA M))) (m_mt M) (m_so M) (m_ca M) (m_wa M) i).2.2)), (2, .ref (u_2.1 2)), (3, .int (nI (m_np M))), (4, .int (nI i))]) hx hb dX3_pass_170 hl (by decide) rfl (fun ls hl => ?_)
              refine lv_aload_n hx hb dX3_pass_172 rfl (lv_at hl 1 rfl) ?_
              refine k_get (ci := 3) (v := .ref (u_2.1 1)) (C := RX3) (T := TX3) (N := 7) hx hb hown hK hw hts hinX3 0 rfl rfl 3 (by decide) hf9 rfl dX3_pass_173 ?_
              refine lv_aload hx hb dX3_pass_176 (lv_at hl 0 rfl) ?_
              refine lv_iconst (v := 0) hx hb dX3_pass_178 (by decide) ?_
              refine k_ildP (i := 0) (v := nI ((m_so M) i)) hx hb hK hw (Pk_5 (i := i) (show i < m_np M from by omega)) (by decide) (by decide) rfl dX3_pass_179 ?_
              refine k_qld (i := (m_so M) i) (y := u_2.2.1 ((m_so M) i)) (n := m_ns M) hx hb hK hw 1 rfl (show (m_so M) i < m_ns M from by have := hso i (by omega); omega) (show m_ns M < 2 ^ 31 by omega) rfl dX3_pass_180 ?_
              refine lv_astore (lv' := [(6, .ref (u_2.2.1 ((m_so M) i))), (5, .ref (u_2.2.2.1 i)), (0, .ref q), (1, .int ((l_cd (m_st M) (m_ru (f_ngB (f_ngA M))) (m_mt M) (m_so M) (m_ca M) (m_wa M) i).2.2)), (2, .ref (u_2.1 2)), (3, .int (nI (m_np M))), (4, .int (nI i))]) hx hb dX3_pass_181 hl (by decide) rfl (fun ls hl => ?_)
              refine lv_aload hx hb dX3_pass_183 (lv_at hl 0 rfl) ?_
              refine lv_iconst (v := 1) hx hb dX3_pass_185 (by decide) ?_
              refine k_ildP (i := 1) (v := (m_st M) ((m_so M) i)) hx hb hK hw (Pk_4 (i := (m_so M) i) (show (m_so M) i < m_ns M from by have := hso i (by omega); omega)) (by decide) (by decide) rfl dX3_pass_186 ?_
              refine lv_iconst (v := 1) hx hb dX3_pass_187 (by decide) ?_
              refine lv_icmp_ne (tgt := 253) hx hb dX3_pass_188 (by decide) (fun c_10 => ?_) (fun c_10 => ?_)
              · refine lv_iinc (v := nI (i + 1)) (lv' := [(4, .int (nI (i + 1))), (6, .ref (u_2.2.1 ((m_so M) i))), (5, .ref (u_2.2.2.1 i)), (0, .ref q), (1, .int ((l_cd (m_st M) (m_ru (f_ngB (f_ngA M))) (m_mt M) (m_so M) (m_ca M) (m_wa M) i).2.2)), (2, .ref (u_2.1 2)), (3, .int (nI (m_np M)))]) hx hb dX3_pass_253 hl (k := 6) rfl (nI_add i 1) (by decide) rfl (fun ls hl => ?_)
                refine lv_goto (tgt := 160) hx hb dX3_pass_256 (by decide) ?_
                exact ih_160 (i + 1) _ _ _ (by omega) (hw.to (by subst hz_3 hz_1; first | assumption | (simp only [l_ag, l_ub, l_cd, f_cd, f_lB, if_neg c_10, if_true, if_false, Bool.false_eq_true, Bool.true_eq_false, reduceIte, reduceCtorEq]; done) | (simp only [l_ag, l_ub, l_cd, f_cd, f_lB, if_neg c_10, if_true, if_false, Bool.false_eq_true, Bool.true_eq_false, reduceIte, reduceCtorEq]; rfl) | rfl | (simp [l_ag, l_ub, l_cd, f_cd, f_lB, if_neg c_10, if_true, if_false, Bool.false_eq_true, Bool.true_eq_false, reduceIte, reduceCtorEq]; done) | (simp [bI, l_ag, l_ub, l_cd, f_cd, f_lB, c_10]; done))) (by rw [show (.int ((l_cd (m_st M) (m_ru (f_ngB (f_ngA M))) (m_mt M) (m_so M) (m_ca M) (m_wa M) (i + 1)).2.2) : Value) = .int ((l_cd (m_st M) (m_ru (f_ngB (f_ngA M))) (m_mt M) (m_so M) (m_ca M) (m_wa M) i).2.2) from (by subst hz_3 hz_1; first | assumption | (simp only [l_ag, l_ub, l_cd, f_cd, f_lB, if_neg c_10, if_true, if_false, Bool.false_eq_true, Bool.true_eq_false, reduceIte, reduceCtorEq]; done) | (simp only [l_ag, l_ub, l_cd, f_cd, f_lB, if_neg c_10, if_true, if_false, Bool.false_eq_true, Bool.true_eq_false, reduceIte, reduceCtorEq]; rfl) | rfl | (simp [l_ag, l_ub, l_cd, f_cd, f_lB, if_neg c_10, if_true, if_false, Bool.false_eq_true, Bool.true_eq_false, reduceIte, reduceCtorEq]; done) | (simp [bI, l_ag, l_ub, l_cd, f_cd, f_lB, c_10]; done))]; exact lv_sub hl [3, 4, 5, 6, 0] rfl)
              · refine lv_aload hx hb dX3_pass_191 (lv_at hl 0 rfl) ?_
                refine lv_iconst (v := 3) hx hb dX3_pass_193 (by decide) ?_
                refine k_ildP (i := 3) (v := (m_ru (f_ngB (f_ngA M))) ((m_so M) i)) hx hb hK hw (Pk_4 (i := (m_so M) i) (show (m_so M) i < m_ns M from by have := hso i (by omega); omega)) (by decide) (by decide) rfl dX3_pass_194 ?_
                refine lv_iconst (v := 1) hx hb dX3_pass_195 (by decide) ?_
                refine lv_icmp_ne (tgt := 202) hx hb dX3_pass_196 (by decide) (fun c_11 => ?_) (fun c_11 => ?_)
                · refine lv_aload hx hb dX3_pass_202 (lv_at hl 1 rfl) ?_
                  refine lv_iconst (v := 4) hx hb dX3_pass_204 (by decide) ?_
                  refine lv_aload hx hb dX3_pass_205 (lv_at hl 1 rfl) ?_
                  refine lv_iconst (v := 4) hx hb dX3_pass_207 (by decide) ?_
                  refine k_ildP (i := 4) (v := ((l_cd (m_st M) (m_ru (f_ngB (f_ngA M))) (m_mt M) (m_so M) (m_ca M) (m_wa M) i).1) i) hx hb hK hw (Pk_5 (i := i) (show i < m_np M from by omega)) (by decide) (by decide) rfl dX3_pass_208 ?_
                  refine lv_aload hx hb dX3_pass_209 (lv_at hl 1 rfl) ?_
                  refine lv_iconst (v := 1) hx hb dX3_pass_211 (by decide) ?_
                  refine k_ildP (i := 1) (v := (m_mt M) i) hx hb hK hw (Pk_5 (i := i) (show i < m_np M from by omega)) (by decide) (by decide) rfl dX3_pass_212 ?_
                  refine lv_iconst (v := 1) hx hb dX3_pass_213 (by decide) ?_
                  refine lv_iadd hx hb dX3_pass_214 ?_
                  refine lv_icmp_le (tgt := 232) hx hb dX3_pass_215 (by decide) (fun c_12 => ?_) (fun c_12 => ?_)
                  · refine lv_iconst (v := 0) hx hb dX3_pass_232 (by decide) ?_
                    refine k_istP (i := 4) (ws' := wS E q u_2 (q_ca (q_wa (q_ca (f_ngB (f_ngA M)) (l_cd (m_st M) (m_ru (f_ngB (f_ngA M))) (m_mt M) (m_so M) (m_ca M) (m_wa M) i).1) (l_cd (m_st M) (m_ru (f_ngB (f_ngA M))) (m_mt M) (m_so M) (m_ca M) (m_wa M) i).2.1) (upd ((l_cd (m_st M) (m_ru (f_ngB (f_ngA M))) (m_mt M) (m_so M) (m_ca M) (m_wa M) i).1) i 0))) hx hb hK hw (Pk_ca 0 (i := i) (show i < m_np M from by omega)) (by decide) (by decide) dX3_pass_233 (fun H locs hw => ?_)
                    refine lv_aload hx hb dX3_pass_234 (lv_at hl 1 rfl) ?_
                    refine lv_iconst (v := 4) hx hb dX3_pass_236 (by decide) ?_
                    refine k_ildP (i := 4) (v := 0) hx hb hK hw (Pk_5 (i := i) (show i < m_np M from by omega)) (by decide) (by decide) pk_us dX3_pass_237 ?_
                    refine lv_if_ne (tgt := 253) hx hb dX3_pass_238 (by decide) (fun q8 => absurd (by decide) q8) (fun _ => ?_)
                    refine lv_aload_n hx hb dX3_pass_241 rfl (lv_at hl 2 rfl) ?_
                    refine lv_aload hx hb dX3_pass_242 (lv_at hl 1 rfl) ?_
                    refine kr_i (ws' := wS E q u_2 (q_wa (q_ca (q_ca (q_wa (q_ca (f_ngB (f_ngA M)) (l_cd (m_st M) (m_ru (f_ngB (f_ngA M))) (m_mt M) (m_so M) (m_ca M) (m_wa M) i).1) (l_cd (m_st M) (m_ru (f_ngB (f_ngA M))) (m_mt M) (m_so M) (m_ca M) (m_wa M) i).2.1) (upd ((l_cd (m_st M) (m_ru (f_ngB (f_ngA M))) (m_mt M) (m_so M) (m_ca M) (m_wa M) i).1) i 0)) (f_lca ((upd ((l_cd (m_st M) (m_ru (f_ngB (f_ngA M))) (m_mt M) (m_so M) (m_ca M) (m_wa M) i).1) i 0)) (((l_cd (m_st M) (m_ru (f_ngB (f_ngA M))) (m_mt M) (m_so M) (m_ca M) (m_wa M) i).2.1)) i)) (f_lwa (((l_cd (m_st M) (m_ru (f_ngB (f_ngA M))) (m_mt M) (m_so M) (m_ca M) (m_wa M) i).2.1))))) (va_runV (As := [.ref (u_2.2.2.1 i)]) (rest := []) ⟨hx, hb, hml, hown, hts⟩ (c_X3_light l E q u_2 (q_ca (q_wa (q_ca (f_ngB (f_ngA M)) (l_cd (m_st M) (m_ru (f_ngB (f_ngA M))) (m_mt M) (m_so M) (m_ca M) (m_wa M) i).1) (l_cd (m_st M) (m_ru (f_ngB (f_ngA M))) (m_mt M) (m_so M) (m_ca M) (m_wa M) i).2.1) (upd ((l_cd (m_st M) (m_ru (f_ngB (f_ngA M))) (m_mt M) (m_so M) (m_ca M) (m_wa M) i).1) i 0)) i ((MOK_ngA hM0)) (by have := hso (m_ca M) (by omega); omega) _) (cwV 1 hts gX3_pass_X3_light rfl rfl rfl ⟨rfl, hd_X3_light⟩ ⟨Nat.le_of_ble_eq_true rfl, Nat.le_of_ble_eq_true rfl⟩) (pwV (ci := 3) (q0 := 0) (C := RX3) hw hK rfl rfl rfl (rpS (AV := [.ref q, .ref (u_2.2.2.1 i)]) hw hK hG rp_73)) rfl rfl hl.1 rfl (lv_room (Nat.le_of_ble_eq_true rfl)) dX3_pass_244 ⟨Nat.le_of_ble_eq_true rfl, Nat.le_of_ble_eq_true rfl⟩) hw hA rp_74 (fun H locs hw => ?_)
                    refine lv_if_eq (tgt := 253) hx hb dX3_pass_247 (by decide) (fun c_13 => ?_) (fun c_13 => ?_)
                    · have c_13 := bI_z c_13
                      refine lv_iinc (v := nI (i + 1)) (lv' := [(4, .int (nI (i + 1))), (6, .ref (u_2.2.1 ((m_so M) i))), (5, .ref (u_2.2.2.1 i)), (0, .ref q), (1, .int ((l_cd (m_st M) (m_ru (f_ngB (f_ngA M))) (m_mt M) (m_so M) (m_ca M) (m_wa M) i).2.2)), (2, .ref (u_2.1 2)), (3, .int (nI (m_np M)))]) hx hb dX3_pass_253 hl (k := 6) rfl (nI_add i 1) (by decide) rfl (fun ls hl => ?_)
                      refine lv_goto (tgt := 160) hx hb dX3_pass_256 (by decide) ?_
                      exact ih_160 (i + 1) _ _ _ (by omega) (hw.to (by subst hz_3 hz_1; first | assumption | (simp only [l_ag, l_ub, l_cd, f_cd, f_lB, if_pos c_10, if_neg c_11, if_pos c_12, c_13, if_true, if_false, Bool.false_eq_true, Bool.true_eq_false, reduceIte, reduceCtorEq]; done) | (simp only [l_ag, l_ub, l_cd, f_cd, f_lB, if_pos c_10, if_neg c_11, if_pos c_12, c_13, if_true, if_false, Bool.false_eq_true, Bool.true_eq_false, reduceIte, reduceCtorEq]; rfl) | rfl | (simp [l_ag, l_ub, l_cd, f_cd, f_lB, if_pos c_10, if_neg c_11, if_pos c_12, c_13, if_true, if_false, Bool.false_eq_true, Bool.true_eq_false, reduceIte, reduceCtorEq]; done) | (simp [bI, l_ag, l_ub, l_cd, f_cd, f_lB, c_10, c_11, c_12, c_13]; done))) (by rw [show (.int ((l_cd (m_st M) (m_ru (f_ngB (f_ngA M))) (m_mt M) (m_so M) (m_ca M) (m_wa M) (i + 1)).2.2) : Value) = .int ((l_cd (m_st M) (m_ru (f_ngB (f_ngA M))) (m_mt M) (m_so M) (m_ca M) (m_wa M) i).2.2) from (by subst hz_3 hz_1; first | assumption | (simp only [l_ag, l_ub, l_cd, f_cd, f_lB, if_pos c_10, if_neg c_11, if_pos c_12, c_13, if_true, if_false, Bool.false_eq_true, Bool.true_eq_false, reduceIte, reduceCtorEq]; done) | (simp only [l_ag, l_ub, l_cd, f_cd, f_lB, if_pos c_10, if_neg c_11, if_pos c_12, c_13, if_true, if_false, Bool.false_eq_true, Bool.true_eq_false, reduceIte, reduceCtorEq]; rfl) | rfl | (simp [l_ag, l_ub, l_cd, f_cd, f_lB, if_pos c_10, if_neg c_11, if_pos c_12, c_13, if_true, if_false, Bool.false_eq_true, Bool.true_eq_false, reduceIte, reduceCtorEq]; done) | (simp [bI, l_ag, l_ub, l_cd, f_cd, f_lB, c_10, c_11, c_12, c_13]; done))]; exact lv_sub hl [3, 4, 5, 6, 0] rfl)
                    · have c_13 := bI_nz c_13
                      refine lv_iinc (v := ((l_cd (m_st M) (m_ru (f_ngB (f_ngA M))) (m_mt M) (m_so M) (m_ca M) (m_wa M) i).2.2) + 1) (lv' := [(1, .int (((l_cd (m_st M) (m_ru (f_ngB (f_ngA M))) (m_mt M) (m_so M) (m_ca M) (m_wa M) i).2.2) + 1)), (6, .ref (u_2.2.1 ((m_so M) i))), (5, .ref (u_2.2.2.1 i)), (0, .ref q), (2, .ref (u_2.1 2)), (3, .int (nI (m_np M))), (4, .int (nI i))]) hx hb dX3_pass_250 hl (k := 3) rfl rfl (by decide) rfl (fun ls hl => ?_)
                      refine lv_iinc (v := nI (i + 1)) (lv' := [(4, .int (nI (i + 1))), (1, .int (((l_cd (m_st M) (m_ru (f_ngB (f_ngA M))) (m_mt M) (m_so M) (m_ca M) (m_wa M) i).2.2) + 1)), (6, .ref (u_2.2.1 ((m_so M) i))), (5, .ref (u_2.2.2.1 i)), (0, .ref q), (2, .ref (u_2.1 2)), (3, .int (nI (m_np M)))]) hx hb dX3_pass_253 hl (k := 6) rfl (nI_add i 1) (by decide) rfl (fun ls hl => ?_)
                      refine lv_goto (tgt := 160) hx hb dX3_pass_256 (by decide) ?_
                      exact ih_160 (i + 1) _ _ _ (by omega) (hw.to (by subst hz_3 hz_1; first | assumption | (simp only [l_ag, l_ub, l_cd, f_cd, f_lB, if_pos c_10, if_neg c_11, if_pos c_12, c_13, if_true, if_false, Bool.false_eq_true, Bool.true_eq_false, reduceIte, reduceCtorEq]; done) | (simp only [l_ag, l_ub, l_cd, f_cd, f_lB, if_pos c_10, if_neg c_11, if_pos c_12, c_13, if_true, if_false, Bool.false_eq_true, Bool.true_eq_false, reduceIte, reduceCtorEq]; rfl) | rfl | (simp [l_ag, l_ub, l_cd, f_cd, f_lB, if_pos c_10, if_neg c_11, if_pos c_12, c_13, if_true, if_false, Bool.false_eq_true, Bool.true_eq_false, reduceIte, reduceCtorEq]; done) | (simp [bI, l_ag, l_ub, l_cd, f_cd, f_lB, c_10, c_11, c_12, c_13]; done))) (by rw [show (.int ((l_cd (m_st M) (m_ru (f_ngB (f_ngA M))) (m_mt M) (m_so M) (m_ca M) (m_wa M) (i + 1)).2.2) : Value) = .int (((l_cd (m_st M) (m_ru (f_ngB (f_ngA M))) (m_mt M) (m_so M) (m_ca M) (m_wa M) i).2.2) + 1) from (by subst hz_3 hz_1; first | assumption | (simp only [l_ag, l_ub, l_cd, f_cd, f_lB, if_pos c_10, if_neg c_11, if_pos c_12, c_13, if_true, if_false, Bool.false_eq_true, Bool.true_eq_false, reduceIte, reduceCtorEq]; done) | (simp only [l_ag, l_ub, l_cd, f_cd, f_lB, if_pos c_10, if_neg c_11, if_pos c_12, c_13, if_true, if_false, Bool.false_eq_true, Bool.true_eq_false, reduceIte, reduceCtorEq]; rfl) | rfl | (simp [l_ag, l_ub, l_cd, f_cd, f_lB, if_pos c_10, if_neg c_11, if_pos c_12, c_13, if_true, if_false, Bool.false_eq_true, Bool.true_eq_false, reduceIte, reduceCtorEq]; done) | (simp [bI, l_ag, l_ub, l_cd, f_cd, f_lB, c_10, c_11, c_12, c_13]; done))]; exact lv_sub hl [4, 1, 5, 6, 0] rfl)
                  · refine lv_aload hx hb dX3_pass_218 (lv_at hl 1 rfl) ?_
                    refine lv_iconst (v := 4) hx hb dX3_pass_220 (by decide) ?_
                    refine k_ildP (i := 4) (v := ((l_cd (m_st M) (m_ru (f_ngB (f_ngA M))) (m_mt M) (m_so M) (m_ca M) (m_wa M) i).1) i) hx hb hK hw (Pk_5 (i := i) (show i < m_np M from by omega)) (by decide) (by decide) rfl dX3_pass_221 ?_
                    refine lv_aload hx hb dX3_pass_222 (lv_at hl 1 rfl) ?_
                    refine lv_iconst (v := 1) hx hb dX3_pass_224 (by decide) ?_
                    refine k_ildP (i := 1) (v := (m_mt M) i) hx hb hK hw (Pk_5 (i := i) (show i < m_np M from by omega)) (by decide) (by decide) rfl dX3_pass_225 ?_
                    refine lv_isub hx hb dX3_pass_226 ?_
                    refine lv_iconst (v := 1) hx hb dX3_pass_227 (by decide) ?_
                    refine lv_isub hx hb dX3_pass_228 ?_
                    refine lv_goto (tgt := 233) hx hb dX3_pass_229 (by decide) ?_
                    refine k_istP (i := 4) (ws' := wS E q u_2 (q_ca (q_wa (q_ca (f_ngB (f_ngA M)) (l_cd (m_st M) (m_ru (f_ngB (f_ngA M))) (m_mt M) (m_so M) (m_ca M) (m_wa M) i).1) (l_cd (m_st M) (m_ru (f_ngB (f_ngA M))) (m_mt M) (m_so M) (m_ca M) (m_wa M) i).2.1) (upd ((l_cd (m_st M) (m_ru (f_ngB (f_ngA M))) (m_mt M) (m_so M) (m_ca M) (m_wa M) i).1) i (((((l_cd (m_st M) (m_ru (f_ngB (f_ngA M))) (m_mt M) (m_so M) (m_ca M) (m_wa M) i).1) i) - ((m_mt M) i)) - 1)))) hx hb hK hw (Pk_ca (((((l_cd (m_st M) (m_ru (f_ngB (f_ngA M))) (m_mt M) (m_so M) (m_ca M) (m_wa M) i).1) i) - ((m_mt M) i)) - 1) (i := i) (show i < m_np M from by omega)) (by decide) (by decide) dX3_pass_233 (fun H locs hw => ?_)
                    refine lv_aload hx hb dX3_pass_234 (lv_at hl 1 rfl) ?_
                    refine lv_iconst (v := 4) hx hb dX3_pass_236 (by decide) ?_
                    refine k_ildP (i := 4) (v := ((((l_cd (m_st M) (m_ru (f_ngB (f_ngA M))) (m_mt M) (m_so M) (m_ca M) (m_wa M) i).1) i) - ((m_mt M) i)) - 1) hx hb hK hw (Pk_5 (i := i) (show i < m_np M from by omega)) (by decide) (by decide) pk_us dX3_pass_237 ?_
                    refine lv_if_ne (tgt := 253) hx hb dX3_pass_238 (by decide) (fun c_14 => ?_) (fun c_14 => ?_)
                    · refine lv_iinc (v := nI (i + 1)) (lv' := [(4, .int (nI (i + 1))), (6, .ref (u_2.2.1 ((m_so M) i))), (5, .ref (u_2.2.2.1 i)), (0, .ref q), (1, .int ((l_cd (m_st M) (m_ru (f_ngB (f_ngA M))) (m_mt M) (m_so M) (m_ca M) (m_wa M) i).2.2)), (2, .ref (u_2.1 2)), (3, .int (nI (m_np M)))]) hx hb dX3_pass_253 hl (k := 6) rfl (nI_add i 1) (by decide) rfl (fun ls hl => ?_)
                      refine lv_goto (tgt := 160) hx hb dX3_pass_256 (by decide) ?_
                      exact ih_160 (i + 1) _ _ _ (by omega) (hw.to (by subst hz_3 hz_1; first | assumption | (simp only [l_ag, l_ub, l_cd, f_cd, f_lB, if_pos c_10, if_neg c_11, if_neg c_12, if_neg c_14, if_true, if_false, Bool.false_eq_true, Bool.true_eq_false, reduceIte, reduceCtorEq]; done) | (simp only [l_ag, l_ub, l_cd, f_cd, f_lB, if_pos c_10, if_neg c_11, if_neg c_12, if_neg c_14, if_true, if_false, Bool.false_eq_true, Bool.true_eq_false, reduceIte, reduceCtorEq]; rfl) | rfl | (simp [l_ag, l_ub, l_cd, f_cd, f_lB, if_pos c_10, if_neg c_11, if_neg c_12, if_neg c_14, if_true, if_false, Bool.false_eq_true, Bool.true_eq_false, reduceIte, reduceCtorEq]; done) | (simp [bI, l_ag, l_ub, l_cd, f_cd, f_lB, c_10, c_11, c_12, c_14]; done))) (by rw [show (.int ((l_cd (m_st M) (m_ru (f_ngB (f_ngA M))) (m_mt M) (m_so M) (m_ca M) (m_wa M) (i + 1)).2.2) : Value) = .int ((l_cd (m_st M) (m_ru (f_ngB (f_ngA M))) (m_mt M) (m_so M) (m_ca M) (m_wa M) i).2.2) from (by subst hz_3 hz_1; first | assumption | (simp only [l_ag, l_ub, l_cd, f_cd, f_lB, if_pos c_10, if_neg c_11, if_neg c_12, if_neg c_14, if_true, if_false, Bool.false_eq_true, Bool.true_eq_false, reduceIte, reduceCtorEq]; done) | (simp only [l_ag, l_ub, l_cd, f_cd, f_lB, if_pos c_10, if_neg c_11, if_neg c_12, if_neg c_14, if_true, if_false, Bool.false_eq_true, Bool.true_eq_false, reduceIte, reduceCtorEq]; rfl) | rfl | (simp [l_ag, l_ub, l_cd, f_cd, f_lB, if_pos c_10, if_neg c_11, if_neg c_12, if_neg c_14, if_true, if_false, Bool.false_eq_true, Bool.true_eq_false, reduceIte, reduceCtorEq]; done) | (simp [bI, l_ag, l_ub, l_cd, f_cd, f_lB, c_10, c_11, c_12, c_14]; done))]; exact lv_sub hl [3, 4, 5, 6, 0] rfl)
                    · refine lv_aload_n hx hb dX3_pass_241 rfl (lv_at hl 2 rfl) ?_
                      refine lv_aload hx hb dX3_pass_242 (lv_at hl 1 rfl) ?_
                      refine kr_i (ws' := wS E q u_2 (q_wa (q_ca (q_ca (q_wa (q_ca (f_ngB (f_ngA M)) (l_cd (m_st M) (m_ru (f_ngB (f_ngA M))) (m_mt M) (m_so M) (m_ca M) (m_wa M) i).1) (l_cd (m_st M) (m_ru (f_ngB (f_ngA M))) (m_mt M) (m_so M) (m_ca M) (m_wa M) i).2.1) (upd ((l_cd (m_st M) (m_ru (f_ngB (f_ngA M))) (m_mt M) (m_so M) (m_ca M) (m_wa M) i).1) i (((((l_cd (m_st M) (m_ru (f_ngB (f_ngA M))) (m_mt M) (m_so M) (m_ca M) (m_wa M) i).1) i) - ((m_mt M) i)) - 1))) (f_lca ((upd ((l_cd (m_st M) (m_ru (f_ngB (f_ngA M))) (m_mt M) (m_so M) (m_ca M) (m_wa M) i).1) i (((((l_cd (m_st M) (m_ru (f_ngB (f_ngA M))) (m_mt M) (m_so M) (m_ca M) (m_wa M) i).1) i) - ((m_mt M) i)) - 1))) (((l_cd (m_st M) (m_ru (f_ngB (f_ngA M))) (m_mt M) (m_so M) (m_ca M) (m_wa M) i).2.1)) i)) (f_lwa (((l_cd (m_st M) (m_ru (f_ngB (f_ngA M))) (m_mt M) (m_so M) (m_ca M) (m_wa M) i).2.1))))) (va_runV (As := [.ref (u_2.2.2.1 i)]) (rest := []) ⟨hx, hb, hml, hown, hts⟩ (c_X3_light l E q u_2 (q_ca (q_wa (q_ca (f_ngB (f_ngA M)) (l_cd (m_st M) (m_ru (f_ngB (f_ngA M))) (m_mt M) (m_so M) (m_ca M) (m_wa M) i).1) (l_cd (m_st M) (m_ru (f_ngB (f_ngA M))) (m_mt M) (m_so M) (m_ca M) (m_wa M) i).2.1) (upd ((l_cd (m_st M) (m_ru (f_ngB (f_ngA M))) (m_mt M) (m_so M) (m_ca M) (m_wa M) i).1) i (((((l_cd (m_st M) (m_ru (f_ngB (f_ngA M))) (m_mt M) (m_so M) (m_ca M) (m_wa M) i).1) i) - ((m_mt M) i)) - 1))) i ((MOK_ngA hM0)) (by have := hso (m_ca M) (by omega); omega) _) (cwV 1 hts gX3_pass_X3_light rfl rfl rfl ⟨rfl, hd_X3_light⟩ ⟨Nat.le_of_ble_eq_true rfl, Nat.le_of_ble_eq_true rfl⟩) (pwV (ci := 3) (q0 := 0) (C := RX3) hw hK rfl rfl rfl (rpS (AV := [.ref q, .ref (u_2.2.2.1 i)]) hw hK hG rp_73)) rfl rfl hl.1 rfl (lv_room (Nat.le_of_ble_eq_true rfl)) dX3_pass_244 ⟨Nat.le_of_ble_eq_true rfl, Nat.le_of_ble_eq_true rfl⟩) hw hA rp_74 (fun H locs hw => ?_)
                      refine lv_if_eq (tgt := 253) hx hb dX3_pass_247 (by decide) (fun c_15 => ?_) (fun c_15 => ?_)
                      · have c_15 := bI_z c_15
                        refine lv_iinc (v := nI (i + 1)) (lv' := [(4, .int (nI (i + 1))), (6, .ref (u_2.2.1 ((m_so M) i))), (5, .ref (u_2.2.2.1 i)), (0, .ref q), (1, .int ((l_cd (m_st M) (m_ru (f_ngB (f_ngA M))) (m_mt M) (m_so M) (m_ca M) (m_wa M) i).2.2)), (2, .ref (u_2.1 2)), (3, .int (nI (m_np M)))]) hx hb dX3_pass_253 hl (k := 6) rfl (nI_add i 1) (by decide) rfl (fun ls hl => ?_)
                        refine lv_goto (tgt := 160) hx hb dX3_pass_256 (by decide) ?_
                        exact ih_160 (i + 1) _ _ _ (by omega) (hw.to (by subst hz_3 hz_1; first | assumption | (simp only [l_ag, l_ub, l_cd, f_cd, f_lB, if_pos c_10, if_neg c_11, if_neg c_12, if_pos c_14, c_15, if_true, if_false, Bool.false_eq_true, Bool.true_eq_false, reduceIte, reduceCtorEq]; done) | (simp only [l_ag, l_ub, l_cd, f_cd, f_lB, if_pos c_10, if_neg c_11, if_neg c_12, if_pos c_14, c_15, if_true, if_false, Bool.false_eq_true, Bool.true_eq_false, reduceIte, reduceCtorEq]; rfl) | rfl | (simp [l_ag, l_ub, l_cd, f_cd, f_lB, if_pos c_10, if_neg c_11, if_neg c_12, if_pos c_14, c_15, if_true, if_false, Bool.false_eq_true, Bool.true_eq_false, reduceIte, reduceCtorEq]; done) | (simp [bI, l_ag, l_ub, l_cd, f_cd, f_lB, c_10, c_11, c_12, c_14, c_15]; done))) (by rw [show (.int ((l_cd (m_st M) (m_ru (f_ngB (f_ngA M))) (m_mt M) (m_so M) (m_ca M) (m_wa M) (i + 1)).2.2) : Value) = .int ((l_cd (m_st M) (m_ru (f_ngB (f_ngA M))) (m_mt M) (m_so M) (m_ca M) (m_wa M) i).2.2) from (by subst hz_3 hz_1; first | assumption | (simp only [l_ag, l_ub, l_cd, f_cd, f_lB, if_pos c_10, if_neg c_11, if_neg c_12, if_pos c_14, c_15, if_true, if_false, Bool.false_eq_true, Bool.true_eq_false, reduceIte, reduceCtorEq]; done) | (simp only [l_ag, l_ub, l_cd, f_cd, f_lB, if_pos c_10, if_neg c_11, if_neg c_12, if_pos c_14, c_15, if_true, if_false, Bool.false_eq_true, Bool.true_eq_false, reduceIte, reduceCtorEq]; rfl) | rfl | (simp [l_ag, l_ub, l_cd, f_cd, f_lB, if_pos c_10, if_neg c_11, if_neg c_12, if_pos c_14, c_15, if_true, if_false, Bool.false_eq_true, Bool.true_eq_false, reduceIte, reduceCtorEq]; done) | (simp [bI, l_ag, l_ub, l_cd, f_cd, f_lB, c_10, c_11, c_12, c_14, c_15]; done))]; exact lv_sub hl [3, 4, 5, 6, 0] rfl)
                      · have c_15 := bI_nz c_15
                        refine lv_iinc (v := ((l_cd (m_st M) (m_ru (f_ngB (f_ngA M))) (m_mt M) (m_so M) (m_ca M) (m_wa M) i).2.2) + 1) (lv' := [(1, .int (((l_cd (m_st M) (m_ru (f_ngB (f_ngA M))) (m_mt M) (m_so M) (m_ca M) (m_wa M) i).2.2) + 1)), (6, .ref (u_2.2.1 ((m_so M) i))), (5, .ref (u_2.2.2.1 i)), (0, .ref q), (2, .ref (u_2.1 2)), (3, .int (nI (m_np M))), (4, .int (nI i))]) hx hb dX3_pass_250 hl (k := 3) rfl rfl (by decide) rfl (fun ls hl => ?_)
                        refine lv_iinc (v := nI (i + 1)) (lv' := [(4, .int (nI (i + 1))), (1, .int (((l_cd (m_st M) (m_ru (f_ngB (f_ngA M))) (m_mt M) (m_so M) (m_ca M) (m_wa M) i).2.2) + 1)), (6, .ref (u_2.2.1 ((m_so M) i))), (5, .ref (u_2.2.2.1 i)), (0, .ref q), (2, .ref (u_2.1 2)), (3, .int (nI (m_np M)))]) hx hb dX3_pass_253 hl (k := 6) rfl (nI_add i 1) (by decide) rfl (fun ls hl => ?_)
                        refine lv_goto (tgt := 160) hx hb dX3_pass_256 (by decide) ?_
                        exact ih_160 (i + 1) _ _ _ (by omega) (hw.to (by subst hz_3 hz_1; first | assumption | (simp only [l_ag, l_ub, l_cd, f_cd, f_lB, if_pos c_10, if_neg c_11, if_neg c_12, if_pos c_14, c_15, if_true, if_false, Bool.false_eq_true, Bool.true_eq_false, reduceIte, reduceCtorEq]; done) | (simp only [l_ag, l_ub, l_cd, f_cd, f_lB, if_pos c_10, if_neg c_11, if_neg c_12, if_pos c_14, c_15, if_true, if_false, Bool.false_eq_true, Bool.true_eq_false, reduceIte, reduceCtorEq]; rfl) | rfl | (simp [l_ag, l_ub, l_cd, f_cd, f_lB, if_pos c_10, if_neg c_11, if_neg c_12, if_pos c_14, c_15, if_true, if_false, Bool.false_eq_true, Bool.true_eq_false, reduceIte, reduceCtorEq]; done) | (simp [bI, l_ag, l_ub, l_cd, f_cd, f_lB, c_10, c_11, c_12, c_14, c_15]; done))) (by rw [show (.int ((l_cd (m_st M) (m_ru (f_ngB (f_ngA M))) (m_mt M) (m_so M) (m_ca M) (m_wa M) (i + 1)).2.2) : Value) = .int (((l_cd (m_st M) (m_ru (f_ngB (f_ngA M))) (m_mt M) (m_so M) (m_ca M) (m_wa M) i).2.2) + 1) from (by subst hz_3 hz_1; first | assumption | (simp only [l_ag, l_ub, l_cd, f_cd, f_lB, if_pos c_10, if_neg c_11, if_neg c_12, if_pos c_14, c_15, if_true, if_false, Bool.false_eq_true, Bool.true_eq_false, reduceIte, reduceCtorEq]; done) | (simp only [l_ag, l_ub, l_cd, f_cd, f_lB, if_pos c_10, if_neg c_11, if_neg c_12, if_pos c_14, c_15, if_true, if_false, Bool.false_eq_true, Bool.true_eq_false, reduceIte, reduceCtorEq]; rfl) | rfl | (simp [l_ag, l_ub, l_cd, f_cd, f_lB, if_pos c_10, if_neg c_11, if_neg c_12, if_pos c_14, c_15, if_true, if_false, Bool.false_eq_true, Bool.true_eq_false, reduceIte, reduceCtorEq]; done) | (simp [bI, l_ag, l_ub, l_cd, f_cd, f_lB, c_10, c_11, c_12, c_14, c_15]; done))]; exact lv_sub hl [4, 1, 5, 6, 0] rfl)
                · refine lv_goto (tgt := 253) hx hb dX3_pass_199 (by decide) ?_
                  refine lv_iinc (v := nI (i + 1)) (lv' := [(4, .int (nI (i + 1))), (6, .ref (u_2.2.1 ((m_so M) i))), (5, .ref (u_2.2.2.1 i)), (0, .ref q), (1, .int ((l_cd (m_st M) (m_ru (f_ngB (f_ngA M))) (m_mt M) (m_so M) (m_ca M) (m_wa M) i).2.2)), (2, .ref (u_2.1 2)), (3, .int (nI (m_np M)))]) hx hb dX3_pass_253 hl (k := 6) rfl (nI_add i 1) (by decide) rfl (fun ls hl => ?_)
                  refine lv_goto (tgt := 160) hx hb dX3_pass_256 (by decide) ?_
                  exact ih_160 (i + 1) _ _ _ (by omega) (hw.to (by subst hz_3 hz_1; first | assumption | (simp only [l_ag, l_ub, l_cd, f_cd, f_lB, if_pos c_10, if_pos c_11, if_true, if_false, Bool.false_eq_true, Bool.true_eq_false, reduceIte, reduceCtorEq]; done) | (simp only [l_ag, l_ub, l_cd, f_cd, f_lB, if_pos c_10, if_pos c_11, if_true, if_false, Bool.false_eq_true, Bool.true_eq_false, reduceIte, reduceCtorEq]; rfl) | rfl | (simp [l_ag, l_ub, l_cd, f_cd, f_lB, if_pos c_10, if_pos c_11, if_true, if_false, Bool.false_eq_true, Bool.true_eq_false, reduceIte, reduceCtorEq]; done) | (simp [bI, l_ag, l_ub, l_cd, f_cd, f_lB, c_10, c_11]; done))) (by rw [show (.int ((l_cd (m_st M) (m_ru (f_ngB (f_ngA M))) (m_mt M) (m_so M) (m_ca M) (m_wa M) (i + 1)).2.2) : Value) = .int ((l_cd (m_st M) (m_ru (f_ngB (f_ngA M))) (m_mt M) (m_so M) (m_ca M) (m_wa M) i).2.2) from (by subst hz_3 hz_1; first | assumption | (simp only [l_ag, l_ub, l_cd, f_cd, f_lB, if_pos c_10, if_pos c_11, if_true, if_false, Bool.false_eq_true, Bool.true_eq_false, reduceIte, reduceCtorEq]; done) | (simp only [l_ag, l_ub, l_cd, f_cd, f_lB, if_pos c_10, if_pos c_11, if_true, if_false, Bool.false_eq_true, Bool.true_eq_false, reduceIte, reduceCtorEq]; rfl) | rfl | (simp [l_ag, l_ub, l_cd, f_cd, f_lB, if_pos c_10, if_pos c_11, if_true, if_false, Bool.false_eq_true, Bool.true_eq_false, reduceIte, reduceCtorEq]; done) | (simp [bI, l_ag, l_ub, l_cd, f_cd, f_lB, c_10, c_11]; done))]; exact lv_sub hl [3, 4, 5, 6, 0] rfl)
          exact L_160 ((m_np M) - 0) 0 _ _ _ (by omega) hw (lv_sub hl [3, 4, 2, 1, 0] rfl)
        | succ k9 ih_92 =>
          intro i H locs ls hi hw hl
          have hi9 : i < m_ns M := by omega
          refine lv_iload_n hx hb dX3_pass_92 rfl (lv_at hl 2 rfl) ?_
          refine lv_aload_n hx hb dX3_pass_93 rfl (lv_at hl 0 rfl) ?_
          refine k_get (ci := 3) (v := .ref (u_2.1 1)) (C := RX3) (T := TX3) (N := 7) hx hb hown hK hw hts hinX3 0 rfl rfl 3 (by decide) hf9 rfl dX3_pass_94 ?_
          refine k_lenQ (n := m_ns M) hx hb hK hw 1 rfl dX3_pass_97 ?_
          refine lv_icmp_ge (tgt := 149) hx hb dX3_pass_98 (by decide) (fun q8 => absurd q8 (nI_ge (a := i) (b := m_ns M) (by omega) (by omega))) (fun _ => ?_)
          refine lv_aload_n hx hb dX3_pass_101 rfl (lv_at hl 0 rfl) ?_
          refine k_get (ci := 3) (v := .ref (u_2.1 1)) (C := RX3) (T := TX3) (N := 7) hx hb hown hK hw hts hinX3 0 rfl rfl 3 (by decide) hf9 rfl dX3_pass_102 ?_
          refine lv_iload_n hx hb dX3_pass_105 rfl (lv_at hl 2 rfl) ?_
          refine k_qld (i := i) (y := u_2.2.1 i) (n := m_ns M) hx hb hK hw 1 rfl (show i < m_ns M from by omega) (show m_ns M < 2 ^ 31 by omega) rfl dX3_pass_106 ?_
          refine lv_iconst (v := 3) hx hb dX3_pass_107 (by decide) ?_
          refine k_ildP (i := 3) (v := ((l_ub (m_ss (f_ngA M)) (m_sw (f_ngA M)) (m_tr (f_ngA M)) (m_ng (f_ngA M)) (m_ru M) (m_un M) i).1) i) hx hb hK hw (Pk_4 (i := i) (show i < m_ns M from by omega)) (by decide) (by decide) rfl dX3_pass_108 ?_
          refine lv_if_eq (tgt := 143) hx hb dX3_pass_109 (by decide) (fun c_16 => ?_) (fun c_16 => ?_)
          · refine lv_iinc (v := nI (i + 1)) (lv' := [(2, .int (nI (i + 1))), (0, .ref q), (1, .int 0)]) hx hb dX3_pass_143 hl (k := 2) rfl (nI_add i 1) (by decide) rfl (fun ls hl => ?_)
            refine lv_goto (tgt := 92) hx hb dX3_pass_146 (by decide) ?_
            exact ih_92 (i + 1) _ _ _ (by omega) (hw.to (by subst hz_1; first | assumption | (simp only [l_ag, l_ub, l_cd, f_cd, f_lB, if_pos c_16, if_true, if_false, Bool.false_eq_true, Bool.true_eq_false, reduceIte, reduceCtorEq]; done) | (simp only [l_ag, l_ub, l_cd, f_cd, f_lB, if_pos c_16, if_true, if_false, Bool.false_eq_true, Bool.true_eq_false, reduceIte, reduceCtorEq]; rfl) | rfl | (simp [l_ag, l_ub, l_cd, f_cd, f_lB, if_pos c_16, if_true, if_false, Bool.false_eq_true, Bool.true_eq_false, reduceIte, reduceCtorEq]; done) | (simp [bI, l_ag, l_ub, l_cd, f_cd, f_lB, c_16]; done))) (lv_sub hl [1, 2, 0] rfl)
          · refine lv_aload_n hx hb dX3_pass_112 rfl (lv_at hl 0 rfl) ?_
            refine lv_iload_n hx hb dX3_pass_113 rfl (lv_at hl 2 rfl) ?_
            refine kr_i (ws' := wS E q u_2 (q_un (q_ru (f_ngA M) (l_ub (m_ss (f_ngA M)) (m_sw (f_ngA M)) (m_tr (f_ngA M)) (m_ng (f_ngA M)) (m_ru M) (m_un M) i).1) (l_ub (m_ss (f_ngA M)) (m_sw (f_ngA M)) (m_tr (f_ngA M)) (m_ng (f_ngA M)) (m_ru M) (m_un M) i).2)) (va_runV (As := [.int (nI i)]) (rest := []) ⟨hx, hb, hml, hown, hts⟩ (c_X3_trustIn l E q u_2 (q_un (q_ru (f_ngA M) (l_ub (m_ss (f_ngA M)) (m_sw (f_ngA M)) (m_tr (f_ngA M)) (m_ng (f_ngA M)) (m_ru M) (m_un M) i).1) (l_ub (m_ss (f_ngA M)) (m_sw (f_ngA M)) (m_tr (f_ngA M)) (m_ng (f_ngA M)) (m_ru M) (m_un M) i).2) i ((MOK_ngA hM0)) _) (cwV 1 hts gX3_pass_X3_trustIn rfl rfl rfl ⟨rfl, hd_X3_trustIn⟩ ⟨Nat.le_of_ble_eq_true rfl, Nat.le_of_ble_eq_true rfl⟩) (pwV (ci := 3) (q0 := 0) (C := RX3) hw hK rfl rfl rfl (rpS (AV := [.ref q, .int (nI i)]) hw hK hG rp_73)) rfl rfl hl.1 rfl (lv_room (Nat.le_of_ble_eq_true rfl)) dX3_pass_114 ⟨Nat.le_of_ble_eq_true rfl, Nat.le_of_ble_eq_true rfl⟩) hw hA rp_73 (fun H locs hw => ?_)
            refine lv_iconst (v := 5) hx hb dX3_pass_117 (by decide) ?_
            refine lv_icmp_le (tgt := 124) hx hb dX3_pass_118 (by decide) (fun c_17 => ?_) (fun c_17 => ?_)
            · refine lv_aload_n hx hb dX3_pass_124 rfl (lv_at hl 0 rfl) ?_
              refine k_get (ci := 3) (v := .ref (u_2.1 1)) (C := RX3) (T := TX3) (N := 7) hx hb hown hK hw hts hinX3 0 rfl rfl 3 (by decide) hf9 rfl dX3_pass_125 ?_
              refine lv_iload_n hx hb dX3_pass_128 rfl (lv_at hl 2 rfl) ?_
              refine k_qld (i := i) (y := u_2.2.1 i) (n := m_ns M) hx hb hK hw 1 rfl (show i < m_ns M from by omega) (show m_ns M < 2 ^ 31 by omega) rfl dX3_pass_129 ?_
              refine lv_iconst (v := 3) hx hb dX3_pass_130 (by decide) ?_
              refine lv_iconst (v := 0) hx hb dX3_pass_131 (by decide) ?_
              refine k_istP (i := 3) (ws' := wS E q u_2 (q_ru (q_un (q_ru (f_ngA M) (l_ub (m_ss (f_ngA M)) (m_sw (f_ngA M)) (m_tr (f_ngA M)) (m_ng (f_ngA M)) (m_ru M) (m_un M) i).1) (l_ub (m_ss (f_ngA M)) (m_sw (f_ngA M)) (m_tr (f_ngA M)) (m_ng (f_ngA M)) (m_ru M) (m_un M) i).2) (upd ((l_ub (m_ss (f_ngA M)) (m_sw (f_ngA M)) (m_tr (f_ngA M)) (m_ng (f_ngA M)) (m_ru M) (m_un M) i).1) i 0))) hx hb hK hw (Pk_ru 0 (i := i) (show i < m_ns M from by omega)) (by decide) (by decide) dX3_pass_132 (fun H locs hw => ?_)
              refine lv_aload_n hx hb dX3_pass_133 rfl (lv_at hl 0 rfl) ?_
              refine lv_dup hx hb dX3_pass_134 rfl ?_
              refine k_get (ci := 3) (v := .int ((l_ub (m_ss (f_ngA M)) (m_sw (f_ngA M)) (m_tr (f_ngA M)) (m_ng (f_ngA M)) (m_ru M) (m_un M) i).2)) (C := RX3) (T := TX3) (N := 7) hx hb hown hK hw hts hinX3 0 rfl rfl 2 (by decide) hf36 rfl dX3_pass_135 ?_
              refine lv_iconst (v := 1) hx hb dX3_pass_138 (by decide) ?_
              refine lv_iadd hx hb dX3_pass_139 ?_
              refine k_put (ci := 3) (C := RX3) (T := TX3) (N := 7) (ws' := wS E q u_2 (q_un (q_ru (q_un (q_ru (f_ngA M) (l_ub (m_ss (f_ngA M)) (m_sw (f_ngA M)) (m_tr (f_ngA M)) (m_ng (f_ngA M)) (m_ru M) (m_un M) i).1) (l_ub (m_ss (f_ngA M)) (m_sw (f_ngA M)) (m_tr (f_ngA M)) (m_ng (f_ngA M)) (m_ru M) (m_un M) i).2) (upd ((l_ub (m_ss (f_ngA M)) (m_sw (f_ngA M)) (m_tr (f_ngA M)) (m_ng (f_ngA M)) (m_ru M) (m_un M) i).1) i 0)) (((l_ub (m_ss (f_ngA M)) (m_sw (f_ngA M)) (m_tr (f_ngA M)) (m_ng (f_ngA M)) (m_ru M) (m_un M) i).2) + 1))) hx hb hown hK hw hts hinX3 tyX3 tyX3_ok nmX3 0 rfl rfl 2 (by decide) hf36 rfl rfl (Nat.le_of_ble_eq_true rfl) dX3_pass_140 rfl (fun H locs hw => ?_)
              refine lv_iinc (v := nI (i + 1)) (lv' := [(2, .int (nI (i + 1))), (0, .ref q), (1, .int 0)]) hx hb dX3_pass_143 hl (k := 2) rfl (nI_add i 1) (by decide) rfl (fun ls hl => ?_)
              refine lv_goto (tgt := 92) hx hb dX3_pass_146 (by decide) ?_
              exact ih_92 (i + 1) _ _ _ (by omega) (hw.to (by subst hz_1; first | assumption | (simp only [l_ag, l_ub, l_cd, f_cd, f_lB, if_neg c_16, if_pos c_17, if_true, if_false, Bool.false_eq_true, Bool.true_eq_false, reduceIte, reduceCtorEq]; done) | (simp only [l_ag, l_ub, l_cd, f_cd, f_lB, if_neg c_16, if_pos c_17, if_true, if_false, Bool.false_eq_true, Bool.true_eq_false, reduceIte, reduceCtorEq]; rfl) | rfl | (simp [l_ag, l_ub, l_cd, f_cd, f_lB, if_neg c_16, if_pos c_17, if_true, if_false, Bool.false_eq_true, Bool.true_eq_false, reduceIte, reduceCtorEq]; done) | (simp [bI, l_ag, l_ub, l_cd, f_cd, f_lB, c_16, c_17]; done))) (lv_sub hl [1, 2, 0] rfl)
            · refine lv_goto (tgt := 143) hx hb dX3_pass_121 (by decide) ?_
              refine lv_iinc (v := nI (i + 1)) (lv' := [(2, .int (nI (i + 1))), (0, .ref q), (1, .int 0)]) hx hb dX3_pass_143 hl (k := 2) rfl (nI_add i 1) (by decide) rfl (fun ls hl => ?_)
              refine lv_goto (tgt := 92) hx hb dX3_pass_146 (by decide) ?_
              exact ih_92 (i + 1) _ _ _ (by omega) (hw.to (by subst hz_1; first | assumption | (simp only [l_ag, l_ub, l_cd, f_cd, f_lB, if_neg c_16, if_neg c_17, if_true, if_false, Bool.false_eq_true, Bool.true_eq_false, reduceIte, reduceCtorEq]; done) | (simp only [l_ag, l_ub, l_cd, f_cd, f_lB, if_neg c_16, if_neg c_17, if_true, if_false, Bool.false_eq_true, Bool.true_eq_false, reduceIte, reduceCtorEq]; rfl) | rfl | (simp [l_ag, l_ub, l_cd, f_cd, f_lB, if_neg c_16, if_neg c_17, if_true, if_false, Bool.false_eq_true, Bool.true_eq_false, reduceIte, reduceCtorEq]; done) | (simp [bI, l_ag, l_ub, l_cd, f_cd, f_lB, c_16, c_17]; done))) (lv_sub hl [1, 2, 0] rfl)
      exact L_92 ((m_ns M) - 0) 0 _ _ _ (by omega) hw (lv_sub hl [1, 2, 0] rfl)
    | succ k9 ih_13 =>
      intro i H locs ls hi hw hl
      have hi9 : i < m_ng M := by omega
      refine lv_iload hx hb dX3_pass_13 (lv_at hl 4 rfl) ?_
      refine lv_iload_n hx hb dX3_pass_15 rfl (lv_at hl 3 rfl) ?_
      refine lv_icmp_ge (tgt := 84) hx hb dX3_pass_16 (by decide) (fun q8 => absurd q8 (nI_ge (a := i) (b := m_ng M) (by omega) (by omega))) (fun _ => ?_)
      refine lv_aload_n hx hb dX3_pass_19 rfl (lv_at hl 2 rfl) ?_
      refine lv_iload hx hb dX3_pass_20 (lv_at hl 4 rfl) ?_
      refine k_qld (i := i) (y := P.2.2.2 i) (n := m_ng M) hx hb hK hw 4 rfl (show i < m_ng M from by omega) (show m_ng M < 2 ^ 31 by omega) rfl dX3_pass_22 ?_
      refine lv_astore (lv' := [(5, .ref (P.2.2.2 i)), (0, .ref q), (1, .int 0), (2, .ref (P.1 4)), (3, .int (nI (m_ng M))), (4, .int (nI i))]) hx hb dX3_pass_23 hl (by decide) rfl (fun ls hl => ?_)
      refine lv_aload hx hb dX3_pass_25 (lv_at hl 0 rfl) ?_
      refine lv_iconst (v := 2) hx hb dX3_pass_27 (by decide) ?_
      refine lv_dup2_11 hx hb dX3_pass_28 rfl rfl ?_
      refine k_ildP (i := 2) (v := ((l_ag (m_sw M) (m_tr M) (m_sg M) i).2) i) hx hb hK hw (Pk_3 (i := i) (show i < m_ng M from by omega)) (by decide) (by decide) rfl dX3_pass_29 ?_
      refine lv_iconst (v := 1) hx hb dX3_pass_30 (by decide) ?_
      refine lv_iadd hx hb dX3_pass_31 ?_
      refine k_istP (i := 2) (ws' := wS E q P (q_sg (q_sg (q_tr M (l_ag (m_sw M) (m_tr M) (m_sg M) i).1) (l_ag (m_sw M) (m_tr M) (m_sg M) i).2) (upd ((l_ag (m_sw M) (m_tr M) (m_sg M) i).2) i ((((l_ag (m_sw M) (m_tr M) (m_sg M) i).2) i) + 1)))) hx hb hK hw (Pk_sg ((((l_ag (m_sw M) (m_tr M) (m_sg M) i).2) i) + 1) (i := i) (show i < m_ng M from by omega)) (by decide) (by decide) dX3_pass_32 (fun H locs hw => ?_)
      refine lv_aload hx hb dX3_pass_33 (lv_at hl 0 rfl) ?_
      refine lv_iconst (v := 2) hx hb dX3_pass_35 (by decide) ?_
      refine k_ildP (i := 2) (v := (((l_ag (m_sw M) (m_tr M) (m_sg M) i).2) i) + 1) hx hb hK hw (Pk_3 (i := i) (show i < m_ng M from by omega)) (by decide) (by decide) pk_us dX3_pass_36 ?_
      refine lv_iconst (v := 3) hx hb dX3_pass_37 (by decide) ?_
      refine lv_icmp_ne (tgt := 78) hx hb dX3_pass_38 (by decide) (fun c_18 => ?_) (fun c_18 => ?_)
      · refine lv_iinc (v := nI (i + 1)) (lv' := [(4, .int (nI (i + 1))), (5, .ref (P.2.2.2 i)), (0, .ref q), (1, .int 0), (2, .ref (P.1 4)), (3, .int (nI (m_ng M)))]) hx hb dX3_pass_78 hl (k := 5) rfl (nI_add i 1) (by decide) rfl (fun ls hl => ?_)
        refine lv_goto (tgt := 13) hx hb dX3_pass_81 (by decide) ?_
        exact ih_13 (i + 1) _ _ _ (by omega) (hw.to (by first | assumption | (simp only [l_ag, l_ub, l_cd, f_cd, f_lB, if_neg c_18, if_true, if_false, Bool.false_eq_true, Bool.true_eq_false, reduceIte, reduceCtorEq]; done) | (simp only [l_ag, l_ub, l_cd, f_cd, f_lB, if_neg c_18, if_true, if_false, Bool.false_eq_true, Bool.true_eq_false, reduceIte, reduceCtorEq]; rfl) | rfl | (simp [l_ag, l_ub, l_cd, f_cd, f_lB, if_neg c_18, if_true, if_false, Bool.false_eq_true, Bool.true_eq_false, reduceIte, reduceCtorEq]; done) | (simp [bI, l_ag, l_ub, l_cd, f_cd, f_lB, c_18]; done))) (lv_sub hl [2, 3, 4, 5, 0] rfl)
      · refine lv_aload_n hx hb dX3_pass_41 rfl (lv_at hl 1 rfl) ?_
        refine k_get (ci := 3) (v := .ref (P.1 3)) (C := RX3) (T := TX3) (N := 7) hx hb hown hK hw hts hinX3 0 rfl rfl 5 (by decide) hf18 rfl dX3_pass_42 ?_
        refine lv_aload hx hb dX3_pass_45 (lv_at hl 0 rfl) ?_
        refine lv_iconst (v := 0) hx hb dX3_pass_47 (by decide) ?_
        refine k_ildP (i := 0) (v := nI ((m_sw M) i)) hx hb hK hw (Pk_3 (i := i) (show i < m_ng M from by omega)) (by decide) (by decide) rfl dX3_pass_48 ?_
        refine lv_aload_n hx hb dX3_pass_49 rfl (lv_at hl 1 rfl) ?_
        refine k_get (ci := 3) (v := .ref (P.1 3)) (C := RX3) (T := TX3) (N := 7) hx hb hown hK hw hts hinX3 0 rfl rfl 5 (by decide) hf18 rfl dX3_pass_50 ?_
        refine lv_aload hx hb dX3_pass_53 (lv_at hl 0 rfl) ?_
        refine lv_iconst (v := 0) hx hb dX3_pass_55 (by decide) ?_
        refine k_ildP (i := 0) (v := nI ((m_sw M) i)) hx hb hK hw (Pk_3 (i := i) (show i < m_ng M from by omega)) (by decide) (by decide) rfl dX3_pass_56 ?_
        refine k_ildN (i := (m_sw M) i) (f := (l_ag (m_sw M) (m_tr M) (m_sg M) i).1) hx hb hK hw 3 rfl (by have := hsw i (by omega); omega) (by omega) dX3_pass_57 ?_
        refine lv_iconst (v := 2) hx hb dX3_pass_58 (by decide) ?_
        refine lv_icmp_ge (tgt := 66) hx hb dX3_pass_59 (by decide) (fun c_19 => ?_) (fun c_19 => ?_)
        · refine lv_aload_n hx hb dX3_pass_66 rfl (lv_at hl 1 rfl) ?_
          refine k_get (ci := 3) (v := .ref (P.1 3)) (C := RX3) (T := TX3) (N := 7) hx hb hown hK hw hts hinX3 0 rfl rfl 5 (by decide) hf18 rfl dX3_pass_67 ?_
          refine lv_aload hx hb dX3_pass_70 (lv_at hl 0 rfl) ?_
          refine lv_iconst (v := 0) hx hb dX3_pass_72 (by decide) ?_
          refine k_ildP (i := 0) (v := nI ((m_sw M) i)) hx hb hK hw (Pk_3 (i := i) (show i < m_ng M from by omega)) (by decide) (by decide) rfl dX3_pass_73 ?_
          refine k_ildN (i := (m_sw M) i) (f := (l_ag (m_sw M) (m_tr M) (m_sg M) i).1) hx hb hK hw 3 rfl (by have := hsw i (by omega); omega) (by omega) dX3_pass_74 ?_
          refine lv_iconst (v := 2) hx hb dX3_pass_75 (by decide) ?_
          refine lv_isub hx hb dX3_pass_76 ?_
          refine k_istN (i := (m_sw M) i) (ws' := wS E q P (q_tr (q_sg (q_sg (q_tr M (l_ag (m_sw M) (m_tr M) (m_sg M) i).1) (l_ag (m_sw M) (m_tr M) (m_sg M) i).2) (upd ((l_ag (m_sw M) (m_tr M) (m_sg M) i).2) i ((((l_ag (m_sw M) (m_tr M) (m_sg M) i).2) i) + 1))) (upd ((l_ag (m_sw M) (m_tr M) (m_sg M) i).1) ((m_sw M) i) ((((l_ag (m_sw M) (m_tr M) (m_sg M) i).1) ((m_sw M) i)) - 2)))) hx hb hK hw 3 rfl (by have := hsw i (by omega); omega) (by omega) dX3_pass_77 rfl (fun H locs hw => ?_)
          refine lv_iinc (v := nI (i + 1)) (lv' := [(4, .int (nI (i + 1))), (5, .ref (P.2.2.2 i)), (0, .ref q), (1, .int 0), (2, .ref (P.1 4)), (3, .int (nI (m_ng M)))]) hx hb dX3_pass_78 hl (k := 5) rfl (nI_add i 1) (by decide) rfl (fun ls hl => ?_)
          refine lv_goto (tgt := 13) hx hb dX3_pass_81 (by decide) ?_
          exact ih_13 (i + 1) _ _ _ (by omega) (hw.to (by first | assumption | (simp only [l_ag, l_ub, l_cd, f_cd, f_lB, if_pos c_18, if_pos c_19, if_true, if_false, Bool.false_eq_true, Bool.true_eq_false, reduceIte, reduceCtorEq]; done) | (simp only [l_ag, l_ub, l_cd, f_cd, f_lB, if_pos c_18, if_pos c_19, if_true, if_false, Bool.false_eq_true, Bool.true_eq_false, reduceIte, reduceCtorEq]; rfl) | rfl | (simp [l_ag, l_ub, l_cd, f_cd, f_lB, if_pos c_18, if_pos c_19, if_true, if_false, Bool.false_eq_true, Bool.true_eq_false, reduceIte, reduceCtorEq]; done) | (simp [bI, l_ag, l_ub, l_cd, f_cd, f_lB, c_18, c_19]; done))) (lv_sub hl [2, 3, 4, 5, 0] rfl)
        · refine lv_iconst (v := 0) hx hb dX3_pass_62 (by decide) ?_
          refine lv_goto (tgt := 77) hx hb dX3_pass_63 (by decide) ?_
          refine k_istN (i := (m_sw M) i) (ws' := wS E q P (q_tr (q_sg (q_sg (q_tr M (l_ag (m_sw M) (m_tr M) (m_sg M) i).1) (l_ag (m_sw M) (m_tr M) (m_sg M) i).2) (upd ((l_ag (m_sw M) (m_tr M) (m_sg M) i).2) i ((((l_ag (m_sw M) (m_tr M) (m_sg M) i).2) i) + 1))) (upd ((l_ag (m_sw M) (m_tr M) (m_sg M) i).1) ((m_sw M) i) 0))) hx hb hK hw 3 rfl (by have := hsw i (by omega); omega) (by omega) dX3_pass_77 rfl (fun H locs hw => ?_)
          refine lv_iinc (v := nI (i + 1)) (lv' := [(4, .int (nI (i + 1))), (5, .ref (P.2.2.2 i)), (0, .ref q), (1, .int 0), (2, .ref (P.1 4)), (3, .int (nI (m_ng M)))]) hx hb dX3_pass_78 hl (k := 5) rfl (nI_add i 1) (by decide) rfl (fun ls hl => ?_)
          refine lv_goto (tgt := 13) hx hb dX3_pass_81 (by decide) ?_
          exact ih_13 (i + 1) _ _ _ (by omega) (hw.to (by first | assumption | (simp only [l_ag, l_ub, l_cd, f_cd, f_lB, if_pos c_18, if_neg c_19, if_true, if_false, Bool.false_eq_true, Bool.true_eq_false, reduceIte, reduceCtorEq]; done) | (simp only [l_ag, l_ub, l_cd, f_cd, f_lB, if_pos c_18, if_neg c_19, if_true, if_false, Bool.false_eq_true, Bool.true_eq_false, reduceIte, reduceCtorEq]; rfl) | rfl | (simp [l_ag, l_ub, l_cd, f_cd, f_lB, if_pos c_18, if_neg c_19, if_true, if_false, Bool.false_eq_true, Bool.true_eq_false, reduceIte, reduceCtorEq]; done) | (simp [bI, l_ag, l_ub, l_cd, f_cd, f_lB, c_18, c_19]; done))) (lv_sub hl [2, 3, 4, 5, 0] rfl)
  exact L_13 ((m_ng M) - 0) 0 _ _ _ (by omega) hw (lv_sub hl [4, 3, 2, 1, 0] rfl)
