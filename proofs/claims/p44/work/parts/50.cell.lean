abbrev rm_L_cell : Room := { frames := 0, cells := 0, slots := 0, locals := 0 }
theorem nI_notle {a b : Nat} (ha : a < 2 ^ 31) (hb : b < 2 ^ 31) (h : ¬ nI b ≤ nI a) : a < b := by
  rcases Nat.lt_or_ge a b with q | q
  · exact q
  · exact absurd ((nI_leI hb ha).mpr q) h
set_option maxHeartbeats 4000000 in
set_option maxRecDepth 100000 in
theorem c_L_cell (l : Launch) (E : Ev) (b L : Nat) (xs : Nat → Int32) (k : Nat) (hk : k < 1000) (hL : L ≤ 260) : MIZ l E yL_cell wsL_cell rm_L_cell [.ref b, .int (nI k)] b L xs [] (f_cell L xs k) [] := by
  refine k_bIZ (cc := cL_cell) (maxL := 2) (ret := (some .int)) (by decide) rfl (Nat.le_of_ble_eq_true rfl) ?_
  intro p9 e s9 m args below meth c A9 ls hC hX hbl hbA hl hw
  obtain ⟨hx, hb, hml, hr, hown, hts, hlocks, hK, hG, hA⟩ := hC
  have hl : lv_has ls 2 [(0, .ref b), (1, .int (nI k))] := hl
  have hq0 := hts (.constant RL 8 (790386105)) (List.mem_of_getElem? (i := 1) rfl)
  refine lv_iload_n hx hb dL_cell_0 rfl (lv_at hl 1 rfl) ?_
  refine lv_aload_n hx hb dL_cell_1 rfl (lv_at hl 0 rfl) ?_
  refine k_slenZ hx hb hX hbl hbA hw dL_cell_2 ?_
  refine lv_icmp_ge (tgt := 12) hx hb dL_cell_3 (by decide) (fun c_1 => ?_) (fun c_1 => ?_)
  · refine lv_ldc (v := 790386105) hx hb hown hq0 dL_cell_12 ?_
    refine lv_iload_n hx hb dL_cell_14 rfl (lv_at hl 1 rfl) ?_
    refine lv_iconst (v := 3) hx hb dL_cell_15 (by decide) ?_
    refine k_iaddN (a := k) (b := 3) hx hb dL_cell_16 ?_
    refine k_imulN (a := 790386105) (b := k + 3) hx hb dL_cell_17 ?_
    exact k_iret hx hb hr hlocks hK hw rfl dL_cell_18 (by rw [f_cell, if_pos c_1]) rfl
  · refine lv_aload_n hx hb dL_cell_6 rfl (lv_at hl 0 rfl) ?_
    refine lv_iload_n hx hb dL_cell_7 rfl (lv_at hl 1 rfl) ?_
    refine k_sldZ hx hb hX hbl hbA hw (i := k) (nI_notle (by omega) (by omega) c_1) (by omega) dL_cell_8 ?_
    refine lv_goto (tgt := 18) hx hb dL_cell_9 (by decide) ?_
    exact k_iret hx hb hr hlocks hK hw rfl dL_cell_18 (by rw [f_cell, if_neg c_1]) rfl
