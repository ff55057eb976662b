/-! ===== the law's own harbour, made ===== -/
def M0S : SM := mkS 0 0 0 0 0 0 0 (fun _ => 0) (fun _ => 0) (fun _ => 0) (fun _ => 0) (fun _ => 0) (fun _ => 0) (fun _ => 0) (fun _ => 0) (fun _ => 0) (fun _ => 0) (fun _ => 0) (fun _ => 0) (fun _ => 0)
abbrev rm_X3_init : Room := { frames := 1, cells := 4, slots := 0, locals := 40 }
def adS (a b c d : Nat) : Nat → Nat | 1 => a | 2 => b | 3 => c | _ => d
set_option maxHeartbeats 4000000 in
set_option maxRecDepth 100000 in
theorem c_X3_init (l : Launch) (E : Ev) (h : Nat) : MC (α := AP) l E yX3_init wsX3_init rm_X3_init [.ref h] [(h, .inr (3, [.int 0, .int 0, .int 0, .null, .null, .null, .null]))] (fun _ => True) (fun u => wS E h u M0S) := by
  refine k_bC (cc := cX3_init) (maxL := 1) (ret := none) (by decide) rfl (Nat.le_of_ble_eq_true rfl) ?_
  intro p9 e s9 m args below meth c A9 ls hC hin9 hl hw
  obtain ⟨hx, hb, hml, hr, hown, hts, hlocks, hK, hG, hA⟩ := hC
  have hq0 := hts (.methodLink RX3 1 objectInit) (List.mem_of_getElem? (i := 1) rfl)
  have hq1 := hts (.instanceMethod objectInit) (List.mem_of_getElem? (i := 2) rfl)
  have hq2 := hts (.code objectInit ⟨#[0xb1]⟩ 1 none) (List.mem_of_getElem? (i := 3) rfl)
  have hq3 := hts (.classLink RX3 7 "[I") (List.mem_of_getElem? (i := 4) rfl)
  have hf9 := hts (.fieldLink RX3 9 "SailorCandlesLaw$Sim" "ships" "[[I") (List.mem_of_getElem? (i := 5) rfl)
  have hf15 := hts (.fieldLink RX3 15 "SailorCandlesLaw$Sim" "sailors" "[[I") (List.mem_of_getElem? (i := 6) rfl)
  have hq7 := hts (.arrayClass .int) (List.mem_of_getElem? (i := 7) rfl)
  have hf18 := hts (.fieldLink RX3 18 "SailorCandlesLaw$Sim" "trust" "[I") (List.mem_of_getElem? (i := 8) rfl)
  have hf21 := hts (.fieldLink RX3 21 "SailorCandlesLaw$Sim" "sights" "[[I") (List.mem_of_getElem? (i := 9) rfl)
  have hinX3 : ∀ w ∈ wsX30, w ∈ wsX3_init := fun w h => List.mem_cons_of_mem _ (List.mem_append_right _ h)
  have hl : lv_has ls 1 [(0, .ref h)] := hl
  refine lv_aload_n hx hb dX3_init_0 rfl (lv_at hl 0 rfl) ?_
  refine W.objInit hx hb hown hq0 hq1 hq2 rfl (by rw [hml]; exact hl.1) rfl dX3_init_1 (Nat.le_of_ble_eq_true rfl) (Nat.le_of_ble_eq_true rfl) ?_
  refine W.eq (g2 := F0 m 4 ls []) rfl ?_
  refine lv_aload_n hx hb dX3_init_4 rfl (lv_at hl 0 rfl) ?_
  refine lv_iconst (v := 0) hx hb dX3_init_5 (by decide) ?_
  refine k_newQ (n := 0) hx hb hown hq3 hK hG hw hA (by omega) (Nat.le_of_ble_eq_true rfl) (Nat.le_of_ble_eq_true rfl) dX3_init_6 (fun q6 H hw => ?_)
  refine k_putR (ci := 3) (C := RX3) (T := TX3) (N := 7) (ws' := [(h, .inr (3, [.int 0, .int 0, .int 0, .ref q6, .null, .null, .null])), (q6, aQ E 0 (fun _ => none))]) hx hb hown hK hw hts hinX3 tyX3 tyX3_ok nmX3 0 rfl rfl 3 (by decide) hf9 rfl rfl rfl (Nat.le_of_ble_eq_true rfl) dX3_init_9 rfl (fun H locs hw => ?_)
  refine lv_aload_n hx hb dX3_init_12 rfl (lv_at hl 0 rfl) ?_
  refine lv_iconst (v := 0) hx hb dX3_init_13 (by decide) ?_
  refine k_newQ (n := 0) hx hb hown hq3 hK hG hw hA (by omega) (Nat.le_of_ble_eq_true rfl) (Nat.le_of_ble_eq_true rfl) dX3_init_14 (fun q14 H hw => ?_)
  refine k_putR (ci := 3) (C := RX3) (T := TX3) (N := 7) (ws' := [(h, .inr (3, [.int 0, .int 0, .int 0, .ref q6, .ref q14, .null, .null])), (q6, aQ E 0 (fun _ => none)), (q14, aQ E 0 (fun _ => none))]) hx hb hown hK hw hts hinX3 tyX3 tyX3_ok nmX3 0 rfl rfl 4 (by decide) hf15 rfl rfl rfl (Nat.le_of_ble_eq_true rfl) dX3_init_17 rfl (fun H locs hw => ?_)
  refine lv_aload_n hx hb dX3_init_20 rfl (lv_at hl 0 rfl) ?_
  refine lv_iconst (v := 0) hx hb dX3_init_21 (by decide) ?_
  refine k_newI (N := 0) hx hb hq7 hK hw hA (by decide) (Nat.le_of_ble_eq_true rfl) (Nat.le_of_ble_eq_true rfl) dX3_init_22 (fun q22 H hw => ?_)
  refine k_putR (ci := 3) (C := RX3) (T := TX3) (N := 7) (ws' := [(h, .inr (3, [.int 0, .int 0, .int 0, .ref q6, .ref q14, .ref q22, .null])), (q6, aQ E 0 (fun _ => none)), (q14, aQ E 0 (fun _ => none)), (q22, aI E 0 (fun _ => 0))]) hx hb hown hK hw hts hinX3 tyX3 tyX3_ok nmX3 0 rfl rfl 5 (by decide) hf18 rfl rfl rfl (Nat.le_of_ble_eq_true rfl) dX3_init_24 rfl (fun H locs hw => ?_)
  refine lv_aload_n hx hb dX3_init_27 rfl (lv_at hl 0 rfl) ?_
  refine lv_iconst (v := 0) hx hb dX3_init_28 (by decide) ?_
  refine k_newQ (n := 0) hx hb hown hq3 hK hG hw hA (by omega) (Nat.le_of_ble_eq_true rfl) (Nat.le_of_ble_eq_true rfl) dX3_init_29 (fun q29 H hw => ?_)
  refine k_putR (ci := 3) (C := RX3) (T := TX3) (N := 7) (ws' := [(h, .inr (3, [.int 0, .int 0, .int 0, .ref q6, .ref q14, .ref q22, .ref q29])), (q6, aQ E 0 (fun _ => none)), (q14, aQ E 0 (fun _ => none)), (q22, aI E 0 (fun _ => 0)), (q29, aQ E 0 (fun _ => none))]) hx hb hown hK hw hts hinX3 tyX3 tyX3_ok nmX3 0 rfl rfl 6 (by decide) hf21 rfl rfl rfl (Nat.le_of_ble_eq_true rfl) dX3_init_32 rfl (fun H locs hw => ?_)
  have hw := Wd.setQ (w1 := [(h, .inr (3, [.int 0, .int 0, .int 0, .ref q6, .ref q14, .ref q22, .ref q29]))]) (w2 := [(q14, aQ E 0 (fun _ => none)), (q22, aI E 0 (fun _ => 0)), (q29, aQ E 0 (fun _ => none))]) (g := fun j => some 0) hw (fun j hj => absurd hj (by omega))
  have hw := Wd.setQ (w1 := [(h, .inr (3, [.int 0, .int 0, .int 0, .ref q6, .ref q14, .ref q22, .ref q29])), (q6, aQ E 0 (fun _ => some 0))]) (w2 := [(q22, aI E 0 (fun _ => 0)), (q29, aQ E 0 (fun _ => none))]) (g := fun j => some 0) hw (fun j hj => absurd hj (by omega))
  have hw := Wd.setQ (w1 := [(h, .inr (3, [.int 0, .int 0, .int 0, .ref q6, .ref q14, .ref q22, .ref q29])), (q6, aQ E 0 (fun _ => some 0)), (q14, aQ E 0 (fun _ => some 0)), (q22, aI E 0 (fun _ => 0))]) (w2 := []) (g := fun j => some 0) hw (fun j hj => absurd hj (by omega))
  exact k_cret (adS q6 q14 q22 q29, (fun _ => 0), (fun _ => 0), (fun _ => 0)) hx hb hr hlocks hK hw dX3_init_35 trivial rfl
