set_option maxHeartbeats 8000000 in
set_option maxRecDepth 100000 in
theorem sg_pass_259 (l : Launch) (E : Ev) {p9 : Program} {e : Env} {s9 : State} {m : MethodId} {args : Array Value} {below : List Frame} {meth : Method} {c : Code} {A9 : Nat → Prop} {H : Heap} {locs : List Loc} {ls : Array Slot} (hC : Cx E yX3_pass.cls cX3_pass 7 (some .int) wsX3_pass p9 s9 m args meth c A9) (q : Nat) (P : AP) (M : SM) (N : Int32) (hM : MOK M) (hw : Wd E A9 s9.heap (wS E q P M) H locs) (hl : lv_has ls 7 [(0, .ref q), (1, .int N)]) : W p9 l e rm_X3_pass s9 m args below meth c H locs 21 420 (EndA E A9 N (fun (u : AP) => wS E q u (f_tlD M)) below args s9 (rm_X3_pass).cells (rm_X3_pass).slots) (F0 m 259 ls []) := by
  have hM0 := hM
  obtain ⟨hns, hnp, hnw, hng, hso, hsw⟩ := hM
  have hC0 := hC
  obtain ⟨hx, hb, hml, hr, hown, hts, hlocks, hK, hG, hA⟩ := hC
  have hf9 := hts (.fieldLink RX3 9 "SailorCandlesLaw$Sim" "ships" "[[I") (List.mem_of_getElem? (i := 3) rfl)
  have hinX3 : ∀ w ∈ wsX30, w ∈ wsX3_pass := fun w h => List.mem_cons_of_mem _ (List.mem_append_right _ h)
  have hf29 := hts (.fieldLink RX3 29 "SailorCandlesLaw$Sim" "night" "I") (List.mem_of_getElem? (i := 6) rfl)
  refine lv_iconst (v := 0) hx hb dX3_pass_259 (by decide) ?_
  refine lv_istore_n (lv' := [(2, .int 0), (0, .ref q), (1, .int N)]) hx hb dX3_pass_260 rfl hl (by decide) rfl (fun ls hl => ?_)
  have L_261 : ∀ (k9 i : Nat) (P9 : AP) (H : Heap) (locs : List Loc) (ls : Array Slot), i + k9 = (m_ns M) → Wd E A9 s9.heap (wS E q P9 (mix9 M (l_lo M i))) H locs → lv_has ls 7 [(0, .ref q), (1, .int N), (2, .int (nI i))] → W p9 l e rm_X3_pass s9 m args below meth c H locs (21 + 21 * i) (420 + 420 * i) (EndA E A9 N (fun (u : AP) => wS E q u (f_tlD M)) below args s9 (rm_X3_pass).cells (rm_X3_pass).slots) (F0 m 261 ls []) := by
    intro k9
    induction k9 with
    | zero =>
      intro i P9 H locs ls hi hw hl
      have hz_1 : m_ns M = i := by omega
      refine lv_iload_n hx hb dX3_pass_261 rfl (lv_at hl 2 rfl) ?_
      refine lv_aload_n hx hb dX3_pass_262 rfl (lv_at hl 0 rfl) ?_
      refine k_get (ci := 3) (v := .ref (P9.1 1)) (C := RX3) (T := TX3) (N := 7) hx hb hown hK hw hts hinX3 0 rfl rfl 3 (by decide) hf9 rfl dX3_pass_263 ?_
      refine k_lenQ (n := m_ns M) hx hb hK hw 1 rfl dX3_pass_266 ?_
      refine lv_icmp_ge (tgt := 350) hx hb dX3_pass_267 (by decide) (fun _ => ?_) (fun q8 => absurd (by rw [← hz_1]; exact Int32.le_refl _) q8)
      have hw : Wd E A9 s9.heap (wS E q P9 (mix9 M (l_lo M (m_ns M)))) H _ := hw.to (by rw [← hz_1])
      refine lv_aload_n hx hb dX3_pass_350 rfl (lv_at hl 0 rfl) ?_
      refine lv_dup hx hb dX3_pass_351 rfl ?_
      refine k_get (ci := 3) (v := .int (m_ni M)) (C := RX3) (T := TX3) (N := 7) hx hb hown hK hw hts hinX3 0 rfl rfl 0 (by decide) hf29 rfl dX3_pass_352 ?_
      refine lv_iconst (v := 1) hx hb dX3_pass_355 (by decide) ?_
      refine lv_iadd hx hb dX3_pass_356 ?_
      refine k_put (ci := 3) (C := RX3) (T := TX3) (N := 7) (ws' := wS E q P9 (mkS ((m_ni M) + 1) (m_wa (mix9 M (l_lo M (m_ns M)))) (m_un M) (m_ns M) (m_np M) (m_nw M) (m_ng (mix9 M (l_lo M (m_ns M)))) (m_ma M) (m_st (mix9 M (l_lo M (m_ns M)))) (m_ou (mix9 M (l_lo M (m_ns M)))) (m_ru (mix9 M (l_lo M (m_ns M)))) (m_so M) (m_mt M) (m_vo M) (m_gi M) (m_ca (mix9 M (l_lo M (m_ns M)))) (m_tr M) (m_sw (mix9 M (l_lo M (m_ns M)))) (m_ss (mix9 M (l_lo M (m_ns M)))) (m_sg (mix9 M (l_lo M (m_ns M)))))) hx hb hown hK hw hts hinX3 tyX3 tyX3_ok nmX3 0 rfl rfl 0 (by decide) hf29 rfl rfl (Nat.le_of_ble_eq_true rfl) dX3_pass_357 rfl (fun H locs hw => ?_)
      refine lv_iload_n hx hb dX3_pass_360 rfl (lv_at hl 1 rfl) ?_
      refine W.widen (k := (rm_X3_pass).cells) (n := (rm_X3_pass).slots) (show 21 + 21 * i ≤ 126 by omega) (show 420 + 420 * i ≤ 2520 by omega) ?_
      exact k_aret9 P9 hx hb hr hlocks hK hw rfl dX3_pass_361 rfl (by rfl)
    | succ k9 ih_261 =>
      intro i P9 H locs ls hi hw hl
      have hi9 : i < m_ns M := by omega
      refine lv_iload_n hx hb dX3_pass_261 rfl (lv_at hl 2 rfl) ?_
      refine lv_aload_n hx hb dX3_pass_262 rfl (lv_at hl 0 rfl) ?_
      refine k_get (ci := 3) (v := .ref (P9.1 1)) (C := RX3) (T := TX3) (N := 7) hx hb hown hK hw hts hinX3 0 rfl rfl 3 (by decide) hf9 rfl dX3_pass_263 ?_
      refine k_lenQ (n := m_ns M) hx hb hK hw 1 rfl dX3_pass_266 ?_
      refine lv_icmp_ge (tgt := 350) hx hb dX3_pass_267 (by decide) (fun q8 => absurd q8 (nI_ge (a := i) (b := m_ns M) (by omega) (by omega))) (fun _ => ?_)
      refine lv_aload_n hx hb dX3_pass_270 rfl (lv_at hl 0 rfl) ?_
      refine k_get (ci := 3) (v := .ref (P9.1 1)) (C := RX3) (T := TX3) (N := 7) hx hb hown hK hw hts hinX3 0 rfl rfl 3 (by decide) hf9 rfl dX3_pass_271 ?_
      refine lv_iload_n hx hb dX3_pass_274 rfl (lv_at hl 2 rfl) ?_
      refine k_qld (i := i) (y := P9.2.1 i) (n := m_ns M) hx hb hK hw 1 rfl (show i < m_ns M from by omega) (show m_ns M < 2 ^ 31 by omega) rfl dX3_pass_275 ?_
      refine lv_iconst (v := 1) hx hb dX3_pass_276 (by decide) ?_
      refine k_ildP (i := 1) (v := (m_st (mix9 M (l_lo M i))) i) hx hb hK hw (Pk_4 (i := i) (show i < m_ns M from by omega)) (by decide) (by decide) rfl dX3_pass_277 ?_
      refine lv_iconst (v := 1) hx hb dX3_pass_278 (by decide) ?_
      refine lv_icmp_eq (tgt := 285) hx hb dX3_pass_279 (by decide) (fun c_2 => ?_) (fun c_2 => ?_)
      · have c_2 : ((m_st (mix9 M (l_lo M i))) i : Int32) = 1 := c_2
        refine lv_aload_n hx hb dX3_pass_285 rfl (lv_at hl 0 rfl) ?_
        refine k_get (ci := 3) (v := .ref (P9.1 1)) (C := RX3) (T := TX3) (N := 7) hx hb hown hK hw hts hinX3 0 rfl rfl 3 (by decide) hf9 rfl dX3_pass_286 ?_
        refine lv_iload_n hx hb dX3_pass_289 rfl (lv_at hl 2 rfl) ?_
        refine k_qld (i := i) (y := P9.2.1 i) (n := m_ns M) hx hb hK hw 1 rfl (show i < m_ns M from by omega) (show m_ns M < 2 ^ 31 by omega) rfl dX3_pass_290 ?_
        refine lv_iconst (v := 2) hx hb dX3_pass_291 (by decide) ?_
        refine lv_dup2_11 hx hb dX3_pass_292 rfl rfl ?_
        refine k_ildP (i := 2) (v := (m_ou (mix9 M (l_lo M i))) i) hx hb hK hw (Pk_4 (i := i) (show i < m_ns M from by omega)) (by decide) (by decide) rfl dX3_pass_293 ?_
        refine lv_iconst (v := 1) hx hb dX3_pass_294 (by decide) ?_
        refine lv_iadd hx hb dX3_pass_295 ?_
        refine k_istP (i := 2) (ws' := wS E q P9 (mkS (m_ni M) (m_wa (mix9 M (l_lo M i))) (m_un M) (m_ns M) (m_np M) (m_nw M) (m_ng (mix9 M (l_lo M i))) (m_ma M) (m_st (mix9 M (l_lo M i))) (upd (m_ou (mix9 M (l_lo M i))) i (((m_ou (mix9 M (l_lo M i))) i) + 1)) (m_ru (mix9 M (l_lo M i))) (m_so M) (m_mt M) (m_vo M) (m_gi M) (m_ca (mix9 M (l_lo M i))) (m_tr M) (m_sw (mix9 M (l_lo M i))) (m_ss (mix9 M (l_lo M i))) (m_sg (mix9 M (l_lo M i))))) hx hb hK hw (Pk_ou (((m_ou (mix9 M (l_lo M i))) i) + 1) (i := i) (show i < m_ns M from by omega)) (by decide) (by decide) dX3_pass_296 (fun H locs hw => ?_)
        refine lv_aload_n hx hb dX3_pass_297 rfl (lv_at hl 0 rfl) ?_
        refine k_get (ci := 3) (v := .ref (P9.1 1)) (C := RX3) (T := TX3) (N := 7) hx hb hown hK hw hts hinX3 0 rfl rfl 3 (by decide) hf9 rfl dX3_pass_298 ?_
        refine lv_iload_n hx hb dX3_pass_301 rfl (lv_at hl 2 rfl) ?_
        refine k_qld (i := i) (y := P9.2.1 i) (n := m_ns M) hx hb hK hw 1 rfl (show i < m_ns M from by omega) (show m_ns M < 2 ^ 31 by omega) rfl dX3_pass_302 ?_
        refine lv_iconst (v := 2) hx hb dX3_pass_303 (by decide) ?_
        refine k_ildP (i := 2) (v := ((m_ou (mix9 M (l_lo M i))) i) + 1) hx hb hK hw (Pk_4 (i := i) (show i < m_ns M from by omega)) (by decide) (by decide) pk_us dX3_pass_304 ?_
        refine lv_bipush (v := 21) hx hb dX3_pass_305 (by decide) ?_
        refine lv_icmp_lt (tgt := 344) hx hb dX3_pass_307 (by decide) (fun c_3 => ?_) (fun c_3 => ?_)
        · have c_3 : (((m_ou (mix9 M (l_lo M i))) i) + 1 : Int32) < 21 := c_3
          refine lv_iinc (v := nI (i + 1)) (lv' := [(2, .int (nI (i + 1))), (0, .ref q), (1, .int N)]) hx hb dX3_pass_344 hl (k := 2) rfl (nI_add i 1) (by decide) rfl (fun ls hl => ?_)
          refine lv_goto (tgt := 261) hx hb dX3_pass_347 (by decide) ?_
          refine W.widen (k := 21 + 21 * (i + 1)) (n := 420 + 420 * (i + 1)) (show 21 + 21 * i ≤ 21 + 21 * (i + 1) by omega) (show 420 + 420 * i ≤ 420 + 420 * (i + 1) by omega) ?_
          exact ih_261 (i + 1) _ _ _ _ (by omega) (hw.to (by first | exact wS_eq ((lo1_a c_3).trans (mix_lo hM0 i).symm) | exact wS_eq ((lo1_b c_2 c_3).trans (mix_lo hM0 i).symm) | exact wS_eq ((lo1_c CQ c_2 c_3).trans (mix_lo hM0 i).symm) | exact wS_eq ((lo1_d CQ c_2 c_3).trans (mix_lo hM0 i).symm))) (lv_sub hl [1, 2, 0] rfl)
        · have c_3 : ¬ (((m_ou (mix9 M (l_lo M i))) i) + 1 : Int32) < 21 := c_3
          refine lv_aload_n hx hb dX3_pass_310 rfl (lv_at hl 0 rfl) ?_
          refine lv_iload_n hx hb dX3_pass_311 rfl (lv_at hl 2 rfl) ?_
          refine lv_iconst (v := 1) hx hb dX3_pass_312 (by decide) ?_
          refine kr_i (ws' := wS E q P9 (mkS (m_ni M) (m_wa (mix9 M (l_lo M i))) (m_un M) (m_ns M) (m_np M) (m_nw M) (m_ng (mix9 M (l_lo M i))) (m_ma M) (m_st (mix9 M (l_lo M i))) (upd (m_ou (mix9 M (l_lo M i))) i (((m_ou (mix9 M (l_lo M i))) i) + 1)) (m_ru (mix9 M (l_lo M i))) (m_so M) (m_mt M) (m_vo M) (m_gi M) (m_ca (mix9 M (l_lo M i))) (m_tr M) (m_sw (mix9 M (l_lo M i))) (m_ss (mix9 M (l_lo M i))) (m_sg (mix9 M (l_lo M i))))) (va_runV (As := [.int (nI i), .int 1]) (rest := []) ⟨hx, hb, hml, hown, hts⟩ (c_X3_votes l E q P9 (mkS (m_ni M) (m_wa (mix9 M (l_lo M i))) (m_un M) (m_ns M) (m_np M) (m_nw M) (m_ng (mix9 M (l_lo M i))) (m_ma M) (m_st (mix9 M (l_lo M i))) (upd (m_ou (mix9 M (l_lo M i))) i (((m_ou (mix9 M (l_lo M i))) i) + 1)) (m_ru (mix9 M (l_lo M i))) (m_so M) (m_mt M) (m_vo M) (m_gi M) (m_ca (mix9 M (l_lo M i))) (m_tr M) (m_sw (mix9 M (l_lo M i))) (m_ss (mix9 M (l_lo M i))) (m_sg (mix9 M (l_lo M i)))) i true ((MOK_lo hM0 i)) _) (cwV 2 hts gX3_pass_X3_votes rfl rfl rfl ⟨rfl, hd_X3_votes⟩ ⟨Nat.le_of_ble_eq_true rfl, Nat.le_of_ble_eq_true rfl⟩) (pwV (ci := 3) (q0 := 0) (C := RX3) hw hK rfl rfl rfl (rpS (AV := [.ref q, .int (nI i), .int 1]) hw hK hG rp_73)) rfl rfl hl.1 rfl (lv_room (Nat.le_of_ble_eq_true rfl)) dX3_pass_313 ⟨(show 21 + 21 * i + 0 ≤ 126 by omega), (show 420 + 420 * i + 0 ≤ 2520 by omega)⟩) hw hA rp_73 (fun H locs hw => ?_)
          refine lv_iconst (v := 2) hx hb dX3_pass_316 (by decide) ?_
          refine lv_imul hx hb dX3_pass_317 ?_
          refine lv_aload_n hx hb dX3_pass_318 rfl (lv_at hl 0 rfl) ?_
          refine lv_iload_n hx hb dX3_pass_319 rfl (lv_at hl 2 rfl) ?_
          refine lv_iconst (v := 0) hx hb dX3_pass_320 (by decide) ?_
          refine kr_i (ws' := wS E q P9 (mkS (m_ni M) (m_wa (mix9 M (l_lo M i))) (m_un M) (m_ns M) (m_np M) (m_nw M) (m_ng (mix9 M (l_lo M i))) (m_ma M) (m_st (mix9 M (l_lo M i))) (upd (m_ou (mix9 M (l_lo M i))) i (((m_ou (mix9 M (l_lo M i))) i) + 1)) (m_ru (mix9 M (l_lo M i))) (m_so M) (m_mt M) (m_vo M) (m_gi M) (m_ca (mix9 M (l_lo M i))) (m_tr M) (m_sw (mix9 M (l_lo M i))) (m_ss (mix9 M (l_lo M i))) (m_sg (mix9 M (l_lo M i))))) (va_runV (As := [.int (nI i), .int 0]) (rest := [.int ((l_vot (m_so M) (m_vo M) (m_gi M) i true (m_np M)) * 2)]) ⟨hx, hb, hml, hown, hts⟩ (c_X3_votes l E q P9 (mkS (m_ni M) (m_wa (mix9 M (l_lo M i))) (m_un M) (m_ns M) (m_np M) (m_nw M) (m_ng (mix9 M (l_lo M i))) (m_ma M) (m_st (mix9 M (l_lo M i))) (upd (m_ou (mix9 M (l_lo M i))) i (((m_ou (mix9 M (l_lo M i))) i) + 1)) (m_ru (mix9 M (l_lo M i))) (m_so M) (m_mt M) (m_vo M) (m_gi M) (m_ca (mix9 M (l_lo M i))) (m_tr M) (m_sw (mix9 M (l_lo M i))) (m_ss (mix9 M (l_lo M i))) (m_sg (mix9 M (l_lo M i)))) i false ((MOK_lo hM0 i)) _) (cwV 2 hts gX3_pass_X3_votes rfl rfl rfl ⟨rfl, hd_X3_votes⟩ ⟨Nat.le_of_ble_eq_true rfl, Nat.le_of_ble_eq_true rfl⟩) (pwV (ci := 3) (q0 := 0) (C := RX3) hw hK rfl rfl rfl (rpS (AV := [.ref q, .int (nI i), .int 0]) hw hK hG rp_73)) rfl rfl hl.1 rfl (lv_room (Nat.le_of_ble_eq_true rfl)) dX3_pass_321 ⟨(show 21 + 21 * i + 0 ≤ 126 by omega), (show 420 + 420 * i + 0 ≤ 2520 by omega)⟩) hw hA rp_73 (fun H locs hw => ?_)
          refine lv_icmp_gt (tgt := 330) hx hb dX3_pass_324 (by decide) (fun c_4 => ?_) (fun c_4 => ?_)
          · have c_4 : (l_vot (m_so M) (m_vo M) (m_gi M) i false (m_np M) : Int32) < (l_vot (m_so M) (m_vo M) (m_gi M) i true (m_np M)) * 2 := c_4
            refine lv_aload_n hx hb dX3_pass_330 rfl (lv_at hl 0 rfl) ?_
            refine k_get (ci := 3) (v := .ref (P9.1 1)) (C := RX3) (T := TX3) (N := 7) hx hb hown hK hw hts hinX3 0 rfl rfl 3 (by decide) hf9 rfl dX3_pass_331 ?_
            refine lv_iload_n hx hb dX3_pass_334 rfl (lv_at hl 2 rfl) ?_
            refine k_qld (i := i) (y := P9.2.1 i) (n := m_ns M) hx hb hK hw 1 rfl (show i < m_ns M from by omega) (show m_ns M < 2 ^ 31 by omega) rfl dX3_pass_335 ?_
            refine lv_iconst (v := 1) hx hb dX3_pass_336 (by decide) ?_
            refine lv_iconst (v := 2) hx hb dX3_pass_337 (by decide) ?_
            refine k_istP (i := 1) (ws' := wS E q P9 (mkS (m_ni M) (m_wa (mix9 M (l_lo M i))) (m_un M) (m_ns M) (m_np M) (m_nw M) (m_ng (mix9 M (l_lo M i))) (m_ma M) (upd (m_st (mix9 M (l_lo M i))) i 2) (upd (m_ou (mix9 M (l_lo M i))) i (((m_ou (mix9 M (l_lo M i))) i) + 1)) (m_ru (mix9 M (l_lo M i))) (m_so M) (m_mt M) (m_vo M) (m_gi M) (m_ca (mix9 M (l_lo M i))) (m_tr M) (m_sw (mix9 M (l_lo M i))) (m_ss (mix9 M (l_lo M i))) (m_sg (mix9 M (l_lo M i))))) hx hb hK hw (Pk_st 2 (i := i) (show i < m_ns M from by omega)) (by decide) (by decide) dX3_pass_338 (fun H locs hw => ?_)
            refine lv_aload_n hx hb dX3_pass_339 rfl (lv_at hl 0 rfl) ?_
            refine lv_iload_n hx hb dX3_pass_340 rfl (lv_at hl 2 rfl) ?_
            have hn341 : Rn (wS E q P9 (mkS (m_ni M) (m_wa (mix9 M (l_lo M i))) (m_un M) (m_ns M) (m_np M) (m_nw M) (m_ng (mix9 M (l_lo M i))) (m_ma M) (upd (m_st (mix9 M (l_lo M i))) i 2) (upd (m_ou (mix9 M (l_lo M i))) i (((m_ou (mix9 M (l_lo M i))) i) + 1)) (m_ru (mix9 M (l_lo M i))) (m_so M) (m_mt M) (m_vo M) (m_gi M) (m_ca (mix9 M (l_lo M i))) (m_tr M) (m_sw (mix9 M (l_lo M i))) (m_ss (mix9 M (l_lo M i))) (m_sg (mix9 M (l_lo M i))))) (wS E q P9 (mkS (m_ni M) (m_wa (mix9 M (l_lo M i))) (m_un M) (m_ns M) (m_np M) (m_nw M) (m_ng (mix9 M (l_lo M i))) (m_ma M) (upd (m_st (mix9 M (l_lo M i))) i 2) (upd (m_ou (mix9 M (l_lo M i))) i (((m_ou (mix9 M (l_lo M i))) i) + 1)) (m_ru (mix9 M (l_lo M i))) (m_so M) (m_mt M) (m_vo M) (m_gi M) (m_ca (mix9 M (l_lo M i))) (m_tr M) (m_sw (mix9 M (l_lo M i))) (m_ss (mix9 M (l_lo M i))) (m_sg (mix9 M (l_lo M i))))) (([] : va_W)) := perm9 (fun a => by simp only [cnt9_app, cnt9_cons, cnt9_nil] <;> omega)
            refine kr_new (va_runV (As := [.int (nI i)]) (rest := []) ⟨hx, hb, hml, hown, hts⟩ (c_X3_ends l E q P9 (mkS (m_ni M) (m_wa (mix9 M (l_lo M i))) (m_un M) (m_ns M) (m_np M) (m_nw M) (m_ng (mix9 M (l_lo M i))) (m_ma M) (upd (m_st (mix9 M (l_lo M i))) i 2) (upd (m_ou (mix9 M (l_lo M i))) i (((m_ou (mix9 M (l_lo M i))) i) + 1)) (m_ru (mix9 M (l_lo M i))) (m_so M) (m_mt M) (m_vo M) (m_gi M) (m_ca (mix9 M (l_lo M i))) (m_tr M) (m_sw (mix9 M (l_lo M i))) (m_ss (mix9 M (l_lo M i))) (m_sg (mix9 M (l_lo M i)))) i ((lo3_MOK i (MOK_lo hM0 i))) ((show i < m_ns M by omega)) _) (cwV 1 hts gX3_pass_X3_ends rfl rfl rfl ⟨rfl, hd_X3_ends⟩ ⟨Nat.le_of_ble_eq_true rfl, Nat.le_of_ble_eq_true rfl⟩) (pwV (ci := 3) (q0 := 0) (C := RX3) hw hK rfl rfl rfl (rpS (AV := [.ref q, .int (nI i)]) hw hK hG hn341.rp)) rfl rfl hl.1 rfl (lv_room (Nat.le_of_ble_eq_true rfl)) dX3_pass_341 ⟨(show 21 + 21 * i + 21 ≤ 126 by omega), (show 420 + 420 * i + 420 ≤ 2520 by omega)⟩) hw hA hn341 (fun u_5 H locs _ hw => ?_)
            have hw : Wd E A9 s9.heap (wS E q u_5 (f_ends (mkS (m_ni M) (m_wa (mix9 M (l_lo M i))) (m_un M) (m_ns M) (m_np M) (m_nw M) (m_ng (mix9 M (l_lo M i))) (m_ma M) (upd (m_st (mix9 M (l_lo M i))) i 2) (upd (m_ou (mix9 M (l_lo M i))) i (((m_ou (mix9 M (l_lo M i))) i) + 1)) (m_ru (mix9 M (l_lo M i))) (m_so M) (m_mt M) (m_vo M) (m_gi M) (m_ca (mix9 M (l_lo M i))) (m_tr M) (m_sw (mix9 M (l_lo M i))) (m_ss (mix9 M (l_lo M i))) (m_sg (mix9 M (l_lo M i)))) i)) H _ := Wd.perm hw (perm9 (fun a => by simp only [cnt9_app, cnt9_cons, cnt9_nil] <;> omega))
            refine lv_iinc (v := nI (i + 1)) (lv' := [(2, .int (nI (i + 1))), (0, .ref q), (1, .int N)]) hx hb dX3_pass_344 hl (k := 2) rfl (nI_add i 1) (by decide) rfl (fun ls hl => ?_)
            refine lv_goto (tgt := 261) hx hb dX3_pass_347 (by decide) ?_
            refine W.widen (k := 21 + 21 * (i + 1)) (n := 420 + 420 * (i + 1)) (show 21 + 21 * i + 21 ≤ 21 + 21 * (i + 1) by omega) (show 420 + 420 * i + 420 ≤ 420 + 420 * (i + 1) by omega) ?_
            exact ih_261 (i + 1) _ _ _ _ (by omega) (hw.to (by first | exact wS_eq ((lo1_a c_4).trans (mix_lo hM0 i).symm) | exact wS_eq ((lo1_b c_3 c_4).trans (mix_lo hM0 i).symm) | exact wS_eq ((lo1_c c_2 c_3 c_4).trans (mix_lo hM0 i).symm) | exact wS_eq ((lo1_d c_2 c_3 c_4).trans (mix_lo hM0 i).symm))) (lv_sub hl [1, 2, 0] rfl)
          · have c_4 : ¬ (l_vot (m_so M) (m_vo M) (m_gi M) i false (m_np M) : Int32) < (l_vot (m_so M) (m_vo M) (m_gi M) i true (m_np M)) * 2 := c_4
            refine lv_goto (tgt := 344) hx hb dX3_pass_327 (by decide) ?_
            refine lv_iinc (v := nI (i + 1)) (lv' := [(2, .int (nI (i + 1))), (0, .ref q), (1, .int N)]) hx hb dX3_pass_344 hl (k := 2) rfl (nI_add i 1) (by decide) rfl (fun ls hl => ?_)
            refine lv_goto (tgt := 261) hx hb dX3_pass_347 (by decide) ?_
            refine W.widen (k := 21 + 21 * (i + 1)) (n := 420 + 420 * (i + 1)) (show 21 + 21 * i ≤ 21 + 21 * (i + 1) by omega) (show 420 + 420 * i ≤ 420 + 420 * (i + 1) by omega) ?_
            exact ih_261 (i + 1) _ _ _ _ (by omega) (hw.to (by first | exact wS_eq ((lo1_a c_4).trans (mix_lo hM0 i).symm) | exact wS_eq ((lo1_b c_3 c_4).trans (mix_lo hM0 i).symm) | exact wS_eq ((lo1_c c_2 c_3 c_4).trans (mix_lo hM0 i).symm) | exact wS_eq ((lo1_d c_2 c_3 c_4).trans (mix_lo hM0 i).symm))) (lv_sub hl [1, 2, 0] rfl)
      · have c_2 : ¬ ((m_st (mix9 M (l_lo M i))) i : Int32) = 1 := c_2
        refine lv_goto (tgt := 344) hx hb dX3_pass_282 (by decide) ?_
        refine lv_iinc (v := nI (i + 1)) (lv' := [(2, .int (nI (i + 1))), (0, .ref q), (1, .int N)]) hx hb dX3_pass_344 hl (k := 2) rfl (nI_add i 1) (by decide) rfl (fun ls hl => ?_)
        refine lv_goto (tgt := 261) hx hb dX3_pass_347 (by decide) ?_
        refine W.widen (k := 21 + 21 * (i + 1)) (n := 420 + 420 * (i + 1)) (show 21 + 21 * i ≤ 21 + 21 * (i + 1) by omega) (show 420 + 420 * i ≤ 420 + 420 * (i + 1) by omega) ?_
        exact ih_261 (i + 1) _ _ _ _ (by omega) (hw.to (by first | exact wS_eq ((lo1_a c_2).trans (mix_lo hM0 i).symm) | exact wS_eq ((lo1_b CP c_2).trans (mix_lo hM0 i).symm) | exact wS_eq ((lo1_c CQ CP c_2).trans (mix_lo hM0 i).symm) | exact wS_eq ((lo1_d CQ CP c_2).trans (mix_lo hM0 i).symm))) (lv_sub hl [1, 2, 0] rfl)
  exact L_261 ((m_ns M) - 0) 0 _ _ _ _ (by omega) hw (lv_sub hl [1, 2, 0] rfl)
