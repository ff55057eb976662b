set_option maxHeartbeats 8000000 in
set_option maxRecDepth 100000 in
theorem whole_start {p : Program} {e : Env} {s : State} {m : MethodId} {below : List Frame} {meth : Method} {c : Code} (l : Launch) (hflags : l.flags = flags0) {b L : Nat} {xs : Nat → Int32} (hL : L ≤ 260) (C0 : lw_At p s m meth c b L xs) : W p l e room_1 s m #[Value.ref b] below meth c s.heap [] 0 0 (lw_Z below #[Value.ref b] s) (entryFrame m ([Value.ref b] : List Value).toArray 29) := by
  obtain ⟨hx, hb, hr, hml, hown0, hts0, hX, hbl, hlocks, hgv⟩ := id C0
  have hts : ∀ w ∈ wsL_law, w.before #[Value.ref b] s = true := fun w h => hts0 w (wsL_law_in w h)
  have hown : s.vm.findClass RL = some m.cls := hown0
  have hA : ∀ q, s.heap.size ≤ q → aL s q := fun _ h => h
  have hbA : ¬ aL s b := Nat.not_le.mpr hbl
  have hG := Gx_start hts0 hgv
  have hZ := Zx_start hts0 hgv
  obtain ⟨E, hK⟩ := K_start hts0
  have hft : l.stackTraces = false := by rw [Launch.stackTraces, hflags]; decide
  have hw : Wd E (aL s) s.heap [] s.heap [] := ⟨fun k q h => by simp at h, ⟨fun i j p q h => by simp at h, fun k q h => by simp at h⟩, va_S.rf⟩
  have hl := lv_entry ([.ref b]) (n := 29) (Nat.le_of_ble_eq_true rfl)
  rw [lg_entry_eq]
  generalize (lg_sl ([.ref b]) ++ List.replicate (29 - (lg_sl ([.ref b])).length) Slot.unset).toArray = ls at hl ⊢
  have hl : lv_has ls 29 [(0, .ref b)] := hl
  refine k_new (ci := 2) (fs := [.null, .null, .null]) (C := RX2) (T := TX2) (N := 3) hx hb hown hK hw hA hts0 wsX20_in tyX2 tyX2_ok (hts0 (.classLink RL 33 RX2) (by decide +kernel)) (hts0 (.instantiable RX2 3) (by decide +kernel)) (hts0 (.initialized RX2) (by decide +kernel)) rfl (fun j hj => by rcases (show j = 0 ∨ j = 1 ∨ j = 2 by omega) with rfl | rfl | rfl <;> rfl) (Nat.le_of_ble_eq_true rfl) (Nat.le_of_ble_eq_true rfl) dL_law_0 (fun q0 H hw => ?_)
  have hw : Wd E (aL s) s.heap ([(q0, .inr (2, [.null, .null, .null]))]) H _ := hw
  refine lv_dup hx hb dL_law_3 rfl ?_
  have hn4 : Rn ([(q0, .inr (2, [.null, .null, .null]))]) ([(q0, .inr (2, [.null, .null, .null]))]) ([]) := perm9 (fun a => by simp only [cnt9_app, cnt9_cons, cnt9_nil] <;> omega)
  refine kr_new (va_runI (As := []) (rest := [.ref q0]) ⟨hx, hb, hml, hown, hts⟩ (c_X2_init l E q0 _) (cwI 0 hts gL_law_X2_init rfl rfl rfl (hts0 (.initialized RX2) (by decide +kernel)) (hts0 (.methodLink RL 104 yX2_init) (by decide +kernel)) (hts0 (.instanceMethod yX2_init) (by decide +kernel)) rfl (by decide +kernel) ⟨Nat.le_of_ble_eq_true rfl, Nat.le_of_ble_eq_true rfl⟩) (rpS (AV := [.ref q0]) hw hK hG hn4.rp) rfl rfl hl.1 rfl (lv_room (Nat.le_of_ble_eq_true rfl)) dL_law_4 ⟨Nat.le_of_ble_eq_true rfl, Nat.le_of_ble_eq_true rfl⟩) hw hA hn4 (fun u H locs _ hw4 => ?_)
  obtain ⟨A, T, B⟩ := u
  have hw : Wd E (aL s) s.heap (wX q0 A T B ++ wC E A (B 0) S0 ++ wC E T (B 0) S0 ++ wG E B G0) H _ := Wd.perm hw4 (perm9 (fun a => by simp only [cnt9_app, cnt9_cons, cnt9_nil] <;> omega))
  refine lv_astore_n (lv' := [(1, .ref q0), (0, .ref b)]) hx hb dL_law_7 rfl hl (by decide) rfl (fun ls hl => ?_)
  refine lv_aload_n hx hb dL_law_8 rfl (lv_at hl 0 rfl) ?_
  refine lv_aload_n hx hb dL_law_9 rfl (lv_at hl 1 rfl) ?_
  refine kr_B (W2 := fun u q => wAct E q0 q A T B S0 u) (post := okA 1000) (va_runS (As := [.ref q0, .ref b]) (rest := []) ⟨hx, hb, hml, hown, hts⟩ (c_L_build l hft E b L xs hL q0 A T B S0 _) (va_cwS 2 hts gL_law_L_build rfl rfl rfl hd_L_build ⟨Nat.le_of_ble_eq_true rfl, Nat.le_of_ble_eq_true rfl⟩) (rpXZ (AV := [.ref q0, .ref b]) hw hK hG hZ hA hX hbl hbA rp_all) rfl rfl hl.1 rfl (lv_room (Nat.le_of_ble_eq_true rfl)) dL_law_10 ⟨Nat.le_of_ble_eq_true rfl, Nat.le_of_ble_eq_true rfl⟩) hw hA rn_all (fun u q H locs hu hw => ?_)
  obtain ⟨P, S, G, y_ni, y_wa, y_un, y_ns, y_np, y_nw, y_ng, y_ma, y_st, y_ou, y_ru, y_so, y_mt, y_vo, y_gi, y_ca, y_tr, y_sw, y_ss, y_sg⟩ := u
  obtain ⟨h9, h90⟩ := hu
  have h9 : RR 1000 G S (mkS y_ni y_wa y_un y_ns y_np y_nw y_ng y_ma y_st y_ou y_ru y_so y_mt y_vo y_gi y_ca y_tr y_sw y_ss y_sg) := h9
  have h90 : 0 < y_ns := h90
  have hw : Wd E (aL s) s.heap (wX q0 A T B ++ wC E A (B 0) S ++ wC E T (B 0) S0 ++ wG E B G ++ wS E q P (mkS y_ni y_wa y_un y_ns y_np y_nw y_ng y_ma y_st y_ou y_ru y_so y_mt y_vo y_gi y_ca y_tr y_sw y_ss y_sg)) H locs := by
    have hw : Wd E (aL s) s.heap (wAct E q0 q A T B S0 (P, S, G, (mkS y_ni y_wa y_un y_ns y_np y_nw y_ng y_ma y_st y_ou y_ru y_so y_mt y_vo y_gi y_ca y_tr y_sw y_ss y_sg)) ++ []) H locs := hw
    rw [List.append_nil] at hw; exact hw
  refine lv_astore_n (lv' := [(2, .ref q), (1, .ref q0), (0, .ref b)]) hx hb dL_law_13 rfl hl (by decide) rfl (fun ls hl => ?_)
  refine lv_aload_n hx hb dL_law_14 rfl (lv_at hl 0 rfl) ?_
  refine lv_ifnonnull (tgt := 20) hx hb dL_law_15 (by decide) ?_
  refine lv_iconst (v := 0) hx hb dL_law_20 (by decide) ?_
  refine lv_istore_n (lv' := [(3, .int 0), (2, .ref q), (1, .ref q0), (0, .ref b)]) hx hb dL_law_21 rfl hl (by decide) rfl (fun ls hl => ?_)
  refine W.widen (k := 3000) (n := 30000) (Nat.le_of_ble_eq_true rfl) (Nat.le_of_ble_eq_true rfl) ?_
  refine l_22 C0 hft E hK hG hZ hL q0 A T B q 138000 21000 354000 rfl rfl rfl 12 0 S S0 G P y_ni y_wa y_un y_ns y_np y_nw y_ng y_ma y_st y_ou y_ru y_so y_mt y_vo y_gi y_ca y_tr y_sw y_ss y_sg 1000 h9 h90 (by omega) (Nat.le_of_ble_eq_true rfl) 3000 30000 (Nat.le_of_ble_eq_true rfl) (Nat.le_of_ble_eq_true rfl) H _ ls hw ?_
  rw [nI_0]
  exact lv_sub hl [3, 2, 1, 0] rfl
