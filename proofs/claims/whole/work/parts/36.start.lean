/-! ===== the law, from its entry ===== -/
set_option maxRecDepth 20000 in
theorem gxn_in : ∀ w ∈ gxn, w ∈ lw_tbl := by decide +kernel
theorem gxn_on : ∀ w ∈ gxn, w.onTables = true := by decide +kernel
set_option maxRecDepth 20000 in
theorem gxs_in : ∀ q ∈ gxs, Cond.stringRef "SailorCandles" q.1 q.2 ∈ lw_tbl := by decide +kernel
theorem arr_of {s : State} {args : Array Value} {ty : FieldType} (h : (Cond.arrayClass ty).before args s = true) : ∃ cA, ArrOfT s cA ty ∧ s.vm.findClass ("[" ++ ty.toString) = some cA := by
  obtain ⟨cA, kA, comp, h1, h2, h3⟩ := Cond.arrayClass_spec h
  exact ⟨cA, fun n z => ⟨fun k h => (by cases h), kA, h2, comp, h3⟩, h1⟩
set_option maxHeartbeats 4000000 in
set_option maxRecDepth 100000 in
theorem Gx_start {s : State} {b : Nat} (hts : ∀ w ∈ lw_tbl, w.before #[Value.ref b] s = true) (hgv : (Jvm.Cond.and given_1 narrow_1).before #[Value.ref b] s = true) : Gx s := by
  have hs := flat_of_before _ hgv
  refine ⟨fun w hw => va_Nw.of (gxn_on w hw) (hts w (gxn_in w hw)), fun q hq => ?_, fun q hq => ?_⟩
  · have h1 := hts _ (gxs_in q hq)
    obtain ⟨cC, kC, hfc, hk, hkind, -⟩ := Cond.instantiable_spec (hts (.instantiable "SailorCandles" 3) (by decide +kernel))
    obtain ⟨k, cf, i, a, h2, h3, h4, h5, h6, h7⟩ := Cond.stringRef_spec hfc h1
    exact ⟨a, vk_R.of (A := #[Value.ref b]) h1 h7⟩
  · simp only [gxc, List.mem_cons, List.not_mem_nil, or_false] at hq
    rcases hq with rfl | rfl | rfl | rfl | rfl | rfl <;> exact va_Nc.of (hs _ (by decide +kernel))
theorem Zx_start {s : State} {b : Nat} (hts : ∀ w ∈ lw_tbl, w.before #[Value.ref b] s = true) (hgv : (Jvm.Cond.and given_1 narrow_1).before #[Value.ref b] s = true) : Zx (aL s) s s.heap := by
  have hs := flat_of_before _ hgv
  exact ⟨vx_Zqof (hts _ (by decide +kernel)) (hts _ (by decide +kernel)) (hs _ (by decide +kernel)) (fun a h => Nat.not_le.mpr h), vx_Zqof (hts _ (by decide +kernel)) (hts _ (by decide +kernel)) (hs _ (by decide +kernel)) (fun a h => Nat.not_le.mpr h)⟩
theorem K_start {s : State} {b : Nat} (hts : ∀ w ∈ lw_tbl, w.before #[Value.ref b] s = true) : ∃ E : Ev, va_K E.1 vwCl (tysE E) s := by
  obtain ⟨c0, i0, hk0⟩ := u_known (C := RX0) (T := TX0) (N := 10) (n := 10) hts wsX00_in (hts (.instantiable RX0 10) (by decide +kernel))
  obtain ⟨c1, i1, hk1⟩ := u_known (C := RX1) (T := TX1) (N := 8) (n := 8) hts wsX10_in (hts (.instantiable RX1 8) (by decide +kernel))
  obtain ⟨c2, i2, hk2⟩ := u_known (C := RX2) (T := TX2) (N := 3) (n := 3) hts wsX20_in (hts (.instantiable RX2 3) (by decide +kernel))
  obtain ⟨c3, i3, hk3⟩ := u_known (C := RX3) (T := TX3) (N := 10) (n := 10) hts wsX30_in (hts (.instantiable RX3 10) (by decide +kernel))
  obtain ⟨cI, hI1, hI2⟩ := arr_of (hts (.arrayClass .int) (by decide +kernel))
  obtain ⟨cZ, hZ1, hZ2⟩ := arr_of (hts (.arrayClass .boolean) (by decide +kernel))
  obtain ⟨cJ, hJ1, hJ2⟩ := arr_of (hts (.arrayClass .long) (by decide +kernel))
  refine ⟨((fun k => if k = 0 then c0 else if k = 1 then c1 else if k = 2 then c2 else c3, fun k => if k = 0 then i0 else if k = 1 then i1 else if k = 2 then i2 else i3), cI, cZ, cJ), ?_, ?_⟩
  · intro k q hq
    match k, hq with
    | 0, hq => cases hq; exact hk0
    | 1, hq => cases hq; exact hk1
    | 2, hq => cases hq; exact hk2
    | 3, hq => cases hq; exact hk3
    | k + 4, hq => simp [vwCl] at hq
  · intro k q hq
    match k, hq with
    | 0, hq => cases hq; exact ⟨hI1, hI2⟩
    | 1, hq => cases hq; exact ⟨hZ1, hZ2⟩
    | 2, hq => cases hq; exact ⟨hJ1, hJ2⟩
    | k + 3, hq => simp [tysE] at hq
set_option maxHeartbeats 4000000 in
set_option maxRecDepth 100000 in
theorem whole_start {p : Program} {e : Env} {s : State} {m : MethodId} {below : List Frame} {meth : Method} {c : Code} (l : Launch) (hflags : l.flags = flags0) {b L : Nat} {xs : Nat → Int32} (hL : L ≤ 2048) (C0 : lw_At p s m meth c b L xs) : W p l e room_1 s m #[Value.ref b] below meth c s.heap [] 0 0 (lw_Z below #[Value.ref b] s) (entryFrame m ([Value.ref b] : List Value).toArray 9) := by
  obtain ⟨hx, hb, hr, hml, hown0, hts0, hX, hbl, hlocks, hgv⟩ := id C0
  have hts : ∀ w ∈ wsL_law, w.before #[Value.ref b] s = true := fun w h => hts0 w (wsL_law_in w h)
  have hown : s.vm.findClass RL = some m.cls := hown0
  have hA : ∀ q, s.heap.size ≤ q → aL s q := fun _ h => h
  have hG := Gx_start hts0 hgv
  have hZ := Zx_start hts0 hgv
  obtain ⟨E, hK⟩ := K_start hts0
  have hft : l.stackTraces = false := by rw [Launch.stackTraces, hflags]; decide
  have hw : Wd E (aL s) s.heap [] s.heap [] := ⟨fun k q h => by simp at h, ⟨fun i j p q h => by simp at h, fun k q h => by simp at h⟩, va_S.rf⟩
  have hl := lv_entry ([.ref b]) (n := 9) (Nat.le_of_ble_eq_true rfl)
  rw [lg_entry_eq]
  generalize (lg_sl ([.ref b]) ++ List.replicate (9 - (lg_sl ([.ref b])).length) Slot.unset).toArray = ls at hl ⊢
  have hl : lv_has ls 9 [(0, .ref b)] := hl
  refine k_new (ci := 2) (fs := [.null, .null, .null]) (C := RX2) (T := TX2) (N := 3) hx hb hown hK hw hA hts0 wsX20_in tyX2 tyX2_ok (hts0 (.classLink RL 8 RX2) (by decide +kernel)) (hts0 (.instantiable RX2 3) (by decide +kernel)) (hts0 (.initialized RX2) (by decide +kernel)) rfl (fun j hj => by rcases (show j = 0 ∨ j = 1 ∨ j = 2 by omega) with rfl | rfl | rfl <;> rfl) (Nat.le_of_ble_eq_true rfl) (Nat.le_of_ble_eq_true rfl) dL_law_0 (fun q0 H hw => ?_)
  have hw : Wd E (aL s) s.heap ([(q0, .inr (2, [.null, .null, .null]))]) H _ := hw
  refine lv_dup hx hb dL_law_3 rfl ?_
  have hn4 : Rn ([(q0, .inr (2, [.null, .null, .null]))]) ([(q0, .inr (2, [.null, .null, .null]))]) ([]) := perm9 (fun a => by simp only [cnt9_app, cnt9_cons, cnt9_nil] <;> omega)
  refine kr_new (va_runI (As := []) (rest := [.ref q0]) ⟨hx, hb, hml, hown, hts⟩ (c_X2_init l E q0 _) (cwI 0 hts gL_law_X2_init rfl rfl rfl (hts0 (.initialized RX2) (by decide +kernel)) (hts0 (.methodLink RL 108 yX2_init) (by decide +kernel)) (hts0 (.instanceMethod yX2_init) (by decide +kernel)) rfl (by decide +kernel) ⟨Nat.le_of_ble_eq_true rfl, Nat.le_of_ble_eq_true rfl⟩) (rpS (AV := [.ref q0]) hw hK hG hn4.rp) rfl rfl hl.1 rfl (lv_room (Nat.le_of_ble_eq_true rfl)) dL_law_4 ⟨Nat.le_of_ble_eq_true rfl, Nat.le_of_ble_eq_true rfl⟩) hw hA hn4 (fun u H locs _ hw4 => ?_)
  obtain ⟨A, T, B⟩ := u
  have hw : Wd E (aL s) s.heap (wX q0 A T B ++ wC E A (B 0) S0 ++ wC E T (B 0) S0 ++ wG E B G0) H _ := Wd.perm hw4 (perm9 (fun a => by simp only [cnt9_app, cnt9_cons, cnt9_nil] <;> omega))
  refine lv_astore_n (lv' := [(1, .ref q0), (0, .ref b)]) hx hb dL_law_7 rfl hl (by decide) rfl (fun ls hl => ?_)
  refine k_new (ci := 3) (fs := [.int 0, .int 0, .null, .int 0, .null, .null, .null, .int 0, .null, .null]) (C := RX3) (T := TX3) (N := 10) hx hb hown hK hw hA hts0 wsX30_in tyX3 tyX3_ok (hts0 (.classLink RL 109 RX3) (by decide +kernel)) (hts0 (.instantiable RX3 10) (by decide +kernel)) (hts0 (.initialized RX3) (by decide +kernel)) rfl (fun j hj => by rcases (show j = 0 ∨ j = 1 ∨ j = 2 ∨ j = 3 ∨ j = 4 ∨ j = 5 ∨ j = 6 ∨ j = 7 ∨ j = 8 ∨ j = 9 by omega) with rfl | rfl | rfl | rfl | rfl | rfl | rfl | rfl | rfl | rfl <;> rfl) (Nat.le_of_ble_eq_true rfl) (Nat.le_of_ble_eq_true rfl) dL_law_8 (fun q8 H hw => ?_)
  have hw : Wd E (aL s) s.heap (wX q0 A T B ++ wC E A (B 0) S0 ++ wC E T (B 0) S0 ++ wG E B G0 ++ [(q8, .inr (3, [.int 0, .int 0, .null, .int 0, .null, .null, .null, .int 0, .null, .null]))]) H _ := hw
  refine lv_dup hx hb dL_law_11 rfl ?_
  have hn12 : Rn (wX q0 A T B ++ wC E A (B 0) S0 ++ wC E T (B 0) S0 ++ wG E B G0 ++ [(q8, .inr (3, [.int 0, .int 0, .null, .int 0, .null, .null, .null, .int 0, .null, .null]))]) ([(q8, .inr (3, [.int 0, .int 0, .null, .int 0, .null, .null, .null, .int 0, .null, .null]))]) (wX q0 A T B ++ wC E A (B 0) S0 ++ wC E T (B 0) S0 ++ wG E B G0) := perm9 (fun a => by simp only [cnt9_app, cnt9_cons, cnt9_nil] <;> omega)
  refine kr_new (va_runI (As := []) (rest := [.ref q8]) ⟨hx, hb, hml, hown, hts⟩ (c_X3_init l E q8 _) (cwI 0 hts gL_law_X3_init rfl rfl rfl (hts0 (.initialized RX3) (by decide +kernel)) (hts0 (.methodLink RL 111 yX3_init) (by decide +kernel)) (hts0 (.instanceMethod yX3_init) (by decide +kernel)) rfl (by decide +kernel) ⟨Nat.le_of_ble_eq_true rfl, Nat.le_of_ble_eq_true rfl⟩) (rpS (AV := [.ref q8]) hw hK hG hn12.rp) rfl rfl hl.1 rfl (lv_room (Nat.le_of_ble_eq_true rfl)) dL_law_12 ⟨Nat.le_of_ble_eq_true rfl, Nat.le_of_ble_eq_true rfl⟩) hw hA hn12 (fun M H locs hk12 hw12 => ?_)
  have hk12 : q8 = M 0 := hk12.symm
  subst hk12
  have hw : Wd E (aL s) s.heap (wX q0 A T B ++ wC E A (B 0) S0 ++ wC E T (B 0) S0 ++ wG E B G0 ++ wN E M (0, Hb0, a0, fun _ => 0)) H _ := Wd.perm hw12 (perm9 (fun a => by simp only [cnt9_app, cnt9_cons, cnt9_nil] <;> omega))
  refine lv_astore_n (lv' := [(2, .ref (M 0)), (1, .ref q0), (0, .ref b)]) hx hb dL_law_15 rfl hl (by decide) rfl (fun ls hl => ?_)
  refine lv_iconst (v := 1) hx hb dL_law_16 (by decide) ?_
  refine k_newJ (N := 1) hx hb (hts0 (.arrayClass .long) (by decide +kernel)) hK hw hA (by decide) (Nat.le_of_ble_eq_true rfl) (Nat.le_of_ble_eq_true rfl) dL_law_17 (fun o H hw17 => ?_)
  have hw : Wd E (aL s) s.heap (wX q0 A T B ++ wC E A (B 0) S0 ++ wC E T (B 0) S0 ++ wG E B G0 ++ [(o, aJ E 1 (fun _ => 0))] ++ wN E M (0, Hb0, a0, fun _ => 0)) H _ := Wd.perm hw17 (perm9 (fun a => by simp only [cnt9_app, cnt9_cons, cnt9_nil] <;> omega))
  refine lv_astore_n (lv' := [(3, .ref o), (2, .ref (M 0)), (1, .ref q0), (0, .ref b)]) hx hb dL_law_19 rfl hl (by decide) rfl (fun ls hl => ?_)
  refine lv_iconst (v := 0) hx hb dL_law_20 (by decide) ?_
  refine lv_istore (lv' := [(4, .int 0), (3, .ref o), (2, .ref (M 0)), (1, .ref q0), (0, .ref b)]) hx hb dL_law_21 hl (by decide) rfl (fun ls hl => ?_)
  refine W.widen (k := 1000) (n := 1000) (Nat.le_of_ble_eq_true rfl) (Nat.le_of_ble_eq_true rfl) ?_
  exact law_loop C0 hft hL E hK hG hZ q0 o A T B M 513 0 0 rfl (by omega) (by omega) S0 S0 G0 0 Hb0 a0 (fun _ => 0) (fun _ => 0) 1000 1000 INV_0 (by omega) (by omega) H _ ls hw (lv_sub hl [4, 3, 2, 1, 0] rfl)
