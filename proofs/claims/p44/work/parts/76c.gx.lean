set_option maxRecDepth 20000 in
theorem gxn_in : ∀ w ∈ gxn, w ∈ lw_tbl := by decide +kernel
theorem gxn_on : ∀ w ∈ gxn, w.onTables = true := by decide +kernel
set_option maxRecDepth 20000 in
theorem gxs_in : ∀ q ∈ gxs, Cond.stringRef "SailorCandles" q.1 q.2 ∈ lw_tbl := by decide +kernel
theorem arr_of {s : State} {args : Array Value} {ty : FieldType} (h : (Cond.arrayClass ty).before args s = true) : ∃ cA, ArrOfT s cA ty ∧ s.vm.findClass ("[" ++ ty.toString) = some cA := by
  obtain ⟨cA, kA, comp, h1, h2, h3⟩ := Cond.arrayClass_spec h
  exact ⟨cA, fun n z => ⟨fun k h => (by cases h), kA, h2, comp, h3⟩, h1⟩
theorem arr_ofA {s : State} {args : Array Value} (h : (Cond.arrayOver (.array .int)).before args s = true) : ∃ cA, ArrOfT s cA (.array .int) ∧ s.vm.findClass ("[" ++ (FieldType.array .int).toString) = some cA := by
  obtain ⟨comp, cA, kA, -, h2, h3, h4⟩ := Cond.arrayOver_specA h
  exact ⟨cA, fun n z => ⟨fun k h => (by cases h), kA, h2, comp, h3⟩, h4⟩
set_option maxHeartbeats 4000000 in
set_option maxRecDepth 100000 in
theorem Gx_start {s : State} {b : Nat} (hts : ∀ w ∈ lw_tbl, w.before #[Value.ref b] s = true) (hgv : (Jvm.Cond.and given_1 narrow_1).before #[Value.ref b] s = true) : Gx s := by
  have hs := flat_of_before _ hgv
  refine ⟨fun w hw => va_Nw.of (gxn_on w hw) (hts w (gxn_in w hw)), fun q hq => ?_, fun q hq => ?_, over_moved (Vm.Alike.refl _) (hts (.arrayOver (.array .int)) (by decide +kernel))⟩
  · have h1 := hts _ (gxs_in q hq)
    obtain ⟨cC, kC, hfc, hk, hkind, -⟩ := Cond.instantiable_spec (hts (.instantiable "SailorCandles" 3) (by decide +kernel))
    obtain ⟨k, cf, i, a, h2, h3, h4, h5, h6, h7⟩ := Cond.stringRef_spec hfc h1
    exact ⟨a, vk_R.of (A := #[Value.ref b]) h1 h7⟩
  · simp only [gxc, List.mem_cons, List.not_mem_nil, or_false] at hq
    rcases hq with rfl | rfl <;> exact va_Nc.of (hs _ (by decide +kernel))
theorem Zx_start {s : State} {b : Nat} (hts : ∀ w ∈ lw_tbl, w.before #[Value.ref b] s = true) (hgv : (Jvm.Cond.and given_1 narrow_1).before #[Value.ref b] s = true) : Zx (aL s) s s.heap := by
  have hs := flat_of_before _ hgv
  exact ⟨vx_Zqof (hts _ (by decide +kernel)) (hts _ (by decide +kernel)) (hs _ (by decide +kernel)) (fun a h => Nat.not_le.mpr h), vx_Zqof (hts _ (by decide +kernel)) (hts _ (by decide +kernel)) (hs _ (by decide +kernel)) (fun a h => Nat.not_le.mpr h)⟩
theorem K_start {s : State} {b : Nat} (hts : ∀ w ∈ lw_tbl, w.before #[Value.ref b] s = true) : ∃ E : Ev, va_K E.1 vwCl (tysE E) s := by
  obtain ⟨c0, i0, hk0⟩ := u_known (C := RX0) (T := TX0) (N := 10) (n := 10) hts wsX00_in (hts (.instantiable RX0 10) (by decide +kernel))
  obtain ⟨c1, i1, hk1⟩ := u_known (C := RX1) (T := TX1) (N := 8) (n := 8) hts wsX10_in (hts (.instantiable RX1 8) (by decide +kernel))
  obtain ⟨c2, i2, hk2⟩ := u_known (C := RX2) (T := TX2) (N := 3) (n := 3) hts wsX20_in (hts (.instantiable RX2 3) (by decide +kernel))
  obtain ⟨c3, i3, hk3⟩ := u_known (C := RX3) (T := TX3) (N := 7) (n := 7) hts wsX30_in (hts (.instantiable RX3 7) (by decide +kernel))
  obtain ⟨cI, hI1, hI2⟩ := arr_of (hts (.arrayClass .int) (by decide +kernel))
  obtain ⟨cZ, hZ1, hZ2⟩ := arr_of (hts (.arrayClass .boolean) (by decide +kernel))
  obtain ⟨cQ, hQ1, hQ2⟩ := arr_ofA (hts (.arrayOver (.array .int)) (by decide +kernel))
  refine ⟨((fun k => if k = 0 then c0 else if k = 1 then c1 else if k = 2 then c2 else c3, fun k => if k = 0 then i0 else if k = 1 then i1 else if k = 2 then i2 else i3), cI, cZ, cI, cQ), ?_, ?_⟩
  · intro k q hq
    match k, hq with
    | 0, hq => cases hq; exact hk0
    | 1, hq => cases hq; exact hk1
    | 2, hq => cases hq; exact hk2
    | 3, hq => cases hq; exact hk3
    | k + 4, hq => simp [vwCl] at hq
  · intro k q hq
    match k, hq with
    | 0, hq => cases hq; exact ⟨hI1, hI2⟩
    | 1, hq => cases hq; exact ⟨hZ1, hZ2⟩
    | 2, hq => cases hq; exact ⟨hI1, hI2⟩
    | 3, hq => cases hq; exact ⟨hQ1, hQ2⟩
    | k + 4, hq => simp [tysE] at hq
