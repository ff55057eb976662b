/-! ===== the law, from its entry ===== -/
theorem rn_all {ws : va_W} : Rn ws ws [] := by
  rw [Rn, List.append_nil]
set_option maxHeartbeats 8000000 in
set_option maxRecDepth 100000 in
theorem l_45 {p9 : Program} {l : Launch} {e : Env} {s9 : State} {m : MethodId} {below : List Frame} {meth : Method} {c : Code} {b L : Nat} {xs : Nat → Int32} (C0 : lw_At p9 s9 m meth c b L xs) (hflags : l.stackTraces = false) (E : Ev) (hK : va_K E.1 vwCl (tysE E) s9) (hG : Gx s9) (hZ : Zx (aL s9) s9 s9.heap) {Q : State → Prop} (x : Nat) (A T B : Nat → Nat) (q t : Nat) (z : Int32) (Bf cF sF : Nat) (hBf : Bf < 2 ^ 27) (hcF : cF ≤ 600130) (hsF : sF ≤ 7301080) (KB KC KS : Nat) (hKB : KB = 31000) (hKC : KC = 4000) (hKS : KS = 76000) (fin : ∀ (S U : CS) (G : HS) (P : AP) (v_ni v_wa v_un : Int32) (v_ns v_np v_nw v_ng : Nat) (v_ma v_st v_ou v_ru : Fn) (v_so : FnN) (v_mt v_vo v_gi v_ca v_tr : Fn) (v_sw v_ss : FnN) (v_sg : Fn) (H : Heap) (locs : List Loc) (ls : Array Slot), RR Bf G S (mkS v_ni v_wa v_un v_ns v_np v_nw v_ng v_ma v_st v_ou v_ru v_so v_mt v_vo v_gi v_ca v_tr v_sw v_ss v_sg) → 0 < v_ns → Wd E (aL s9) s9.heap (wX x A T B ++ wC E A (B 0) S ++ wC E T (B 0) U ++ wG E B G ++ wS E q P (mkS v_ni v_wa v_un v_ns v_np v_nw v_ng v_ma v_st v_ou v_ru v_so v_mt v_vo v_gi v_ca v_tr v_sw v_ss v_sg)) H locs → lv_has ls 29 [(0, .ref b), (1, .ref x), (2, .ref q), (3, .int (nI t)), (4, .int z)] → W p9 l e room_1 s9 m #[Value.ref b] below meth c H locs cF sF Q (F0 m 80 ls [])) : ∀ (n k : Nat) (S U : CS) (G : HS) (P : AP) (v_ni v_wa v_un : Int32) (v_ns v_np v_nw v_ng : Nat) (v_ma v_st v_ou v_ru : Fn) (v_so : FnN) (v_mt v_vo v_gi v_ca v_tr : Fn) (v_sw v_ss : FnN) (v_sg : Fn) (Bd : Nat), RR Bd G S (mkS v_ni v_wa v_un v_ns v_np v_nw v_ng v_ma v_st v_ou v_ru v_so v_mt v_vo v_gi v_ca v_tr v_sw v_ss v_sg) → 0 < v_ns → Bd + KB * n ≤ Bf → k + n = 4 → ∀ (cells slots : Nat), cells + KC * n ≤ cF → slots + KS * n ≤ sF → ∀ (H : Heap) (locs : List Loc) (ls : Array Slot), Wd E (aL s9) s9.heap (wX x A T B ++ wC E A (B 0) S ++ wC E T (B 0) U ++ wG E B G ++ wS E q P (mkS v_ni v_wa v_un v_ns v_np v_nw v_ng v_ma v_st v_ou v_ru v_so v_mt v_vo v_gi v_ca v_tr v_sw v_ss v_sg)) H locs → lv_has ls 29 [(0, .ref b), (1, .ref x), (2, .ref q), (3, .int (nI t)), (4, .int z), (5, .int (nI k))] → W p9 l e room_1 s9 m #[Value.ref b] below meth c H locs cells slots Q (F0 m 45 ls []) := by
  obtain ⟨hx, hb, hr, hml, hown, hts0, hX, hbl, hlocks, hgv⟩ := id C0
  have hts : ∀ w ∈ wsL_law, w.before #[Value.ref b] s9 = true := fun w h => hts0 w (wsL_law_in w h)
  have hown : s9.vm.findClass RL = some m.cls := hown
  have hA : ∀ q, s9.heap.size ≤ q → aL s9 q := fun _ h => h
  intro n
  induction n with
  | zero =>
    intro k S U G P v_ni v_wa v_un v_ns v_np v_nw v_ng v_ma v_st v_ou v_ru v_so v_mt v_vo v_gi v_ca v_tr v_sw v_ss v_sg Bd h h0s hB hk cells slots hc hs H locs ls hw hl
    rw [Nat.mul_zero] at hB hc hs
    refine lv_iload hx hb dL_law_45 (lv_at hl 5 rfl) ?_
    refine lv_iconst (v := 4) hx hb dL_law_47 (by decide) ?_
    refine lv_icmp_ge (tgt := 80) hx hb dL_law_48 (by decide) (fun _ => ?_) (fun q8 => absurd (show (4 : Int32) ≤ nI k from nI_le (a := 4) (by omega) (by omega)) q8)
    refine W.widen (k := cF) (n := sF) (by omega) (by omega) ?_
    exact fin S U G P v_ni v_wa v_un v_ns v_np v_nw v_ng v_ma v_st v_ou v_ru v_so v_mt v_vo v_gi v_ca v_tr v_sw v_ss v_sg H locs ls (RR_le h (by omega)) h0s hw (lv_sub hl [0, 1, 2, 3, 4] rfl)
  | succ n ih =>
    intro k S U G P v_ni v_wa v_un v_ns v_np v_nw v_ng v_ma v_st v_ou v_ru v_so v_mt v_vo v_gi v_ca v_tr v_sw v_ss v_sg Bd h h0s hB hk cells slots hc hs H locs ls hw hl
    rw [Nat.mul_succ] at hB hc hs
    refine lv_iload hx hb dL_law_45 (lv_at hl 5 rfl) ?_
    refine lv_iconst (v := 4) hx hb dL_law_47 (by decide) ?_
    refine lv_icmp_ge (tgt := 80) hx hb dL_law_48 (by decide) (fun q8 => absurd q8 (show ¬ (4 : Int32) ≤ nI k from nI_ge (b := 4) (by omega) (by omega))) (fun _ => ?_)
    refine lv_aload_n hx hb dL_law_51 rfl (lv_at hl 1 rfl) ?_
    refine lv_aload_n hx hb dL_law_52 rfl (lv_at hl 2 rfl) ?_
    refine lv_iload hx hb dL_law_53 (lv_at hl 4 rfl) ?_
    refine lv_iconst (v := 3) hx hb dL_law_55 (by decide) ?_
    refine lv_iload hx hb dL_law_56 (lv_at hl 5 rfl) ?_
    refine k_imulN (a := 3) (b := k) hx hb dL_law_58 ?_
    refine lv_ishr hx hb dL_law_59 ?_
    refine lv_bipush (v := 29) hx hb dL_law_60 (by decide) ?_
    refine lv_iload hx hb dL_law_62 (lv_at hl 5 rfl) ?_
    refine k_imulN (a := 29) (b := k) hx hb dL_law_64 ?_
    refine lv_iadd hx hb dL_law_65 ?_
    have hcc0 : cells + 4000 ≤ 600130 := by omega
    have hss0 : slots + 76000 ≤ 7301080 := by omega
    refine krx_A (W1 := wAct E x q A T B U) (post := okA (Bd + 31000)) (vx_runSX (As := [.ref x, .ref q, .int (z >>> (nI (3 * k) &&& 31) + nI (29 * k))]) (rest := []) ⟨hx, hb, hml, hown, hts⟩ (c_L_act l hflags E x A T B S U G q P v_ni v_wa v_un v_ns v_np v_nw v_ng v_ma v_st v_ou v_ru v_so v_mt v_vo v_gi v_ca v_tr v_sw v_ss v_sg (z >>> (nI (3 * k) &&& 31) + nI (29 * k)) Bd (by omega) h h0s _) (vx_cwSW 3 hts gL_law_L_act rfl rfl rfl hd_L_act ⟨Nat.le_of_ble_eq_true rfl, Nat.le_of_ble_eq_true rfl⟩) (rpX (AV := [.ref x, .ref q, .int (z >>> (nI (3 * k) &&& 31) + nI (29 * k))]) hw hK hG hZ hA rp_all) rfl rfl hl.1 rfl (lv_room (Nat.le_of_ble_eq_true rfl)) dL_law_66 ⟨hcc0, hss0⟩) hw hA rn_all (fun u H locs hu hw => ?_)
    obtain ⟨P9, S9, G9, y_ni, y_wa, y_un, y_ns, y_np, y_nw, y_ng, y_ma, y_st, y_ou, y_ru, y_so, y_mt, y_vo, y_gi, y_ca, y_tr, y_sw, y_ss, y_sg⟩ := u
    have hw : Wd E (aL s9) s9.heap (wX x A T B ++ wC E A (B 0) S9 ++ wC E T (B 0) U ++ wG E B G9 ++ wS E q P9 (mkS y_ni y_wa y_un y_ns y_np y_nw y_ng y_ma y_st y_ou y_ru y_so y_mt y_vo y_gi y_ca y_tr y_sw y_ss y_sg)) H locs := by
      rw [List.append_nil] at hw; exact hw
    obtain ⟨h9, h90⟩ := hu
    have h9 : RR (Bd + 31000) G9 S9 (mkS y_ni y_wa y_un y_ns y_np y_nw y_ng y_ma y_st y_ou y_ru y_so y_mt y_vo y_gi y_ca y_tr y_sw y_ss y_sg) := h9
    have h90 : 0 < y_ns := h90
    refine lv_if_ne (tgt := 74) hx hb dL_law_69 (by decide) (fun _ => ?_) (fun q8 => absurd q8 (by decide))
    refine lv_iinc (v := nI (k + 1)) (lv' := [(5, .int (nI (k + 1))), (0, .ref b), (1, .ref x), (2, .ref q), (3, .int (nI t)), (4, .int z)]) hx hb dL_law_74 hl (k := 5) rfl (nI_add k 1) (by decide) rfl (fun ls hl => ?_)
    refine lv_goto (tgt := 45) hx hb dL_law_77 (by decide) ?_
    exact ih (k + 1) S9 U G9 P9 y_ni y_wa y_un y_ns y_np y_nw y_ng y_ma y_st y_ou y_ru y_so y_mt y_vo y_gi y_ca y_tr y_sw y_ss y_sg (Bd + 31000) h9 h90 (by omega) (by omega) (cells + 4000) (slots + 76000) (by omega) (by omega) H locs ls hw (lv_sub hl [1, 2, 3, 4, 5, 0] rfl)
