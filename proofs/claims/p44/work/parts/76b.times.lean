set_option maxHeartbeats 8000000 in
set_option maxRecDepth 100000 in
theorem l_22 {p9 : Program} {l : Launch} {e : Env} {s9 : State} {m : MethodId} {below : List Frame} {meth : Method} {c : Code} {b L : Nat} {xs : Nat → Int32} (C0 : lw_At p9 s9 m meth c b L xs) (hflags : l.stackTraces = false) (E : Ev) (hK : va_K E.1 vwCl (tysE E) s9) (hG : Gx s9) (hZ : Zx (aL s9) s9 s9.heap) (hL : L ≤ 260) (x : Nat) (A T B : Nat → Nat) (q : Nat) (KB KC KS : Nat) (hKB : KB = 138000) (hKC : KC = 21000) (hKS : KS = 354000) : ∀ (n t : Nat) (S U : CS) (G : HS) (P : AP) (v_ni v_wa v_un : Int32) (v_ns v_np v_nw v_ng : Nat) (v_ma v_st v_ou v_ru : Fn) (v_so : FnN) (v_mt v_vo v_gi v_ca v_tr : Fn) (v_sw v_ss : FnN) (v_sg : Fn) (Bd : Nat), RR Bd G S (mkS v_ni v_wa v_un v_ns v_np v_nw v_ng v_ma v_st v_ou v_ru v_so v_mt v_vo v_gi v_ca v_tr v_sw v_ss v_sg) → 0 < v_ns → t + n = 12 → Bd + KB * n ≤ 2000000 → ∀ (cells slots : Nat), cells + KC * n ≤ 300000 → slots + KS * n ≤ 4400000 → ∀ (H : Heap) (locs : List Loc) (ls : Array Slot), Wd E (aL s9) s9.heap (wX x A T B ++ wC E A (B 0) S ++ wC E T (B 0) U ++ wG E B G ++ wS E q P (mkS v_ni v_wa v_un v_ns v_np v_nw v_ng v_ma v_st v_ou v_ru v_so v_mt v_vo v_gi v_ca v_tr v_sw v_ss v_sg)) H locs → lv_has ls 29 [(0, .ref b), (1, .ref x), (2, .ref q), (3, .int (nI t))] → W p9 l e room_1 s9 m #[Value.ref b] below meth c H locs cells slots (lw_Z below #[Value.ref b] s9) (F0 m 22 ls []) := by
  obtain ⟨hx, hb, hr, hml, hown, hts0, hX, hbl, hlocks, hgv⟩ := id C0
  have hts : ∀ w ∈ wsL_law, w.before #[Value.ref b] s9 = true := fun w h => hts0 w (wsL_law_in w h)
  have hown : s9.vm.findClass RL = some m.cls := hown
  have hA : ∀ q, s9.heap.size ≤ q → aL s9 q := fun _ h => h
  intro n
  induction n with
  | zero =>
    intro t S U G P v_ni v_wa v_un v_ns v_np v_nw v_ng v_ma v_st v_ou v_ru v_so v_mt v_vo v_gi v_ca v_tr v_sw v_ss v_sg Bd h h0s hk hB cells slots hc hs H locs ls hw hl
    rw [Nat.mul_zero] at hB hc hs
    refine lv_iload_n hx hb dL_law_22 rfl (lv_at hl 3 rfl) ?_
    refine lv_bipush (v := 12) hx hb dL_law_23 (by decide) ?_
    refine lv_icmp_ge (tgt := 1315) hx hb dL_law_25 (by decide) (fun _ => ?_) (fun q8 => absurd (show (12 : Int32) ≤ nI t from nI_le (a := 12) (by omega) (by omega)) q8)
    exact l_1315 C0 hflags E hK hG hZ x A T B S U G q P v_ni v_wa v_un v_ns v_np v_nw v_ng v_ma v_st v_ou v_ru v_so v_mt v_vo v_gi v_ca v_tr v_sw v_ss v_sg Bd t h cells slots (by omega) (by omega) hw hl
  | succ n ih =>
    intro t S U G P v_ni v_wa v_un v_ns v_np v_nw v_ng v_ma v_st v_ou v_ru v_so v_mt v_vo v_gi v_ca v_tr v_sw v_ss v_sg Bd h h0s hk hB cells slots hc hs H locs ls hw hl
    rw [Nat.mul_succ] at hB hc hs
    obtain ⟨hns, hnp, hnw, hng, hso, hsw⟩ : v_ns ≤ 5 ∧ v_np ≤ 16 ∧ v_nw ≤ 4 ∧ v_ng ≤ 20 ∧ (∀ p, p < v_np → v_so p < v_ns) ∧ ∀ j, j < v_ng → v_sw j < v_nw := RR_MOK h.1
    refine lv_iload_n hx hb dL_law_22 rfl (lv_at hl 3 rfl) ?_
    refine lv_bipush (v := 12) hx hb dL_law_23 (by decide) ?_
    refine lv_icmp_ge (tgt := 1315) hx hb dL_law_25 (by decide) (fun q8 => absurd q8 (show ¬ (12 : Int32) ≤ nI t from nI_ge (b := 12) (by omega) (by omega))) (fun _ => ?_)
    refine lb_28 C0 hflags E hK hG hZ hL x A T B S U G q P v_ni v_wa v_un v_ns v_np v_nw v_ng v_ma v_st v_ou v_ru v_so v_mt v_vo v_gi v_ca v_tr v_sw v_ss v_sg t 0 hns hnp hnw hng hso hsw (by omega) cells slots (by omega) (by omega) (fun H locs ls hw hl => ?_) hw hl
    generalize (f_cell L xs t >>> ((2 : Int32) &&& 31) + nI (53 * t)) = z at hl
    refine lv_iconst (v := 0) hx hb dL_law_42 (by decide) ?_
    refine lv_istore (lv' := [(5, .int 0), (0, .ref b), (1, .ref x), (2, .ref q), (3, .int (nI t)), (4, .int z)]) hx hb dL_law_43 hl (by decide) rfl (fun ls hl => ?_)
    refine l_45 C0 hflags E hK hG hZ x A T B q t z (Bd + 124000) (cells + 16000) (slots + 304000) (by omega) (by omega) (by omega) 31000 4000 76000 rfl rfl rfl (fun S U G P v_ni v_wa v_un v_ns v_np v_nw v_ng v_ma v_st v_ou v_ru v_so v_mt v_vo v_gi v_ca v_tr v_sw v_ss v_sg H locs ls h h0s hw hl => ?_) 4 0 S U G P v_ni v_wa v_un v_ns v_np v_nw v_ng v_ma v_st v_ou v_ru v_so v_mt v_vo v_gi v_ca v_tr v_sw v_ss v_sg Bd h h0s (Nat.le_refl _) (by omega) (cells + 0) (slots + 0) (Nat.le_refl _) (Nat.le_refl _) H locs ls hw ?_
    · refine l_80 C0 hflags E hK hG hZ x A T B G q t z (Bd + 138000) (cells + 21000) (slots + 354000) (by omega) (by omega) (by omega) (fun S2 U P y_ni y_wa y_un y_ns y_np y_nw y_ng y_ma y_st y_ou y_ru y_so y_mt y_vo y_gi y_ca y_tr y_sw y_ss y_sg H locs ls h2 hw hl => ?_) S U P v_ni v_wa v_un v_ns v_np v_nw v_ng v_ma v_st v_ou v_ru v_so v_mt v_vo v_gi v_ca v_tr v_sw v_ss v_sg (Bd + 124000) (by omega) h h0s (cells + 16000) (slots + 304000) (by omega) (by omega) hw hl
      refine lv_iinc (v := nI (t + 1)) (lv' := [(3, .int (nI (t + 1))), (0, .ref b), (1, .ref x), (2, .ref q)]) hx hb dL_law_1309 hl (k := 3) rfl (nI_add t 1) (by decide) rfl (fun ls hl => ?_)
      refine lv_goto (tgt := 22) hx hb dL_law_1312 (by decide) ?_
      have g1 : g_sc G = v_ns := h.1.1.1.1
      have g2 : g_sc G = y_ns := h2.1.1.1.1
      exact ih (t + 1) S2 U G P y_ni y_wa y_un y_ns y_np y_nw y_ng y_ma y_st y_ou y_ru y_so y_mt y_vo y_gi y_ca y_tr y_sw y_ss y_sg (Bd + 138000) h2 (by omega) (by omega) (by omega) (cells + 21000) (slots + 354000) (by omega) (by omega) H locs ls hw (lv_sub hl [1, 2, 3, 0] rfl)
    · rw [nI_0]
      exact lv_sub hl [1, 2, 3, 4, 5, 0] rfl
