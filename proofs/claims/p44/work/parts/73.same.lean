/-! ===== in the end all is as by hand ===== -/
theorem mean_n : ∀ k, k < 37 → ∀ n, n < 5 → 0 < n → vf_n64 (FP.ddiv (FP.i2d (nI k)) (FP.i2d (nI n))) ∧ FP.dcmp (FP.ddiv (FP.i2d (nI k)) (FP.i2d (nI n))) (FP.ddiv (FP.i2d (nI k)) (FP.i2d (nI n))) = some .eq := by unfold vf_n64; decide +kernel
theorem mean_0 : FP.dcmp 0 0 = some .eq := by decide +kernel
theorem sdk_sb (st : Fn) (so : FnN) (ca : Fn) : ∀ n, l_sdk st so ca n = l_sb (fun j => f_sdark st so ca j) n
  | 0 => rfl
  | n + 1 => by
    rw [l_sdk, l_sb, sdk_sb st so ca n]
    cases f_sdark st so ca n
    · rw [if_neg (by decide)]; rfl
    · rw [if_pos rfl]; rfl
theorem nm_sb (st : Fn) (so : FnN) : ∀ n, l_nm st so n = l_sb (fun j => decide (st (so j) = 2)) n
  | 0 => rfl
  | n + 1 => by
    rw [l_nm, l_sb, nm_sb st so n]
    by_cases c : st (so n) = 2
    · rw [if_pos c, decide_eq_true c]; rfl
    · rw [if_neg c, decide_eq_false c]; rfl
section SAME
variable {B : Nat} {G : HS} {S : CS} {v_ni v_wa v_un : Int32} {v_ns v_np v_nw v_ng : Nat} {v_ma v_st v_ou v_ru : Fn} {v_so : FnN} {v_mt v_vo v_gi v_ca v_tr : Fn} {v_sw v_ss : FnN} {v_sg : Fn}
theorem s_dk (h : (RF B G S v_ni v_wa v_un v_ns v_np v_nw v_ng v_ma v_st v_ou v_ru v_so v_mt v_vo v_gi v_ca v_tr v_sw v_ss v_sg)) : ∀ p, p < v_np → f_dark G S (nI p) = f_sdark v_st v_so v_ca p := fun p hp => by
  obtain ⟨b1, b2, b3, b4, b5, b6⟩ := w_b h
  have o := w_so h p (by omega)
  rw [f_dark, f_sdark, w_sh h p (by omega), (w_st h (i := v_so p) (by omega)).1, (a_stv h (s := v_so p) (by omega)).1, fat (show p < 16 by omega) (by omega), h.1.2.2.2.2.1.1 p hp]
theorem s_dark (h : (RF B G S v_ni v_wa v_un v_ns v_np v_nw v_ng v_ma v_st v_ou v_ru v_so v_mt v_vo v_gi v_ca v_tr v_sw v_ss v_sg)) : l_dark G S 16 = l_sdk v_st v_so v_ca v_np := by
  rw [← w_nd h, sdk_sb, (w_b h).2.1]
  exact sb_congr (fun j hj => s_dk h j hj)
theorem s_lost (h : (RF B G S v_ni v_wa v_un v_ns v_np v_nw v_ng v_ma v_st v_ou v_ru v_so v_mt v_vo v_gi v_ca v_tr v_sw v_ss v_sg)) : l_lost G S 16 = l_nm v_st v_so v_np := by
  obtain ⟨b1, b2, b3, b4, b5, b6⟩ := w_b h
  rw [← w_nn h, nm_sb, b2]
  refine sb_congr (fun j hj => ?_)
  have o := w_so h j (by omega)
  rw [(w_st h (i := v_so j) (by omega)).1, (a_stv h (s := v_so j) (by omega)).1]
theorem s_sum (h : (RF B G S v_ni v_wa v_un v_ns v_np v_nw v_ng v_ma v_st v_ou v_ru v_so v_mt v_vo v_gi v_ca v_tr v_sw v_ss v_sg)) : ∀ n, n ≤ v_nw → l_sumT (c_tr S) n = l_sm v_tr n ∧ ∃ k, k ≤ 9 * n ∧ l_sm v_tr n = nI k
  | 0, _ => ⟨rfl, 0, by omega, rfl⟩
  | n + 1, q => by
    obtain ⟨b1, b2, b3, b4, b5, b6⟩ := w_b h
    obtain ⟨h1, k, hk, e⟩ := s_sum h n (by omega)
    obtain ⟨j, hj, e2⟩ := h.1.2.2.2.2.2.1.2 n (by omega)
    have e3 := h.1.2.2.2.2.2.1.1 n (by omega)
    rw [l_sumT, l_sm, h1, fat (show n < 4 by omega) (by omega), e3]
    exact ⟨rfl, k + j, by omega, by rw [e, ← e3, e2, nI_add]⟩
theorem s_vm (h : (RF B G S v_ni v_wa v_un v_ns v_np v_nw v_ng v_ma v_st v_ou v_ru v_so v_mt v_vo v_gi v_ca v_tr v_sw v_ss v_sg)) : ∀ i, i < v_ns → ∃ V N, V ≤ 16 ∧ N ≤ 16 ∧ f_voters G (nI i) = nI V ∧ f_votes G (nI i) = nI N ∧ f_voters G (nI i) = l_vot v_so v_vo v_gi i false v_np ∧ f_votes G (nI i) = l_vot v_so v_vo v_gi i true v_np := fun i hi => by
  obtain ⟨b1, b2, b3, b4, b5, b6⟩ := w_b h
  obtain ⟨e1, V, hV, e2⟩ := voters_ok (RF_to h).1.1 (s := i) (by omega)
  obtain ⟨e3, N, hN, e4⟩ := votes_ok (RF_to h).1.1 (s := i) (by omega)
  exact ⟨V, N, hV, hN, e2, e4, e1, e3⟩
def f_K (G : HS) (i : Nat) : Nat := (f_voters G (nI i)).toInt.toNat / 2 + 1 - (f_votes G (nI i)).toInt.toNat
theorem s_K (h : (RF B G S v_ni v_wa v_un v_ns v_np v_nw v_ng v_ma v_st v_ou v_ru v_so v_mt v_vo v_gi v_ca v_tr v_sw v_ss v_sg)) : ∀ i, i < v_ns → f_vtl G (nI i) = nI (f_K G i) ∧ (∀ j, j < f_K G i → ¬ l_vot v_so v_vo v_gi i false v_np < 2 * (l_vot v_so v_vo v_gi i true v_np + nI j)) ∧ l_vot v_so v_vo v_gi i false v_np < 2 * (l_vot v_so v_vo v_gi i true v_np + nI (f_K G i)) ∧ f_K G i < 1000 := fun i hi => by
  obtain ⟨V, N, hV, hN, e1, e2, e3, e4⟩ := s_vm h i hi
  have eK : f_K G i = V / 2 + 1 - N := by
    rw [f_K, e1, e2, nI_toInt (by omega), nI_toInt (by omega)]; omega
  rw [← e3, ← e4, f_vtl, eK, e1, e2]
  have d1 : nI V / 2 + 1 = nI (V / 2 + 1) := by
    show nI V / nI 2 + nI 1 = _
    rw [pk_div (by omega) (by omega) (by omega), nI_add]
  have d2 : ∀ j, 2 * (nI N + nI j) = nI (2 * (N + j)) := fun j => by rw [nI_add]; exact pk_mul 2 _
  rw [d1]
  refine ⟨?_, fun j hj => ?_, ?_, by omega⟩
  · rcases Nat.lt_or_ge N (V / 2 + 1) with q | q
    · rw [pk_sub (by omega), if_pos (show (0 : Int32) < nI (V / 2 + 1 - N) from nI_lt (a := 0) (by omega) (by omega))]
    · have e3 : ¬ (0 < nI (V / 2 + 1) - nI N) := by
        rw [Int32.lt_iff_toInt_lt, pk_sub_toInt (by omega) (by omega)]
        show ¬ (0 : Int) < _
        omega
      rw [if_neg e3, show V / 2 + 1 - N = 0 by omega, nI_0]
  · rw [d2]; exact nI_nlt (by omega) (by omega)
  · rw [d2]; exact nI_lt (by omega) (by omega)
theorem s_mean (h : (RF B G S v_ni v_wa v_un v_ns v_np v_nw v_ng v_ma v_st v_ou v_ru v_so v_mt v_vo v_gi v_ca v_tr v_sw v_ss v_sg)) : (0 < nI (g_wc G) → vf_n64 (FP.ddiv (FP.i2d (l_sumT (c_tr S) (g_wc G))) (FP.i2d (nI (g_wc G))))) ∧ (¬ nI v_nw = 0 → vf_n64 (FP.ddiv (FP.i2d (l_sm v_tr v_nw)) (FP.i2d (nI v_nw)))) ∧ (nI v_nw = 0 → f_mean G S = 0) ∧ (¬ nI v_nw = 0 → f_mean G S = FP.ddiv (FP.i2d (l_sm v_tr v_nw)) (FP.i2d (nI v_nw))) ∧ FP.dcmp (f_mean G S) (f_mean G S) = some .eq := by
  obtain ⟨b1, b2, b3, b4, b5, b6⟩ := w_b h
  obtain ⟨e, k, hk, e2⟩ := s_sum h v_nw (Nat.le_refl _)
  rw [f_mean, b3, e, e2]
  rcases Nat.eq_zero_or_pos v_nw with z | z
  · rw [z, nI_0, if_neg (by decide)]
    exact ⟨fun q => absurd q (by decide), fun q => absurd rfl q, fun _ => rfl, fun q => absurd rfl q, mean_0⟩
  · obtain ⟨m1, m2⟩ := mean_n k (by omega) v_nw (by omega) z
    have z0 : ¬ nI v_nw = 0 := nI_ne0 z (by omega)
    rw [if_pos (show (0 : Int32) < nI v_nw from nI_lt (a := 0) z (by omega))]
    exact ⟨fun _ => m1, fun _ => m1, fun q => absurd q z0, fun _ => rfl, m2⟩
theorem c_same (l : Launch) (hflags : l.stackTraces = false) (E : Ev) (x : Nat) (A T Bb : Nat → Nat) (U : CS) (q : Nat) (P : AP) (h : (RF B G S v_ni v_wa v_un v_ns v_np v_nw v_ng v_ma v_st v_ou v_ru v_so v_mt v_vo v_gi v_ca v_tr v_sw v_ss v_sg)) : XI l E yX3_isSame wsX3_isSame rm_X3_isSame [.ref q, .ref x] (wX x A T Bb ++ wC E A (Bb 0) S ++ wC E T (Bb 0) U ++ wG E Bb G ++ wS E q P (mkS v_ni v_wa v_un v_ns v_np v_nw v_ng v_ma v_st v_ou v_ru v_so v_mt v_vo v_gi v_ca v_tr v_sw v_ss v_sg)) 0 1 (wX x A T Bb ++ wC E A (Bb 0) S ++ wC E T (Bb 0) U ++ wG E Bb G ++ wS E q P (mkS v_ni v_wa v_un v_ns v_np v_nw v_ng v_ma v_st v_ou v_ru v_so v_mt v_vo v_gi v_ca v_tr v_sw v_ss v_sg)) := by
  obtain ⟨hns, hnp, hnw, hng, hso, hsw⟩ : v_ns ≤ 5 ∧ v_np ≤ 16 ∧ v_nw ≤ 4 ∧ v_ng ≤ 20 ∧ (∀ p, p < v_np → v_so p < v_ns) ∧ ∀ j, j < v_ng → v_sw j < v_nw := RR_MOK (RF_to h).1
  obtain ⟨b1, b2, b3, b4, b5, b6⟩ := w_b h
  obtain ⟨m1, m2, m3, m4, m5⟩ := s_mean h
  have hP := h.1.1.2.2.1
  have hru := h.1.2.2.2.1.1
  have htr := h.1.2.2.2.2.2.1
  have hsg := h.1.2.2.2.2.2.2.2.1
  refine c_X3_isSame l hflags E x A T Bb S U G q P v_ni v_wa v_un v_ns v_np v_nw v_ng v_ma v_st v_ou v_ru v_so v_mt v_vo v_gi v_ca v_tr v_sw v_ss v_sg (f_K G) hns hnp hnw hng hso hsw (fun i hi => a_tship h hi) (fun p hp => a_tsail h hp) (fun w hw => a_twat h hw)
    (fun i hi => by rw [fat (show i < 5 by omega) (by omega)]; exact (h.1.1.2.1 i hi).1) (fun i hi => ?_) (fun i hi => ?_)
    (fun i hi => by rw [fat (show i < 5 by omega) (by omega)]; exact h.1.2.2.1.1 i hi) (fun i hi => ?_)
    (fun i hi => by rw [trust_su (show i < 5 by omega)]; exact (tin_ok hnw hns hsg htr (by omega)).symm)
    (fun i hi => by obtain ⟨V, N, -, -, -, -, e, -⟩ := s_vm h i hi; exact e) (fun i hi => by obtain ⟨V, N, -, -, -, -, -, e⟩ := s_vm h i hi; exact e)
    (fun i hi => (s_K h i hi).1) (fun i hi => (s_K h i hi).2.1) (fun i hi => (s_K h i hi).2.2.1) (fun i hi => (s_K h i hi).2.2.2)
    (fun p hp => w_sh h p (by omega)) (fun p hp => by rw [fat (show p < 16 by omega) (by omega)]; exact (hP p hp).2.2.1) (fun p hp => ?_) (fun p hp => ?_)
    (fun p hp => by rw [fat (show p < 16 by omega) (by omega)]; exact h.1.2.2.2.2.1.1 p hp) (fun p hp => by rw [s_dk h p hp])
    (fun w hw => by rw [fat (show w < 4 by omega) (by omega)]; exact htr.1 w hw)
    (by rw [b1]) (by rw [b2]) (by rw [b3]) (SG_scnt hnw hns hsg).1 h.1.2.2.2.2.2.2.2.2.1 h.1.2.2.2.2.2.2.2.2.2.1.1 (s_dark h) h.1.2.2.2.2.2.2.2.2.2.2.1.1 (s_lost h) m1 (by omega) m2 m3 m4 m5
  · obtain ⟨e1, e2, e3⟩ := a_stv h hi
    rw [fstay_n e3, e1]
    rcases e2 with e | e | e <;> rw [e] <;> decide
  · obtain ⟨e1, e2, e3⟩ := a_stv h hi
    rw [fstay_n e3, e1]
    rcases e2 with e | e | e <;> rw [e] <;> decide
  · rw [fis (show i < 5 by omega) (by omega), ← hru i hi]
    cases c_ru S i <;> decide
  · rw [fis (show p < 16 by omega) (by omega), ← (hP p hp).2.2.2.2.2.1]
    cases g_vo G p <;> decide
  · rw [fis (show p < 16 by omega) (by omega), ← (hP p hp).2.2.2.2.2.2.1]
    cases g_gi G p <;> decide
end SAME
