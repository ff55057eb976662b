/-! ===== the law's body: what its stretches ask ===== -/
theorem sb_ext {b : Nat → Bool} {m : Nat} : ∀ {n : Nat}, m ≤ n → (∀ j, m ≤ j → j < n → b j = false) → l_sb b n = l_sb b m
  | 0, h, _ => by rw [show m = 0 by omega]
  | n + 1, h, hb => by
    by_cases e : m = n + 1
    · rw [e]
    · rw [l_sb, hb n (by omega) (by omega), sb_ext (n := n) (by omega) (fun j a b => hb j a (by omega))]
      exact Int32.add_zero _
theorem sb_congr {b b' : Nat → Bool} : ∀ {n : Nat}, (∀ j, j < n → b j = b' j) → l_sb b n = l_sb b' n
  | 0, _ => rfl
  | n + 1, h => by rw [l_sb, l_sb, sb_congr (n := n) (fun j hj => h j (by omega)), h n (by omega)]
theorem sb_num {b : Nat → Bool} : ∀ n, ∃ k, k ≤ n ∧ l_sb b n = nI k
  | 0 => ⟨0, Nat.le_refl _, rfl⟩
  | n + 1 => by
    obtain ⟨k, hk, e⟩ := sb_num (b := b) n
    rw [l_sb, e]
    cases b n
    · exact ⟨k, by omega, Int32.add_zero _⟩
    · exact ⟨k + 1, by omega, nI_1 k⟩
theorem dark_sb (G : HS) (S : CS) : ∀ n, l_dark G S n = l_sb (fun jj => f_dark G S (nI jj)) n
  | 0 => rfl
  | n + 1 => by
    rw [l_dark, l_sb, dark_sb G S n]
    cases f_dark G S (nI n)
    · rw [if_neg (by decide)]; exact (Int32.add_zero _).symm
    · rw [if_pos rfl]; rfl
theorem lost_sb (G : HS) (S : CS) : ∀ n, l_lost G S n = l_sb (fun jj => decide (f_stay S (f_ship G (nI jj)) = 2)) n
  | 0 => rfl
  | n + 1 => by
    rw [l_lost, l_sb, lost_sb G S n]
    by_cases c : f_stay S (f_ship G (nI n)) = 2
    · rw [if_pos c, decide_eq_true c]; rfl
    · rw [if_neg c, decide_eq_false c]; exact (Int32.add_zero _).symm
theorem vt_cnt {so : FnN} {sh : Fn} {b b' : Nat → Bool} {np i : Nat} (hi : i < 5) (h : ∀ p, p < np → sh p = nI (so p) ∧ so p < 5 ∧ b p = b' p) : ∀ n, n ≤ np → l_vt so b (fun _ => 0) n i = l_cnt sh b' (nI i) n
  | 0, _ => rfl
  | n + 1, q => by
    obtain ⟨h1, h2, h3⟩ := h n (by omega)
    have ih := vt_cnt hi h n (by omega)
    rw [l_vt, l_cnt, h1, h3]
    by_cases e : i = so n
    · subst e
      rw [pk_us, if_pos rfl, ih]
      cases b' n
      · rw [if_neg (by decide)]; exact Int32.add_zero _
      · rw [if_pos rfl]; rfl
    · rw [pk_un e, if_neg (fun q => e (nI_inj5 (by omega) (by omega) q).symm)]; exact ih
theorem cnt_ext {sh : Fn} {b : FnB} {s : Int32} {m : Nat} : ∀ {n : Nat}, m ≤ n → (∀ j, m ≤ j → j < n → ¬ sh j = s) → l_cnt sh b s n = l_cnt sh b s m
  | 0, h, _ => by rw [show m = 0 by omega]
  | n + 1, h, hb => by
    by_cases e : m = n + 1
    · rw [e]
    · rw [l_cnt, if_neg (hb n (by omega) (by omega)), cnt_ext (n := n) (by omega) (fun j a b => hb j a (by omega))]
theorem lt_at {b : Nat → Bool} {f : Fn} : ∀ n i, l_lt b f n i = if i < n then bI (b i) else f i
  | 0, i => by rw [if_neg (by omega)]; rfl
  | n + 1, i => by
    rw [l_lt]
    by_cases e : i = n
    · subst e; rw [pk_us, if_pos (by omega)]
    · rw [pk_un e, lt_at n i]
      by_cases d : i < n
      · rw [if_pos d, if_pos (by omega)]
      · rw [if_neg d, if_neg (by omega)]
theorem hd_at {f : Fn} : ∀ n i, i < n → l_hd f n i = f i
  | 0, i, h => absurd h (by omega)
  | n + 1, i, h => by
    rw [l_hd]
    by_cases e : i = n
    · subst e; rw [pk_us]
    · rw [pk_un e]; exact hd_at n i (by omega)
theorem hr_at {b : Nat → Bool} : ∀ n i, i < n → l_hr b n i = bI (b i)
  | 0, i, h => absurd h (by omega)
  | n + 1, i, h => by
    rw [l_hr]
    by_cases e : i = n
    · subst e; rw [pk_us]
    · rw [pk_un e]; exact hr_at n i (by omega)
theorem ob_no {b : Nat → Bool} : ∀ {n : Nat}, l_ob b n = false → ∀ i, i < n → b i = false
  | 0, _, i, h => absurd h (by omega)
  | n + 1, h, i, q => by
    rw [l_ob, Bool.or_eq_false_iff] at h
    rcases Nat.lt_or_ge i n with a | a
    · exact ob_no h.1 i a
    · rw [show i = n by omega]; exact h.2
theorem until_no {G : HS} {S : CS} (h : f_untilD G S = -1) : f_isDk G S 0 = false := by
  rw [f_untilD] at h
  by_cases c : l_first (f_isDk G S) 201 < 201
  · rw [if_pos c] at h
    exact absurd h.symm (m1_ne _ (by omega))
  · exact first_spec.first_no (f_isDk G S) 201 (f_isDk G S) 201 (Nat.le_antisymm (l_first_le (f_isDk G S) 201) (Nat.not_lt.mp c)) 0 (by decide)
theorem until_0 (G : HS) (S : CS) : bI (decide (f_untilD G S = 0)) = bI (!decide (l_dark G S 16 ≤ 0)) := by
  have e : (f_isDk G S 0 = false) ↔ l_dark G S 16 ≤ 0 := isDk_zero (j := 0)
  rcases until_ok G S with h | ⟨N, hN, h, h1, h2⟩
  · rw [h, decide_eq_true (e.mp (until_no h))]; decide
  · rcases Nat.eq_zero_or_pos N with z | z
    · subst z
      have nd : ¬ l_dark G S 16 ≤ 0 := fun q => by rw [e.mpr q] at h1; exact absurd h1 (by decide)
      rw [h, decide_eq_false nd]; decide
    · rw [h, decide_eq_true (e.mp (h2 0 z)), decide_eq_false (nI_ne0 z (by omega))]; rfl
/-- the first dark night comes when it was told -/
theorem until_k {G : HS} {S : CS} {k : Nat} (hk : k < 1000) (h0 : ¬ f_untilD G S ≤ 0) (h1 : ¬ f_untilD G S < nI k) : bI (!decide (l_dark G (l_passS G S k) 16 ≤ 0)) = bI (decide (nI k = f_untilD G S)) := by
  rcases until_ok G S with h | ⟨N, hN, h, h2, h3⟩
  · rw [h] at h0; exact absurd (by decide) h0
  · rw [h] at h1 ⊢
    have hkN : k ≤ N := by
      rcases Nat.lt_or_ge N k with q | q
      · exact absurd (nI_lt q (by omega)) h1
      · exact q
    rcases Nat.lt_or_ge k N with q | q
    · rw [decide_eq_true (isDk_zero.mp (h3 k q)), decide_eq_false (fun z => by have := nI_inj5 hk (by omega) z; omega)]; rfl
    · have e : k = N := by omega
      subst e
      rw [decide_eq_true (rfl : nI k = nI k), decide_eq_false (fun z => by rw [isDk_zero.mpr z] at h2; exact absurd h2 (by decide))]; rfl
theorem lit_k {G : HS} {S : CS} {n k : Nat} (h : l_lit G S n = true) (h1 : 1 ≤ k) (h2 : k ≤ n) : l_dark G (l_passS G S k) 16 ≤ 0 := isDk_zero.mp (lit_all h k h1 h2)
section LAWF
variable {B : Nat} {G : HS} {S : CS} {v_ni v_wa v_un : Int32} {v_ns v_np v_nw v_ng : Nat} {v_ma v_st v_ou v_ru : Fn} {v_so : FnN} {v_mt v_vo v_gi v_ca v_tr : Fn} {v_sw v_ss : FnN} {v_sg : Fn}
theorem w_b (h : (RF B G S v_ni v_wa v_un v_ns v_np v_nw v_ng v_ma v_st v_ou v_ru v_so v_mt v_vo v_gi v_ca v_tr v_sw v_ss v_sg)) : g_sc G = v_ns ∧ g_pc G = v_np ∧ g_wc G = v_nw ∧ v_ns ≤ 5 ∧ v_np ≤ 16 ∧ v_nw ≤ 4 := h.1.1.1
theorem w_so (h : (RF B G S v_ni v_wa v_un v_ns v_np v_nw v_ng v_ma v_st v_ou v_ru v_so v_mt v_vo v_gi v_ca v_tr v_sw v_ss v_sg)) : ∀ p, p < g_pc G → v_so p < g_sc G := fun p hp => by
  obtain ⟨b1, b2, b3, b4, b5, b6⟩ := w_b h
  rw [b1]; exact (h.1.1.2.2.1 p (by omega)).2.1
theorem w_sh (h : (RF B G S v_ni v_wa v_un v_ns v_np v_nw v_ng v_ma v_st v_ou v_ru v_so v_mt v_vo v_gi v_ca v_tr v_sw v_ss v_sg)) : ∀ p, p < g_pc G → f_ship G (nI p) = nI (v_so p) := fun p hp => by
  obtain ⟨b1, b2, b3, b4, b5, b6⟩ := w_b h
  rw [fship (by omega)]; exact (h.1.1.2.2.1 p (by omega)).1
theorem w_tship (h : (RF B G S v_ni v_wa v_un v_ns v_np v_nw v_ng v_ma v_st v_ou v_ru v_so v_mt v_vo v_gi v_ca v_tr v_sw v_ss v_sg)) : ∀ i, i < g_sc G → t_ship G (nI i) = 0 := fun i hi => a_tship h (by have := (w_b h).1; omega)
theorem w_tsail (h : (RF B G S v_ni v_wa v_un v_ns v_np v_nw v_ng v_ma v_st v_ou v_ru v_so v_mt v_vo v_gi v_ca v_tr v_sw v_ss v_sg)) : ∀ p, p < g_pc G → t_sail G (nI p) = 0 := fun p hp => a_tsail h (by have := (w_b h).2.1; omega)
theorem w_twat (h : (RF B G S v_ni v_wa v_un v_ns v_np v_nw v_ng v_ma v_st v_ou v_ru v_so v_mt v_vo v_gi v_ca v_tr v_sw v_ss v_sg)) : ∀ j, j < g_wc G → t_wat G (nI j) = 0 := fun j hj => a_twat h (by have := (w_b h).2.2.1; omega)
theorem w_st (h : (RF B G S v_ni v_wa v_un v_ns v_np v_nw v_ng v_ma v_st v_ou v_ru v_so v_mt v_vo v_gi v_ca v_tr v_sw v_ss v_sg)) {i : Nat} (hi : i < 5) : f_stay S (nI i) = c_st S i ∧ (c_st S i = 0 ∨ c_st S i = 1 ∨ c_st S i = 2) := by
  refine ⟨fstay_n hi, ?_⟩
  rcases Nat.lt_or_ge i v_ns with q | q
  · rw [(a_stv h q).1]; exact (a_stv h q).2.1
  · exact .inl (h.1.2.1.2 i q hi)
theorem w_out (h : (RF B G S v_ni v_wa v_un v_ns v_np v_nw v_ng v_ma v_st v_ou v_ru v_so v_mt v_vo v_gi v_ca v_tr v_sw v_ss v_sg)) {i : Nat} (hi : i < 5) : (decide (¬ f_stay S (nI i) = 0) && !decide (f_stay S (nI i) = 2)) = decide (c_st S i = 1) := by
  obtain ⟨e, q⟩ := w_st h hi
  rw [e]
  rcases q with q | q | q <;> rw [q] <;> decide
theorem w_cav (h : (RF B G S v_ni v_wa v_un v_ns v_np v_nw v_ng v_ma v_st v_ou v_ru v_so v_mt v_vo v_gi v_ca v_tr v_sw v_ss v_sg)) {p : Nat} (hp : p < 16) : f_at 16 (c_ca S) (nI p) = c_ca S p ∧ ∃ k, k ≤ 12 ∧ c_ca S p = nI k := ⟨fat hp (by omega), h.1.2.2.2.2.1.2.2 p hp⟩
theorem w_ca (h : (RF B G S v_ni v_wa v_un v_ns v_np v_nw v_ng v_ma v_st v_ou v_ru v_so v_mt v_vo v_gi v_ca v_tr v_sw v_ss v_sg)) : ∀ p, p < g_pc G → ¬ f_at 16 (c_ca S) (nI p) < 0 ∧ ¬ 12 < f_at 16 (c_ca S) (nI p) := fun p hp => by
  obtain ⟨b1, b2, b3, b4, b5, b6⟩ := w_b h
  obtain ⟨e, k, hk, e2⟩ := w_cav h (p := p) (by omega)
  rw [e, e2]
  exact ⟨nI_pos (by omega), show ¬ nI 12 < nI k from nI_nlt hk (by omega)⟩
theorem w_dk (h : (RF B G S v_ni v_wa v_un v_ns v_np v_nw v_ng v_ma v_st v_ou v_ru v_so v_mt v_vo v_gi v_ca v_tr v_sw v_ss v_sg)) : ∀ p, p < g_pc G → bI (f_dark G S (nI p)) = bI ((decide (¬ f_stay S (nI (v_so p)) = 0) && !decide (f_stay S (nI (v_so p)) = 2)) && decide (f_at 16 (c_ca S) (nI p) = 0)) := fun p hp => by
  obtain ⟨b1, b2, b3, b4, b5, b6⟩ := w_b h
  have o := w_so h p hp
  rw [w_out h (by omega), f_dark, w_sh h p hp, (w_st h (i := v_so p) (by omega)).1]
  by_cases c : c_st S (v_so p) = 1
  · rw [if_pos c, decide_eq_true c, Bool.true_and]
    by_cases d : f_at 16 (c_ca S) (nI p) = 0
    · rw [if_pos d, decide_eq_true d]
    · rw [if_neg d, decide_eq_false d]
  · rw [if_neg c, decide_eq_false c, Bool.false_and]
theorem w_mast (h : (RF B G S v_ni v_wa v_un v_ns v_np v_nw v_ng v_ma v_st v_ou v_ru v_so v_mt v_vo v_gi v_ca v_tr v_sw v_ss v_sg)) : ∀ p, p < g_pc G → f_at 16 (g_mt G) (nI p) < f_at 5 (g_ma G) (nI (v_so p)) := fun p hp => by
  obtain ⟨b1, b2, b3, b4, b5, b6⟩ := w_b h
  obtain ⟨-, p2, p3, -, p5, -⟩ := h.1.1.2.2.1 p (by omega)
  rw [fat (show p < 16 by omega) (by omega), fat (show v_so p < 5 by omega) (by omega), p3, (h.1.1.2.1 _ p2).1]
  exact p5
theorem w_ca7 (h : (RF B G S v_ni v_wa v_un v_ns v_np v_nw v_ng v_ma v_st v_ou v_ru v_so v_mt v_vo v_gi v_ca v_tr v_sw v_ss v_sg)) : ∀ p, p < g_pc G → (decide (¬ f_stay S (nI (v_so p)) = 0) && !decide (f_stay S (nI (v_so p)) = 2)) = false → ¬ 0 < f_at 16 (c_ca S) (nI p) := fun p hp q => by
  obtain ⟨b1, b2, b3, b4, b5, b6⟩ := w_b h
  have o := w_so h p hp
  rw [w_out h (by omega), decide_eq_false_iff_not] at q
  rw [(w_cav h (p := p) (by omega)).1, h.1.2.2.2.2.2.2.2.2.2.2.2.2.2 p (by omega) (by rw [w_sh h p hp, (w_st h (i := v_so p) (by omega)).1]; exact q)]
  decide
theorem w_vo (h : (RF B G S v_ni v_wa v_un v_ns v_np v_nw v_ng v_ma v_st v_ou v_ru v_so v_mt v_vo v_gi v_ca v_tr v_sw v_ss v_sg)) : ∀ i, i < g_sc G → f_voters G (nI i) = l_vt v_so (fun jj => f_is 16 (g_vo G) (nI jj)) (fun _ => 0) (g_pc G) i := fun i hi => by
  obtain ⟨b1, b2, b3, b4, b5, b6⟩ := w_b h
  have H := h.1.1.2.2
  rw [f_voters, cnt_ext (m := g_pc G) (by omega) (fun j a b e => m1_ne i (by omega) ((H.2 j (by omega) b).1.symm.trans e))]
  exact (vt_cnt (np := g_pc G) (by omega) (fun p hp => ⟨(H.1 p (by omega)).1, by have := (H.1 p (by omega)).2.1; omega, fis (by omega) (by omega)⟩) _ (Nat.le_refl _)).symm
theorem w_gi (h : (RF B G S v_ni v_wa v_un v_ns v_np v_nw v_ng v_ma v_st v_ou v_ru v_so v_mt v_vo v_gi v_ca v_tr v_sw v_ss v_sg)) : ∀ i, i < g_sc G → f_votes G (nI i) = l_vt v_so (fun jj => f_is 16 (g_vo G) (nI jj) && f_is 16 (g_gi G) (nI jj)) (fun _ => 0) (g_pc G) i := fun i hi => by
  obtain ⟨b1, b2, b3, b4, b5, b6⟩ := w_b h
  have H := h.1.1.2.2
  rw [f_votes, cnt_ext (m := g_pc G) (by omega) (fun j a b e => m1_ne i (by omega) ((H.2 j (by omega) b).1.symm.trans e))]
  refine (vt_cnt (np := g_pc G) (by omega) (fun p hp => ⟨(H.1 p (by omega)).1, by have := (H.1 p (by omega)).2.1; omega, ?_⟩) _ (Nat.le_refl _)).symm
  show (f_is 16 (g_vo G) (nI p) && f_is 16 (g_gi G) (nI p)) = g_gi G p
  rw [fis (show p < 16 by omega) (by omega), fis (show p < 16 by omega) (by omega)]
  have q := (H.1 p (by omega)).2.2.2.2.2.2.2
  cases g : g_gi G p
  · exact Bool.and_false _
  · rw [q g]; rfl
theorem w_tr0 (h : (RF B G S v_ni v_wa v_un v_ns v_np v_nw v_ng v_ma v_st v_ou v_ru v_so v_mt v_vo v_gi v_ca v_tr v_sw v_ss v_sg)) : ∀ i, i < g_sc G → (decide (¬ f_stay S (nI i) = 0) && !decide (f_stay S (nI i) = 2)) = false → ¬ 0 < f_trust S (nI i) := fun i hi q => by
  obtain ⟨b1, b2, b3, b4, b5, b6⟩ := w_b h
  rw [w_out h (by omega), decide_eq_false_iff_not] at q
  have l2 := h.1.2.2.2.2.2.2.2.2.2.2.2.2.1
  rw [trust_su (show i < 5 by omega), su_0 (show i < 5 by omega) (fun w hw => by
    by_cases c : c_ag S (5 * w + i) = -1
    · exact c
    · exact absurd (l2 w i hw (by omega) c) q) 4 (by omega)]
  decide
theorem w_ru (h : (RF B G S v_ni v_wa v_un v_ns v_np v_nw v_ng v_ma v_st v_ou v_ru v_so v_mt v_vo v_gi v_ca v_tr v_sw v_ss v_sg)) : ∀ i, i < g_sc G → f_is 5 (c_ru S) (nI i) = true → (decide (¬ f_stay S (nI i) = 0) && !decide (f_stay S (nI i) = 2)) = true ∧ ¬ f_trust S (nI i) < 6 := fun i hi q => by
  obtain ⟨b1, b2, b3, b4, b5, b6⟩ := w_b h
  rw [fis (show i < 5 by omega) (by omega)] at q
  rw [w_out h (by omega), trust_su (show i < 5 by omega)]
  exact ⟨decide_eq_true (h.1.2.2.2.2.2.2.2.2.2.2.2.1 i (by omega) q), nlt.mpr (h.2 i (by omega) q)⟩
theorem w_lo (i : Nat) (q : decide (f_stay S (nI i) = 2) = true) : decide (¬ f_stay S (nI i) = 0) = true := by
  rw [decide_eq_true_iff] at q ⊢
  rw [q]; decide
theorem w_tw (h : (RF B G S v_ni v_wa v_un v_ns v_np v_nw v_ng v_ma v_st v_ou v_ru v_so v_mt v_vo v_gi v_ca v_tr v_sw v_ss v_sg)) : ∀ j, j < g_wc G → ¬ f_at 4 (c_tr S) (nI j) < 0 ∧ f_at 4 (c_tr S) (nI j) ≤ 9 := fun j hj => by
  obtain ⟨b1, b2, b3, b4, b5, b6⟩ := w_b h
  obtain ⟨k, hk, e⟩ := h.1.2.2.2.2.2.1.2 j (by omega)
  rw [fat (show j < 4 by omega) (by omega), e]
  exact ⟨nI_pos (by omega), show nI k ≤ nI 9 from nI_le hk (by omega)⟩
theorem w_ship_m (h : (RF B G S v_ni v_wa v_un v_ns v_np v_nw v_ng v_ma v_st v_ou v_ru v_so v_mt v_vo v_gi v_ca v_tr v_sw v_ss v_sg)) {p : Nat} (hp : g_pc G ≤ p) (h16 : p < 16) : f_ship G (nI p) = -1 := by
  have := (w_b h).2.1
  rw [fship h16]; exact (h.1.1.2.2.2 p (by omega) h16).1
theorem w_nd (h : (RF B G S v_ni v_wa v_un v_ns v_np v_nw v_ng v_ma v_st v_ou v_ru v_so v_mt v_vo v_gi v_ca v_tr v_sw v_ss v_sg)) : l_sb (fun jj => f_dark G S (nI jj)) (g_pc G) = l_dark G S 16 := by
  obtain ⟨b1, b2, b3, b4, b5, b6⟩ := w_b h
  rw [dark_sb, sb_ext (n := 16) (m := g_pc G) (by omega) (fun j a b => by rw [f_dark, w_ship_m h a b, fstay_m, if_neg (by decide)])]
theorem w_nn (h : (RF B G S v_ni v_wa v_un v_ns v_np v_nw v_ng v_ma v_st v_ou v_ru v_so v_mt v_vo v_gi v_ca v_tr v_sw v_ss v_sg)) : l_sb (fun jj => decide (f_stay S (nI (v_so jj)) = 2)) (g_pc G) = l_lost G S 16 := by
  obtain ⟨b1, b2, b3, b4, b5, b6⟩ := w_b h
  rw [lost_sb, sb_ext (n := 16) (m := g_pc G) (by omega) (fun j a b => by rw [w_ship_m h a b, fstay_m]; decide)]
  exact sb_congr (fun j hj => by rw [w_sh h j hj])
/-- a sighting rings as it was told -/
theorem w_sight (h : (RF B G S v_ni v_wa v_un v_ns v_np v_nw v_ng v_ma v_st v_ou v_ru v_so v_mt v_vo v_gi v_ca v_tr v_sw v_ss v_sg)) {s w : Nat} (hs : s < v_ns) (hw : w < v_nw) (hst : v_st s = 1) (hsg : l_sig v_ss v_sw w s v_ng = false) : t_new G S (nI w) (nI s) = 0 ∧ v_ng + 1 ≤ 20 ∧
    bI (f_is 5 (c_ru (f_enter S (nI w) (nI s))) (nI s)) = bI (f_would S (nI w) (nI s)) ∧ f_trust (f_enter S (nI w) (nI s)) (nI s) = f_trust S (nI s) + f_at 4 (c_tr (f_enter S (nI w) (nI s))) (nI w) ∧ (f_is 5 (c_ru S) (nI s) = true → f_would S (nI w) (nI s) = true) ∧
    (f_would S (nI w) (nI s) = true → (RF B G (f_enter S (nI w) (nI s)) v_ni v_wa v_un v_ns v_np v_nw (v_ng + 1) v_ma v_st v_ou (upd v_ru s 1) v_so v_mt v_vo v_gi v_ca v_tr (updN v_sw v_ng w) (updN v_ss v_ng s) (upd v_sg v_ng 0))) ∧
    (f_would S (nI w) (nI s) = false → (RF B G (f_enter S (nI w) (nI s)) v_ni v_wa v_un v_ns v_np v_nw (v_ng + 1) v_ma v_st v_ou v_ru v_so v_mt v_vo v_gi v_ca v_tr (updN v_sw v_ng w) (updN v_ss v_ng s) (upd v_sg v_ng 0))) := by
  have hf : (if v_st s = 1 then (if l_sig v_ss v_sw w s v_ng = true then true else false) else true) = false := by
    rw [if_pos hst, hsg]; rfl
  obtain ⟨a0, a1, -, T, e, e1, e4, h2, e3, e5⟩ := a_sight h hs hw hf
  have sv := a_stv h hs
  have h5 := sv.2.2
  have h4 : w < 4 := by have := (w_b h).2.2.2.2.2; omega
  have hy := a_sight_y h hs hw hf
  have hn := a_sight_n h hs hw hf
  rw [← e3] at hy hn
  have et : c_tr T = c_tr S ∧ c_ag (f_enter S (nI w) (nI s)) = c_ag T ∧ c_tr (f_enter S (nI w) (nI s)) = c_tr T := by
    rw [f_enter, e]
    refine ⟨by rw [← e]; rfl, ?_, ?_⟩
    · by_cases c : f_trust T (nI s) < 6
      · rw [if_pos c]
      · rw [if_neg c]; rfl
    · by_cases c : f_trust T (nI s) < 6
      · rw [if_pos c]
      · rw [if_neg c]; rfl
  have ew : f_would S (nI w) (nI s) = if c_ru S s = true then true else if f_trust T (nI s) < 6 then false else true := by
    rw [f_would, fis h5 (by omega), fat h4 (by omega), e5]
  have hru : c_ru S s = true → 6 ≤ f_trust T (nI s) := fun q => by
    rw [trust_su h5]; exact h2.2 s h5 (by rw [e1]; exact q)
  have x6 : (f_trust T (nI s) ≤ 5) ↔ f_trust T (nI s) < 6 := (le56 _).trans nle
  have ew2 : f_would S (nI w) (nI s) = if f_trust T (nI s) < 6 then false else true := by
    rw [ew]
    by_cases q : c_ru S s = true
    · rw [if_pos q, if_neg (nlt.mpr (hru q))]
    · rw [if_neg q]
  refine ⟨a0, a1, ?_, ?_, ?_, fun q => ?_, fun q => ?_⟩
  · rw [ew2]
    by_cases c : f_trust T (nI s) < 6
    · rw [if_pos c, (hn (x6.mpr c)).1]
      have : ¬ c_ru S s = true := fun q => nlt.mpr (hru q) c
      rw [← h.1.2.2.2.1.1 s hs]
      revert this
      cases c_ru S s <;> decide
    · rw [if_neg c, (hy (fun q => c (x6.mp q))).1]; rfl
  · rw [et.2.2, et.1, fat h4 (by omega), ← e5, trust_su h5, trust_su h5, et.2.1, et.2.2]
  · intro q
    rw [fis h5 (by omega)] at q
    rw [ew, if_pos q]
  · rw [ew2] at q
    by_cases c : f_trust T (nI s) < 6
    · rw [if_pos c] at q; exact absurd q (by decide)
    · exact (hy (fun q => c (x6.mp q))).2
  · rw [ew2] at q
    by_cases c : f_trust T (nI s) < 6
    · exact (hn (x6.mpr c)).2
    · rw [if_neg c] at q; exact absurd q (by decide)
/-- what is wanted -/
theorem w_want (h : (RF B G S v_ni v_wa v_un v_ns v_np v_nw v_ng v_ma v_st v_ou v_ru v_so v_mt v_vo v_gi v_ca v_tr v_sw v_ss v_sg)) (n : Nat) : ¬ f_want G S n < -1 ∧ f_want G S n ≤ 500 ∧
    (¬ f_want G S n ≤ 0 → t_buyWax (f_want G S n) = 0 ∧ c_wa S + f_want G S n = v_wa + f_want G S n ∧ (RF (B + 500) G (p_wa S (c_wa S + f_want G S n)) v_ni (v_wa + f_want G S n) v_un v_ns v_np v_nw v_ng v_ma v_st v_ou v_ru v_so v_mt v_vo v_gi v_ca v_tr v_sw v_ss v_sg) ∧ l_lit G (p_wa S (c_wa S + f_want G S n)) n = true) ∧
    (f_want G S n ≤ 0 → ¬ f_want G S n < 0 → l_lit G S n = true) := by
  rcases want_ok G S n with e | ⟨K, hK, e, hl⟩
  · rw [e]
    exact ⟨by decide, by decide, fun q => absurd (by decide) q, fun _ q => absurd (by decide) q⟩
  · rw [e]
    refine ⟨?_, show nI K ≤ nI 500 from nI_le hK (by omega), fun q => ?_, fun q _ => ?_⟩
    · rw [Int32.lt_iff_toInt_lt, nI_toInt (by omega)]
      show ¬ (K : Int) < -1
      omega
    · have h1 : 1 ≤ K := by
        rcases Nat.eq_zero_or_pos K with z | z
        · rw [z] at q; exact absurd (by decide) q
        · exact z
      obtain ⟨a1, a2, a3⟩ := a_wax h h1 hK
      exact ⟨a1, a2, a3, hl⟩
    · have h0 : K = 0 := by
        rcases Nat.eq_zero_or_pos K with z | z
        · exact z
        · exact absurd q (nI_nle z (by omega))
      rw [h0] at hl
      rw [f_stayLit, nI_0, Int32.add_zero] at hl
      exact hl
end LAWF
/-- a night: what it takes, and what was rung -/
theorem w_night {B : Nat} {G : HS} {S : CS} {M : SM} (hB : B < 2 ^ 28) (h : RR B G S M) : l_passN G S (1 : Int32).toNatClampNeg = f_spN M ∧ RR (B + 1000) G (l_passS G S (1 : Int32).toNatClampNeg) (f_spass M) ∧ c_un S ≤ c_un (l_passS G S (1 : Int32).toNatClampNeg) ∧
    ∀ (so : FnN) (fl fr fh : Fn), (∀ p, p < g_pc G → so p = m_so M p) → (∀ i, i < g_sc G → fl i = bI (decide (f_stay S (nI i) = 2))) → (∀ i, i < g_sc G → fr i = bI (f_is 5 (c_ru S) (nI i))) → (∀ p, p < g_pc G → fh p = f_at 16 (c_ca S) (nI p)) →
      l_ob (fun jj => decide (f_stay (l_passS G S (1 : Int32).toNatClampNeg) (nI jj) = 2) && decide (l_lt (fun jj => decide (f_stay (l_passS G S (1 : Int32).toNatClampNeg) (nI jj) = 2)) fl jj jj = 0)) (g_sc G) = false →
      l_sc (fun jj => f_at 16 (c_ca S) (nI jj)) (c_wa S) (g_pc G) - l_bu (fun jj => decide (¬ f_stay (l_passS G S (1 : Int32).toNatClampNeg) (nI (so jj)) = 0) && (!decide (f_stay (l_passS G S (1 : Int32).toNatClampNeg) (nI (so jj)) = 2) && !f_is 5 (c_ru (l_passS G S (1 : Int32).toNatClampNeg)) (nI (so jj)))) (fun jj => if 1 + f_at 16 (g_mt G) (nI jj) < fh jj then 1 + f_at 16 (g_mt G) (nI jj) else fh jj) (g_pc G) = l_sc (fun jj => f_at 16 (c_ca (l_passS G S (1 : Int32).toNatClampNeg)) (nI jj)) (c_wa (l_passS G S (1 : Int32).toNatClampNeg)) (g_pc G) ∧
      c_un (l_passS G S (1 : Int32).toNatClampNeg) = c_un S + l_sb (fun jj => decide (fr jj = 1) && !f_is 5 (c_ru (l_passS G S (1 : Int32).toNatClampNeg)) (nI jj)) (g_sc G) := by
  rw [one_clamp]
  have e1 : l_passS G S 1 = f_night G S := rfl
  have e2 : l_passN G S 1 = f_nightN G S := Int32.zero_add _
  rw [e1, e2]
  obtain ⟨n1, n2, T1, n3, n4⟩ := night_ok hB h
  refine ⟨n2, n1, ?_, fun so fl fr fh hso hfl hfr hfh hob => ?_⟩
  · obtain ⟨-, W, hW, eW⟩ : Ino (B + 1000) (c_un (f_night G S)) (m_un (f_spass M)) := n1.1.2.2.2.2.2.2.2.2.2.2.1
    obtain ⟨-, W0, hW0, eW0⟩ : Ino B (c_un S) (m_un M) := h.1.2.2.2.2.2.2.2.2.2.2.1
    obtain ⟨k, hk, ek⟩ := sb_num (b := fun s => c_ru S s && !decide (6 ≤ T1 s)) 5
    rw [n3, eW0, ek, nI_add]
    exact nI_le (by omega) (by omega)
  · obtain ⟨⟨hH, hst, hou, hru, hca, htr, hag, hsg, hni, hwa, hun, l1, l2, l3⟩, lb⟩ := h
    have b1 := hH.1.1
    have b2 := hH.1.2.1
    have n5 : m_ns M ≤ 5 := hH.1.2.2.2.1
    have n16 : m_np M ≤ 16 := hH.1.2.2.2.2.1
    have hst' := n1.1.2.1
    have hns' : m_ns (f_spass M) = m_ns M := n1.1.1.1.1.symm.trans b1
    generalize f_night G S = N at n1 n3 n4 hob hst' ⊢
    have no := ob_no hob
    rcases n4 with ⟨s, s5, q1, q2⟩ | ⟨q1, q2, q3⟩
    · have hs : s < g_sc G := by
        rcases Nat.lt_or_ge s (m_ns M) with a | a
        · omega
        · rw [hst.2 s a s5] at q1; exact absurd q1 (by decide)
      have := no s hs
      rw [fstay_n s5, decide_eq_true q2, lt_at, if_neg (by omega), hfl s hs, fstay_n s5, q1] at this
      exact absurd this (by decide)
    · have ci : ∀ j, j < g_pc G → f_at 16 (c_ca S) (nI j) = c_ca S j := fun j hj => fat (by omega) (by omega)
      have cj : ∀ j, j < g_pc G → f_at 16 (c_ca N) (nI j) = c_ca N j := fun j hj => fat (by omega) (by omega)
      constructor
      · rw [sc_congr ci, sc_congr cj, b2]
        rw [bu_congr (c' := z_c N M) (f' := z_f S M) (fun j hj => ?_)]
        · rw [← q3, Int32.add_sub_cancel]
        · obtain ⟨o1, o2⟩ := HR_so hH hj
          have hjp : j < g_pc G := by omega
          constructor
          · rw [hso j hjp, fstay_n o2, fis o2 (by omega), z_c, q1, (hst.1 _ o1).1]
            rcases (hst.1 _ o1).2 with a | a | a <;> rw [a] <;> cases c_ru N (m_so M j) <;> decide
          · rw [hfh j hjp, ci j hjp, fat (show j < 16 by omega) (by omega), (hH.2.2.1 j hj).2.2.1, z_f]
      · rw [n3, b1, sb_ext (n := 5) (m := m_ns M) n5 (fun j a b => by rw [hru.2 j a b]; rfl)]
        refine congrArg (c_un S + ·) (sb_congr (fun j hj => ?_))
        rw [hfr j (by omega), fis (show j < 5 by omega) (by omega), fis (show j < 5 by omega) (by omega), q2 j (by omega)]
        cases c_ru S j
        · rfl
        · by_cases d : 6 ≤ T1 j
          · rw [decide_eq_true d]; rfl
          · rw [decide_eq_false d]; rfl
