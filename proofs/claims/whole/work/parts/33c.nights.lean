/-! ===== nights, in both ===== -/
theorem mend1_upd (Hb : MH) (s : Nat) (b : Fn) {k : Nat} (v : Int32) (h1 : k ≠ 1) : ∀ i, (∀ p, p < i → k ≠ 18 + 2 * p + 0) → l_mend1 Hb s (upd b k v) i = upd (l_mend1 Hb s b i) k v
  | 0, _ => rfl
  | i + 1, hk => by
    have h3 := hk i (by omega)
    rw [l_mend1, l_mend1, mend1_upd Hb s b v h1 i (fun p hp => hk p (by omega))]
    by_cases e : nI (n_so Hb i) = nI s
    · rw [if_pos e, if_pos e]
      show upd (upd (upd (l_mend1 Hb s b i) k v) 1 (upd (l_mend1 Hb s b i) k v 1 + upd (l_mend1 Hb s b i) k v (18 + 2 * i + 0))) (18 + 2 * i + 0) 0 = upd (upd (upd (l_mend1 Hb s b i) 1 (l_mend1 Hb s b i 1 + l_mend1 Hb s b i (18 + 2 * i + 0))) (18 + 2 * i + 0) 0) k v
      rw [pk_un (Ne.symm h1), pk_un (Ne.symm h3), upd_comm _ h1, upd_comm _ h3]
    · rw [if_neg e, if_neg e]
theorem mend2_upd (s : Nat) (b : Fn) {k : Nat} (v : Int32) (hk : k < 54) : ∀ j, l_mend2 s (upd b k v) j = upd (l_mend2 s b j) k v
  | 0 => rfl
  | j + 1 => by
    rw [l_mend2, l_mend2, mend2_upd s b v hk j, upd_comm _ (by omega)]
theorem mend12 (Hb : MH) (s : Nat) (b : Fn) {i : Nat} (hi : i ≤ 16) : ∀ j, l_mend1 Hb s (l_mend2 s b j) i = l_mend2 s (l_mend1 Hb s b i) j
  | 0 => rfl
  | j + 1 => by
    rw [l_mend2, l_mend2, mend1_upd Hb s _ _ (by omega) i (fun p hp => by omega), mend12 Hb s b hi j]
theorem r_end_eq (Hb : MH) (a : Fn) {s : Nat} (hs : s < 5) (h16 : n_np Hb ≤ 16) : l_mend1 Hb s (l_mend2 s (upd a (3 + 3 * s + 2) 0) (n_nw Hb)) (n_np Hb) = r_end Hb a s := by
  rw [mend12 Hb s _ h16, mend1_upd Hb s _ _ (by omega) _ (fun p hp => by omega), r_end]
theorem r_end_st (Hb : MH) (a : Fn) {s : Nat} (hs : s < 5) (h16 : n_np Hb ≤ 16) (v : Int32) : r_end Hb (upd a (3 + 3 * s + 0) v) s = upd (r_end Hb a s) (3 + 3 * s + 0) v := by
  rw [r_end, r_end, mend1_upd Hb s _ _ (by omega) _ (fun p hp => by omega), upd_comm _ (by omega), mend2_upd s _ _ (by omega)]
theorem burnv {c m : Nat} (hc : c ≤ 12) (hm : m < 3) : (if 0 < nI c - (1 + nI m) then nI c - (1 + nI m) else 0) = nI (c - (1 + m)) := by
  have e1 : (1 : Int32) + nI m = nI (1 + m) := nI_add 1 m
  rw [e1]
  rcases Nat.lt_or_ge (1 + m) c with e | e
  · rw [pk_sub (by omega), if_pos (show (0 : Int32) < _ from nI_lt (a := 0) (by omega) (by omega))]
  · have e3 : ¬ (0 < nI c - nI (1 + m)) := by
      rw [Int32.lt_iff_toInt_lt, pk_sub_toInt (by omega) (by omega)]
      show ¬ (0 : Int) < _
      omega
    rw [if_neg e3, show c - (1 + m) = 0 by omega]; rfl
section THREE
variable {B : Nat} {g : FnB} {ns nw : Nat} {S : CS} {a : Fn} {G : HS} {Hb : MH}
theorem iv_lit (h : IV B g ns nw S a) : f_litB S = true ↔ 12 ≤ a 1 := by
  rw [f_litB, IV_xwa h]
  by_cases e : (12 : Int32) ≤ a 1
  · rw [if_pos e]; exact ⟨fun _ => e, fun _ => rfl⟩
  · rw [if_neg e]; exact ⟨fun q => absurd q (by decide), fun q => absurd q e⟩
theorem iv_light (hB : B < 2 ^ 30) (h : IV B g ns nw S a) {p : Nat} (hp : p < 16) : IV B g ns nw (f_light S (nI p)) (r_lit a p) := by
  obtain ⟨W, hW, eW⟩ := IV_kwa h
  rw [f_light, r_lit, IV_xwa h, fput hp (by omega), eW]
  by_cases e : (12 : Int32) ≤ nI W
  · have e2 : 12 ≤ W := (nI_leI (a := 12) (by omega) (by omega)).mp e
    rw [if_pos e, if_pos e, show nI W - 12 = nI (W - 12) from pk_sub (b := 12) e2]
    exact IV_ca (IV_wa h (W := W - 12) (B2 := B) (by omega)) hp (c := 12) (by omega)
  · rw [if_neg e, if_neg e]; exact h
theorem iv_endA (hw4 : nw ≤ 4) (hn5 : ns ≤ 5) (h : IV B g ns nw S a) {s : Nat} (hs : s < ns) : ∀ i, i ≤ 4 → IV B g ns nw (p_ag S (l_endA (nI s) (c_ag S) i)) (l_mend2 s a (min i nw))
  | 0, _ => by rw [Nat.zero_min]; exact h
  | i + 1, q => by
    have h1 := iv_endA hw4 hn5 h hs i (by omega)
    rw [l_endA, fplace (by omega) (by omega), fput (by omega) (by omega)]
    rcases Nat.lt_or_ge i nw with e | e
    · rw [(min_lo e).2] at h1
      rw [(min_lo e).1, l_mend2, Nat.add_assoc 54]
      exact IV_ag h1 e hs hw4 hn5 (.inl rfl)
    · rw [(min_hi (by omega)).2] at h1
      rw [(min_hi (by omega)).1]
      exact IV_agm h1 (by omega) (IV_kag h1 i s (by omega) (by omega) (.inl e))
theorem iv_endC (hR : RH G Hb) (h : IV B g ns nw S a) {s : Nat} (hs : s < 5) : ∀ i, i ≤ 16 → IV (B + 12 * i) g ns nw (l_endC G (nI s) S i) (l_mend1 Hb s a (min i (n_np Hb)))
  | 0, _ => by rw [Nat.zero_min]; exact h
  | i + 1, q => by
    have h1 := iv_endC hR h hs i (by omega)
    rcases Nat.lt_or_ge i (n_np Hb) with e | e
    · rw [(min_lo e).2] at h1
      rw [(min_lo e).1, l_endC, l_mend1, RH_ship hR e]
      by_cases e1 : nI (n_so Hb i) = nI s
      · rw [if_pos e1, if_pos e1]
        obtain ⟨W, hW, eW⟩ := IV_kwa h1
        obtain ⟨c, hc, ec⟩ := IV_kca h1 i (by omega)
        have h2 := IV_ca (IV_wa h1 (W := W + c) (B2 := B + 12 * (i + 1)) (by omega)) (p := i) (by omega) (c := 0) (by omega)
        rw [fat (by omega) (by omega), fput (by omega) (by omega), IV_xwa h1, IV_xca h1 i (by omega)]
        show IV _ g ns nw _ (upd (upd _ 1 (l_mend1 Hb s a i 1 + l_mend1 Hb s a i (18 + 2 * i + 0))) (18 + 2 * i + 0) 0)
        rw [eW, ec, nI_add]
        exact h2
      · rw [if_neg e1, if_neg e1]; exact IV_le h1 (by omega)
    · rw [(min_hi (by omega)).2] at h1
      rw [(min_hi (by omega)).1, l_endC, RH_ship_m hR e (by omega), if_neg (m1_ne s (by omega))]
      exact IV_le h1 (by omega)
theorem iv_end (hR : RH G Hb) (h : IV B g (n_ns Hb) (n_nw Hb) S a) {s : Nat} (hs : s < n_ns Hb) (x : Int32) : IV (B + 192) g (n_ns Hb) (n_nw Hb) (f_end G S (nI s) x) (r_end Hb (upd a (3 + 3 * s + 0) x) s) := by
  obtain ⟨-, -, -, h5, h16, h4⟩ := hR.1
  have hs5 : s < 5 := by omega
  rw [← r_end_eq Hb _ hs5 h16, f_end]
  have h1 := iv_endC hR (S := f_end2 S (nI s) x) (a := l_mend2 s (upd (upd a (3 + 3 * s + 0) x) (3 + 3 * s + 2) 0) (n_nw Hb)) (by
    have h2 := iv_endA h4 h5 (IV_ru (IV_st h hs h5 x) hs h5 false) hs 4 (by omega)
    rw [Nat.min_eq_right h4] at h2
    rw [f_end2, f_end1, fput hs5 (by omega), fmark hs5 (by omega)]
    exact h2) hs5 16 (by omega)
  rw [Nat.min_eq_right h16] at h1
  exact h1
theorem iv_age1 (hw4 : nw ≤ 4) (hn5 : ns ≤ 5) (h : IV B g ns nw S a) {w s : Nat} (hw : w < nw) (hs : s < ns) : IV B g ns nw
    (if c_ag S (5 * w + s) = -1 then S else if c_ag (f_age1 S (5 * w + s)) (5 * w + s) < 3 then f_age1 S (5 * w + s) else f_doubt (p_ag (f_age1 S (5 * w + s)) (upd (c_ag (f_age1 S (5 * w + s))) (5 * w + s) (-1))) (nI (5 * w + s) / 5))
    (if a (54 + 5 * w + s) = -1 then a else if 3 ≤ r_old1 a (54 + 5 * w + s) (54 + 5 * w + s) then r_old2 (upd (r_old1 a (54 + 5 * w + s)) (54 + 5 * w + s) (-1)) w else r_old1 a (54 + 5 * w + s)) := by
  have hi : 5 * w + s < 20 := by omega
  rw [Nat.add_assoc 54, IV_xag h _ hi]
  rcases IV_kab h _ hi with e | ⟨n, hn, e⟩
  · rw [if_pos e, if_pos e]; exact h
  · have e0 : ¬ a (54 + (5 * w + s)) = -1 := fun q => m1_ne n (by omega) (q.symm.trans e)
    have e1 : c_ag (f_age1 S (5 * w + s)) (5 * w + s) = nI (n + 1) := by
      show upd (c_ag S) (5 * w + s) (c_ag S (5 * w + s) + 1) (5 * w + s) = _
      rw [pk_us, IV_xag h _ hi, e]; exact nI_1 n
    have e2 : r_old1 a (54 + (5 * w + s)) (54 + (5 * w + s)) = nI (n + 1) := by
      show upd a (54 + (5 * w + s)) (a (54 + (5 * w + s)) + 1) (54 + (5 * w + s)) = _
      rw [pk_us, e]; exact nI_1 n
    have e3 : f_age1 S (5 * w + s) = p_ag S (upd (c_ag S) (5 * w + s) (nI (n + 1))) := by
      rw [f_age1, IV_xag h _ hi, e]; rw [nI_1]
    have e4 : r_old1 a (54 + (5 * w + s)) = upd a (54 + (5 * w + s)) (nI (n + 1)) := by
      show upd a (54 + (5 * w + s)) (a (54 + (5 * w + s)) + 1) = _
      rw [e, nI_1]
    rw [if_neg e0, if_neg e0, e1, e2]
    rcases Nat.lt_or_ge (n + 1) 3 with q | q
    · rw [if_pos (show nI (n + 1) < (3 : Int32) from nI_lt (b := 3) q (by omega)), if_neg (show ¬ (3 : Int32) ≤ nI (n + 1) from nI_ge (b := 3) q (by omega)), e3, e4]
      exact IV_ag h hw hs hw4 hn5 (.inr ⟨n + 1, q, rfl⟩)
    · rw [if_neg (show ¬ nI (n + 1) < (3 : Int32) from nI_nlt (b := 3) q (by omega)), if_pos (show (3 : Int32) ≤ nI (n + 1) from nI_le (a := 3) q (by omega)), e3, e4]
      have e5 : nI (5 * w + s) / 5 = nI w := by
        show nI (5 * w + s) / nI 5 = _
        rw [pk_div (by omega) (by omega) (by omega), show (5 * w + s) / 5 = w by omega]
      obtain ⟨t, ht, et⟩ := IV_ktr h w (by omega)
      have h2 := IV_ag h hw hs hw4 hn5 (v := -1) (.inl rfl)
      have h3 := IV_tr h2 (w := w) (by omega) (t := t - 2) (by omega)
      have e7 : (if (0 : Int32) < nI t - 2 then nI t - 2 else 0) = nI (t - 2) := by
        have e6 : (2 : Int32) = nI 2 := rfl
        rw [e6]
        rcases Nat.lt_or_ge 2 t with r | r
        · rw [pk_sub (by omega), if_pos (show (0 : Int32) < _ from nI_lt (a := 0) (by omega) (by omega))]
        · have e3 : ¬ (0 < nI t - nI 2) := by
            rw [Int32.lt_iff_toInt_lt, pk_sub_toInt (by omega) (by omega)]
            show ¬ (0 : Int) < _
            omega
          rw [if_neg e3, show t - 2 = 0 by omega]; rfl
      rw [f_doubt, e5, fput (by omega) (by omega), fat (by omega) (by omega)]
      have e8 : c_tr (p_ag (p_ag S (upd (c_ag S) (5 * w + s) (nI (n + 1)))) (upd (c_ag (p_ag S (upd (c_ag S) (5 * w + s) (nI (n + 1))))) (5 * w + s) (-1))) = c_tr S := rfl
      have e9 : p_ag (p_ag S (upd (c_ag S) (5 * w + s) (nI (n + 1)))) (upd (c_ag (p_ag S (upd (c_ag S) (5 * w + s) (nI (n + 1))))) (5 * w + s) (-1)) = p_ag S (upd (c_ag S) (5 * w + s) (-1)) := by
        show p_ag S (upd (upd (c_ag S) (5 * w + s) (nI (n + 1))) (5 * w + s) (-1)) = _
        rw [upd_upd]
      rw [e8, e9, IV_xtr h w (by omega), et, e7, upd_upd]
      show IV B g ns nw _ (upd (upd a (54 + (5 * w + s)) (-1)) (50 + w) (if 0 < upd a (54 + (5 * w + s)) (-1) (50 + w) - 2 then upd a (54 + (5 * w + s)) (-1) (50 + w) - 2 else 0))
      rw [pk_un (show 50 + w ≠ 54 + (5 * w + s) by omega), et, e7]
      exact h3
theorem iv_age2 (hw4 : nw ≤ 4) (hn5 : ns ≤ 5) {w : Nat} (hw : w < nw) (h : IV B g ns nw (l_age S (5 * w)) a) : ∀ s, s ≤ 5 → IV B g ns nw (l_age S (5 * w + s)) (l_old1 a w (min s ns))
  | 0, _ => by rw [Nat.zero_min]; exact h
  | s + 1, q => by
    have h1 := iv_age2 hw4 hn5 hw h s (by omega)
    rw [← Nat.add_assoc, l_age]
    rcases Nat.lt_or_ge s ns with e | e
    · rw [(min_lo e).2] at h1
      rw [(min_lo e).1, l_old1]
      exact iv_age1 hw4 hn5 h1 hw e
    · rw [(min_hi (by omega)).2] at h1
      rw [(min_hi (by omega)).1, if_pos ((IV_xag h1 (5 * w + s) (by omega)).trans (IV_kag h1 w s (by omega) (by omega) (.inr e)))]
      exact h1
theorem iv_age3 {w : Nat} (hw : nw ≤ w) (hw4 : w < 4) (h : IV B g ns nw (l_age S (5 * w)) a) : ∀ s, s ≤ 5 → IV B g ns nw (l_age S (5 * w + s)) a
  | 0, _ => h
  | s + 1, q => by
    have h1 := iv_age3 hw hw4 h s (by omega)
    rw [← Nat.add_assoc, l_age, if_pos ((IV_xag h1 (5 * w + s) (by omega)).trans (IV_kag h1 w s (by omega) (by omega) (.inl hw)))]
    exact h1
theorem iv_age4 (h4 : n_nw Hb ≤ 4) (h5 : n_ns Hb ≤ 5) (h : IV B g (n_ns Hb) (n_nw Hb) S a) : ∀ w, w ≤ 4 → IV B g (n_ns Hb) (n_nw Hb) (l_age S (5 * w)) (l_old Hb a (min w (n_nw Hb)))
  | 0, _ => by rw [Nat.zero_min]; exact h
  | w + 1, q => by
    have h1 := iv_age4 h4 h5 h w (by omega)
    rw [show 5 * (w + 1) = 5 * w + 5 by omega]
    rcases Nat.lt_or_ge w (n_nw Hb) with e | e
    · rw [(min_lo e).2] at h1
      rw [(min_lo e).1, l_old]
      have h2 := iv_age2 h4 h5 e h1 5 (by omega)
      rw [Nat.min_eq_right h5] at h2
      exact h2
    · rw [(min_hi (by omega)).2] at h1
      rw [(min_hi (by omega)).1]
      exact iv_age3 e (by omega) h1 5 (by omega)
theorem iv_rung (h : IV B g ns nw S a) {s : Nat} (hs : s < 5) : f_is 5 (c_ru S) (nI s) = true ↔ ¬ a (3 + 3 * s + 2) = 0 := by
  rw [fis hs (by omega), ← IV_xru h s hs, bI_e0]
  cases c_ru S s <;> decide
theorem iv_unr' (hR : RH G Hb) (h : IV B g (n_ns Hb) (n_nw Hb) S a) : ∀ i, i ≤ 5 → IV B g (n_ns Hb) (n_nw Hb) (l_unr S i) (l_mun Hb a (min i (n_ns Hb)))
  | 0, _ => by rw [Nat.zero_min]; exact h
  | i + 1, q => by
    have h1 := iv_unr' hR h i (by omega)
    have h5 := hR.1.2.2.2.1
    have h4 := hR.1.2.2.2.2.2
    rcases Nat.lt_or_ge i (n_ns Hb) with e | e
    · rw [(min_lo e).2] at h1
      rw [(min_lo e).1, l_unr, l_mun]
      by_cases e1 : l_mun Hb a i (3 + 3 * i + 2) = 0
      · rw [if_pos e1, if_neg (fun r => (iv_rung h1 (by omega)).mp r e1)]; exact h1
      · rw [if_neg e1, if_pos ((iv_rung h1 (by omega)).mpr e1), iv_trust h1 h4 (by omega)]
        by_cases e2 : l_mtr (l_mun Hb a i) i (n_nw Hb) < 6
        · rw [if_pos e2, if_neg (nle.mpr e2), fmark (by omega) (by omega)]
          have h2 := IV_un (IV_ru h1 e h5 false) (c_un (l_unr S i) + 1)
          show IV B g _ _ _ (upd (upd (l_mun Hb a i) (3 + 3 * i + 2) 0) 2 (upd (l_mun Hb a i) (3 + 3 * i + 2) 0 2 + 1))
          rw [pk_un (show 2 ≠ 3 + 3 * i + 2 by omega), ← IV_xun h1]
          exact h2
        · rw [if_neg e2, if_pos (nlt.mp e2)]; exact h1
    · rw [(min_hi (by omega)).2] at h1
      rw [(min_hi (by omega)).1, l_unr, if_neg (fun r => (iv_rung h1 (by omega)).mp r (IV_kst h1 i e (by omega)).2)]
      exact h1
theorem iv_nightA (hR : RH G Hb) (h : IV B g (n_ns Hb) (n_nw Hb) S a) : IV B g (n_ns Hb) (n_nw Hb) (f_nightA S) (r_nightA Hb a) := by
  have h5 := hR.1.2.2.2.1
  have h4 := hR.1.2.2.2.2.2
  have h1 := iv_age4 h4 h5 h 4 (by omega)
  rw [Nat.min_eq_right h4] at h1
  have h2 := iv_unr' hR h1 5 (by omega)
  rw [Nat.min_eq_right h5] at h2
  exact h2
theorem iv_burn (hB : B < 2 ^ 30) (hR : RH G Hb) (h : IV B g ns nw S a) {p : Nat} (hp : p < n_np Hb) : IV B g ns nw
    (if f_stay S (f_ship G (nI p)) = 1 then (if f_is 5 (c_ru S) (f_ship G (nI p)) = true then S else if f_at 16 (c_ca (f_burn1 G S (nI p))) (nI p) = 0 then f_light (f_burn1 G S (nI p)) (nI p) else f_burn1 G S (nI p)) else S) (r_burn Hb a p)
    ∧ ∀ N : Int32, (if f_stay S (f_ship G (nI p)) = 1 then (if f_is 5 (c_ru S) (f_ship G (nI p)) = true then N else if f_at 16 (c_ca (f_burn1 G S (nI p))) (nI p) = 0 then (if f_litB (f_burn1 G S (nI p)) = true then N + 1 else N) else N) else N) = N + r_burnN Hb a p := by
  have h16 : p < 16 := by have := hR.1.2.2.2.2.1; omega
  obtain ⟨e1, e2, e3, e4, m, hm, em⟩ := hR.2.2.1 p hp
  have e5 := RH_so hR hp
  obtain ⟨c, hc, ec⟩ := IV_kca h p h16
  have e6 : f_burn1 G S (nI p) = p_ca S (upd (c_ca S) p (nI (c - (1 + m)))) := by
    rw [f_burn1, fput h16 (by omega), fat h16 (by omega), fat h16 (by omega), e3, em, IV_xca h p h16, ec, burnv hc hm]
  have e7 : r_burn1 Hb a p = upd a (18 + 2 * p + 0) (nI (c - (1 + m))) := by
    show upd a (18 + 2 * p + 0) (if 0 < a (18 + 2 * p + 0) - 1 - n_mo Hb p then a (18 + 2 * p + 0) - 1 - n_mo Hb p else 0) = _
    rw [ec, em, Int32.sub_sub, burnv hc hm]
  have h1 := IV_ca h h16 (c := c - (1 + m)) (by omega)
  have e8 : f_at 16 (c_ca (p_ca S (upd (c_ca S) p (nI (c - (1 + m)))))) (nI p) = nI (c - (1 + m)) := by
    rw [fat h16 (by omega)]; exact pk_us
  rw [RH_ship hR hp, iv_stay h e5, e6, e8, r_burn, r_burnN, d_out, e7]
  by_cases q1 : a (3 + 3 * n_so Hb p + 0) = 1
  · by_cases q2 : a (3 + 3 * n_so Hb p + 2) = 0
    · have q3 : ¬ a (3 + 3 * n_so Hb p + 2) = 1 := by rw [q2]; decide
      have q4 := fun r => (iv_rung h e5).mp r q2
      by_cases q5 : nI (c - (1 + m)) = 0
      · refine ⟨?_, fun N => ?_⟩
        · rw [if_pos q1, if_pos q1, if_pos rfl, if_neg q4, if_neg q3, pk_us, if_pos q5, if_pos q5]
          exact iv_light hB h1 h16
        · rw [if_pos q1, if_pos q1, if_pos rfl, if_neg q4, if_neg q3, pk_us, if_pos q5, if_pos q5, r_litN]
          by_cases q6 : 12 ≤ upd a (18 + 2 * p + 0) (nI (c - (1 + m))) 1
          · rw [if_pos q6, if_pos ((iv_lit h1).mpr q6)]
          · rw [if_neg q6, if_neg (fun r => q6 ((iv_lit h1).mp r)), Int32.add_zero]
      · refine ⟨?_, fun N => ?_⟩
        · rw [if_pos q1, if_pos q1, if_pos rfl, if_neg q4, if_neg q3, pk_us, if_neg q5, if_neg q5]
          exact h1
        · rw [if_pos q1, if_pos q1, if_pos rfl, if_neg q4, if_neg q3, pk_us, if_neg q5, if_neg q5, Int32.add_zero]
    · have q3 : a (3 + 3 * n_so Hb p + 2) = 1 := by
        rw [← IV_xru h _ e5] at q2 ⊢
        revert q2
        cases c_ru S (n_so Hb p) <;> decide
      have q4 := (iv_rung h e5).mpr q2
      refine ⟨?_, fun N => ?_⟩
      · rw [if_pos q1, if_pos q1, if_pos rfl, if_pos q4, if_pos q3]
        exact h
      · rw [if_pos q1, if_pos q1, if_pos rfl, if_pos q4, if_pos q3, Int32.add_zero]
  · refine ⟨?_, fun N => ?_⟩
    · rw [if_neg q1, if_neg q1, if_neg (by decide)]
      exact h
    · rw [if_neg q1, if_neg q1, if_neg (by decide), Int32.add_zero]
theorem iv_burns' (hB : B < 2 ^ 30) (hR : RH G Hb) (h : IV B g ns nw S a) : ∀ i, i ≤ 16 → IV B g ns nw (l_burnS G S i) (l_mbu Hb a (min i (n_np Hb))) ∧ l_burnN G S i = l_mbuN Hb a (min i (n_np Hb))
  | 0, _ => by rw [Nat.zero_min]; exact ⟨h, rfl⟩
  | i + 1, q => by
    obtain ⟨h1, h2⟩ := iv_burns' hB hR h i (by omega)
    rcases Nat.lt_or_ge i (n_np Hb) with e | e
    · rw [(min_lo e).2] at h1 h2
      rw [(min_lo e).1, l_burnS, l_burnN, l_mbu, l_mbuN]
      obtain ⟨h3, h4⟩ := iv_burn hB hR h1 e
      exact ⟨h3, by rw [h4, h2]⟩
    · rw [(min_hi (by omega)).2] at h1 h2
      rw [(min_hi (by omega)).1, l_burnS, l_burnN, RH_ship_m hR e (by omega), fstay_m, if_neg (by decide), if_neg (by decide)]
      exact ⟨h1, h2⟩
theorem iv_burns (hB : B < 2 ^ 30) (hR : RH G Hb) (h : IV B g ns nw S a) : IV B g ns nw (l_burnS G S 16) (l_mbu Hb a (n_np Hb)) ∧ l_burnN G S 16 = l_mbuN Hb a (n_np Hb) := by
  have := iv_burns' hB hR h 16 (by omega)
  rw [Nat.min_eq_right hR.1.2.2.2.2.1] at this
  exact this
theorem iv_out1 (h : IV B g ns nw S a) {s : Nat} (hs : s < 5) : IV B g ns nw (f_out1 S (nI s)) (r_nt1 a s) := by
  rw [f_out1, fput hs (by omega), fat hs (by omega), IV_xou h s hs]
  exact IV_ou h hs _
theorem iv_loss' (hR : RH G Hb) (hG : RG G) (h : IV B (g_gi G) (n_ns Hb) (n_nw Hb) S a) : ∀ i, i ≤ 5 → IV (B + 192 * i) (g_gi G) (n_ns Hb) (n_nw Hb) (l_loss G S i) (l_mls Hb a (min i (n_ns Hb)))
  | 0, _ => by rw [Nat.zero_min]; exact h
  | i + 1, q => by
    have h1 := iv_loss' hR hG h i (by omega)
    have h5 := hR.1.2.2.2.1
    rcases Nat.lt_or_ge i (n_ns Hb) with e | e
    · rw [(min_lo e).2] at h1
      rw [(min_lo e).1, l_loss, l_mls, d_out, iv_stay h1 (by omega)]
      have h2 := iv_out1 h1 (s := i) (by omega)
      by_cases e1 : l_mls Hb a i (3 + 3 * i + 0) = 1
      · rw [if_pos e1, if_pos e1, if_pos rfl, fat (by omega) (by omega), IV_xou h1 i (by omega), show r_nt1 (l_mls Hb a i) i (3 + 3 * i + 1) = l_mls Hb a i (3 + 3 * i + 1) + 1 from pk_us]
        by_cases e2 : l_mls Hb a i (3 + 3 * i + 1) + 1 ≤ 20
        · rw [if_pos e2, if_pos e2]; exact IV_le h2 (by omega)
        · rw [if_neg e2, if_neg e2]
          have e3 := iv_vtl hR hG h2 (s := i) (by omega)
          by_cases e4 : f_vtl G (nI i) = 0
          · rw [if_pos e4, if_pos (e3.mp e4)]
            exact IV_le (iv_end hR h2 e 2) (by omega)
          · rw [if_neg e4, if_neg (fun r => e4 (e3.mpr r))]; exact IV_le h2 (by omega)
      · rw [if_neg e1, if_neg e1, if_neg (by decide)]; exact IV_le h1 (by omega)
    · rw [(min_hi (by omega)).2] at h1
      rw [(min_hi (by omega)).1, l_loss, iv_stay h1 (by omega), (IV_kst h1 i e (by omega)).1, if_neg (by decide)]
      exact IV_le h1 (by omega)
theorem iv_night (hB : B < 2 ^ 30) (hR : RH G Hb) (hG : RG G) (h : IV B (g_gi G) (n_ns Hb) (n_nw Hb) S a) : IV (B + 960) (g_gi G) (n_ns Hb) (n_nw Hb) (f_night G S) (r_night Hb a) ∧ f_nightN G S = r_nightN Hb a := by
  obtain ⟨h1, h2⟩ := iv_burns hB hR (iv_nightA hR h)
  have h3 := iv_loss' hR hG h1 5 (by omega)
  rw [Nat.min_eq_right hR.1.2.2.2.1] at h3
  refine ⟨?_, h2⟩
  have h4 := IV_ni h3 (c_ni (l_loss G (l_burnS G (f_nightA S) 16) 5) + 1)
  rw [f_night, r_night, r_nightC, ← IV_xni h3]
  exact h4
theorem iv_pass (hR : RH G Hb) (hG : RG G) (h : IV B (g_gi G) (n_ns Hb) (n_nw Hb) S a) : ∀ i, B + 960 * i < 2 ^ 30 → IV (B + 960 * i) (g_gi G) (n_ns Hb) (n_nw Hb) (l_passS G S i) (l_mpass Hb a i) ∧ l_passN G S i = l_mpassN Hb a i
  | 0, _ => ⟨h, rfl⟩
  | i + 1, q => by
    obtain ⟨h1, h2⟩ := iv_pass hR hG h i (by omega)
    obtain ⟨h3, h4⟩ := iv_night (by omega) hR hG h1
    rw [l_passS, l_mpass, l_passN, l_mpassN, h2, h4]
    exact ⟨IV_le h3 (by omega), rfl⟩
end THREE
