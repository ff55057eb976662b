/-! ===== the calls: what is answered, and what is kept ===== -/
def INV (b : Nat) (G : HS) (S : CS) (Hb : MH) (a : Fn) : Prop := RH G Hb ∧ RG G ∧ IV b (g_gi G) (n_ns Hb) (n_nw Hb) S a
theorem m1_toInt : (-1 : Int32).toInt = -1 := by decide
theorem ix_case (z : Int32) {n : Nat} (hn : n < 1000) : (∃ j, j < n ∧ z = nI j) ∨ (d_in z 0 (nI n - 1) = false ∧ (z < 0 ∨ nI n ≤ z)) := by
  rcases pk_ix z (n := n) (by omega) with h | h | h
  · exact .inr ⟨by rw [d_in, if_pos h], .inl h⟩
  · refine .inr ⟨?_, .inr h⟩
    have h1 : nI n - 1 < z := by
      rw [Int32.lt_iff_toInt_lt, show (nI n - 1).toInt = (n : Int) - (1 : Nat) from pk_sub_toInt (b := 1) (by omega) (by omega)]
      rw [Int32.le_iff_toInt_le, nI_toInt (by omega)] at h
      omega
    rw [d_in, if_pos h1]
    split <;> rfl
  · exact .inl h
theorem rg_case (z : Int32) {k : Nat} (hk : k < 1000) : (∃ j, 1 ≤ j ∧ j ≤ k ∧ z = nI j ∧ ¬ z < 1 ∧ z ≤ nI k ∧ d_in z 1 (nI k) = true) ∨ (d_in z 1 (nI k) = false ∧ (z < 1 ∨ ¬ z ≤ nI k)) := by
  by_cases h1 : z < 1
  · exact .inr ⟨by rw [d_in, if_pos h1], .inl h1⟩
  · by_cases h2 : z ≤ nI k
    · have h0 : ¬ z < 0 := fun q => h1 (by rw [Int32.lt_iff_toInt_lt] at *; exact Int.lt_trans q (by decide))
      obtain ⟨j, hj, e⟩ := nI_of h0
      subst e
      have h3 : j ≤ k := (nI_leI hj (by omega)).mp h2
      have h4 : 1 ≤ j := by
        rcases Nat.eq_zero_or_pos j with r | r
        · subst r; exact absurd (by decide) h1
        · exact r
      exact .inl ⟨j, h4, h3, rfl, h1, h2, by rw [d_in, if_neg h1, if_neg (nlt.mpr h2)]⟩
    · exact .inr ⟨by rw [d_in, if_neg h1, if_pos (nle.mp h2)], .inr h2⟩
theorem wat_ok {G : HS} {n : Nat} (hn : n < g_wc G) (h : g_wc G < 1000) : t_wat G (nI n) = 0 := by
  rw [t_wat, if_neg (nI_pos (by omega)), if_pos (nI_lt hn (by omega))]
theorem wat_no {G : HS} {z : Int32} (h : z < 0 ∨ nI (g_wc G) ≤ z) : t_wat G z = 1 := by
  rw [t_wat]
  rcases h with h | h
  · rw [if_pos h]
  · rw [if_neg (c := z < nI (g_wc G)) (nlt.mpr h)]; split <;> rfl
theorem ship_ok {G : HS} {n : Nat} (hn : n < g_sc G) (h : g_sc G < 1000) : t_ship G (nI n) = 0 := by
  rw [t_ship, if_neg (nI_pos (by omega)), if_pos (nI_lt hn (by omega))]
theorem ship_no {G : HS} {z : Int32} (h : z < 0 ∨ nI (g_sc G) ≤ z) : t_ship G z = 1 := by
  rw [t_ship]
  rcases h with h | h
  · rw [if_pos h]
  · rw [if_neg (c := z < nI (g_sc G)) (nlt.mpr h)]; split <;> rfl
theorem sail_ok {G : HS} {n : Nat} (hn : n < g_pc G) (h : g_pc G < 1000) : t_sail G (nI n) = 0 := by
  rw [t_sail, if_neg (nI_pos (by omega)), if_pos (nI_lt hn (by omega))]
theorem sail_no {G : HS} {z : Int32} (h : z < 0 ∨ nI (g_pc G) ≤ z) : t_sail G z = 1 := by
  rw [t_sail]
  rcases h with h | h
  · rw [if_pos h]
  · rw [if_neg (c := z < nI (g_pc G)) (nlt.mpr h)]; split <;> rfl
theorem d_out_t {a : Fn} {s : Nat} : d_out a s = true ↔ a (3 + 3 * s + 0) = 1 := by
  rw [d_out]
  by_cases e : a (3 + 3 * s + 0) = 1
  · rw [if_pos e]; exact ⟨fun _ => e, fun _ => rfl⟩
  · rw [if_neg e]; exact ⟨fun q => absurd q (by decide), fun q => absurd q e⟩
theorem updN_s {f : FnN} {k x : Nat} : updN f k x k = x := if_pos rfl
theorem updN_n {f : FnN} {k j x : Nat} (h : j ≠ k) : updN f k x j = f j := if_neg h
theorem clr_le (sh : Fn) (s : Int32) (b : FnB) (p : Nat) : ∀ i, l_clr sh s b i p = true → b p = true
  | 0, h => h
  | i + 1, h => by
    rw [l_clr] at h
    split at h
    · by_cases e : p = i
      · subst e; rw [updB_s] at h; exact absurd h (by decide)
      · rw [updB_n e] at h; exact clr_le sh s b p i h
    · exact clr_le sh s b p i h
section SIX
variable {b : Nat} {S : CS} {a : Fn} {G : HS} {Hb : MH}
theorem INV_le (h : INV b G S Hb a) : INV (b + 58000) G S Hb a := ⟨h.1, h.2.1, IV_le h.2.2 (by omega)⟩
theorem INV_so (h : INV b G S Hb a) : ∀ p, p < n_np Hb → n_so Hb p < 5 := fun p hp => RH_so h.1 hp
theorem ship_case (h : INV b G S Hb a) (z : Int32) : (t_ship G z = 1 ∧ d_in z 0 (nI (n_ns Hb) - 1) = false) ∨ ∃ n, z = nI n ∧ t_ship G (nI n) = 0 ∧ n < n_ns Hb := by
  obtain ⟨e1, e2, e3, h5, h16, h4⟩ := h.1.1
  rcases ix_case z (n := n_ns Hb) (by omega) with ⟨j, hj, e⟩ | ⟨h1, h2⟩
  · exact .inr ⟨j, e, ship_ok (by omega) (by omega), hj⟩
  · exact .inl ⟨ship_no (by rw [← e1]; exact h2), h1⟩
theorem sail_case (h : INV b G S Hb a) (z : Int32) : (t_sail G z = 1 ∧ d_in z 0 (nI (n_np Hb) - 1) = false) ∨ ∃ n, z = nI n ∧ t_sail G (nI n) = 0 ∧ n < n_np Hb := by
  obtain ⟨e1, e2, e3, h5, h16, h4⟩ := h.1.1
  rcases ix_case z (n := n_np Hb) (by omega) with ⟨j, hj, e⟩ | ⟨h1, h2⟩
  · exact .inr ⟨j, e, sail_ok (by omega) (by omega), hj⟩
  · exact .inl ⟨sail_no (by rw [← e2]; exact h2), h1⟩
theorem wat_case (h : INV b G S Hb a) (z : Int32) : (t_wat G z = 1 ∧ d_in z 0 (nI (n_nw Hb) - 1) = false) ∨ ∃ n, z = nI n ∧ t_wat G (nI n) = 0 ∧ n < n_nw Hb := by
  obtain ⟨e1, e2, e3, h5, h16, h4⟩ := h.1.1
  rcases ix_case z (n := n_nw Hb) (by omega) with ⟨j, hj, e⟩ | ⟨h1, h2⟩
  · exact .inr ⟨j, e, wat_ok (by omega) (by omega), hj⟩
  · exact .inl ⟨wat_no (by rw [← e3]; exact h2), h1⟩
theorem nights_case (z : Int32) {k : Nat} (hk : k < 1000) : (t_nights z (nI k) = 3 ∧ d_in z 1 (nI k) = false) ∨ ∃ n, z = nI n ∧ t_nights (nI n) (nI k) = 0 ∧ 1 ≤ n ∧ n ≤ k := by
  rcases rg_case z hk with ⟨j, h1, h2, e, h3, h4, h5⟩ | ⟨h1, h2⟩
  · subst e; exact .inr ⟨j, rfl, by rw [t_nights, if_neg h3, if_pos h4], h1, h2⟩
  · refine .inl ⟨?_, h1⟩
    rw [t_nights]
    rcases h2 with r | r
    · rw [if_pos r]
    · rw [if_neg r]; split <;> rfl
theorem op_addShip (h : INV b G S Hb a) (z : Int32) :
    (t_addShip G z = 3 ∧ d_in z 1 3 = false) ∨ (t_addShip G z = 2 ∧ d_in z 1 3 = true ∧ n_ns Hb = 5) ∨
    (t_addShip G z = 0 ∧ d_in z 1 3 = true ∧ n_ns Hb < 5 ∧ (nI (g_sc G) : Int32).toInt64 = (nI (n_ns Hb) : Int32).toInt64 ∧ INV (b + 58000) (f_eship G z) S (o_ns (o_ma Hb (upd (n_ma Hb) (n_ns Hb) z)) (n_ns Hb + 1)) a) := by
  obtain ⟨hR, hG, hV⟩ := h
  obtain ⟨e1, e2, e3, h5, h16, h4⟩ := hR.1
  rcases rg_case z (k := 3) (by omega) with ⟨j, j1, j2, e, j3, j4, j5⟩ | ⟨r1, r2⟩
  · rcases Nat.lt_or_ge (n_ns Hb) 5 with q | q
    · refine .inr (.inr ⟨?_, j5, q, by rw [e1], ?_, hG, IV_le (IV_more hV (Nat.le_succ _) (Nat.le_refl _)) (by omega)⟩)
      · rw [t_addShip, if_neg j3, if_pos (show z ≤ (3 : Int32) from j4), if_pos (show nI (g_sc G) < (5 : Int32) from nI_lt (b := 5) (by omega) (by omega))]
      · refine ⟨⟨congrArg (· + 1) e1, e2, e3, q, h16, h4⟩, fun s hs => ?_, fun p hp => ?_, hR.2.2.2⟩
        · show f_put 5 (g_ma G) (nI (g_sc G)) z s = upd (n_ma Hb) (n_ns Hb) z s ∧ ∃ m, 1 ≤ m ∧ m ≤ 3 ∧ upd (n_ma Hb) (n_ns Hb) z s = nI m
          have hs : s < n_ns Hb + 1 := hs
          rw [fput (by omega) (by omega), ← e1]
          by_cases c : s = n_ns Hb
          · rw [c, pk_us, pk_us]; exact ⟨rfl, j, j1, j2, e⟩
          · rw [pk_un c, pk_un c]; exact hR.2.1 s (by omega)
        · obtain ⟨i1, i2, i3, i4, i5⟩ := hR.2.2.1 p hp
          exact ⟨i1, Nat.lt_succ_of_lt i2, i3, i4, i5⟩
    · refine .inr (.inl ⟨?_, j5, by omega⟩)
      rw [t_addShip, if_neg j3, if_pos (show z ≤ (3 : Int32) from j4), if_neg (show ¬ nI (g_sc G) < (5 : Int32) from nI_nlt (b := 5) (by omega) (by omega))]
  · refine .inl ⟨?_, r1⟩
    rw [t_addShip]
    rcases r2 with r | r
    · rw [if_pos r]
    · rw [if_neg (c := z ≤ 3) r]; split <;> rfl
theorem op_addSailor (h : INV b G S Hb a) (z1 z2 : Int32) (v : Bool) :
    (t_addSailor G S z1 z2 = 1 ∧ d_in z1 0 (nI (n_ns Hb) - 1) = false) ∨ ∃ n1, z1 = nI n1 ∧
    ((t_addSailor G S (nI n1) z2 = 1 ∧ n1 < n_ns Hb ∧ d_in z2 0 (n_ma Hb n1 - 1) = false) ∨
     (t_addSailor G S (nI n1) z2 = 2 ∧ n1 < n_ns Hb ∧ d_in z2 0 (n_ma Hb n1 - 1) = true ∧ ¬ a (3 + 3 * n1 + 0) = 0) ∨
     (t_addSailor G S (nI n1) z2 = 2 ∧ n1 < n_ns Hb ∧ d_in z2 0 (n_ma Hb n1 - 1) = true ∧ a (3 + 3 * n1 + 0) = 0 ∧ n_np Hb = 16) ∨
     (t_addSailor G S (nI n1) z2 = 0 ∧ n1 < n_ns Hb ∧ d_in z2 0 (n_ma Hb n1 - 1) = true ∧ a (3 + 3 * n1 + 0) = 0 ∧ n_np Hb < 16 ∧ (nI (g_pc G) : Int32).toInt64 = (nI (n_np Hb) : Int32).toInt64 ∧
       INV (b + 58000) (f_esail G (nI n1) z2 v) S (o_np (o_vo (o_mo (o_so Hb (updN (n_so Hb) (n_np Hb) n1)) (upd (n_mo Hb) (n_np Hb) z2)) (updB (n_vo Hb) (n_np Hb) v)) (n_np Hb + 1)) a)) := by
  rcases ship_case h z1 with ⟨r1, r2⟩ | ⟨n1, e, r1, r2⟩
  · exact .inl ⟨by rw [t_addSailor, r1, if_neg (by decide)], r2⟩
  · refine .inr ⟨n1, e, ?_⟩
    obtain ⟨hR, hG, hV⟩ := h
    obtain ⟨e1, e2, e3, h5, h16, h4⟩ := hR.1
    obtain ⟨i1, m, m1, m2, i2⟩ := hR.2.1 n1 r2
    have ht : t_addSailor G S (nI n1) z2 = if z2 < 0 then 1 else if z2 < nI m then (if a (3 + 3 * n1 + 0) = 0 then (if nI (g_pc G) < 16 then 0 else 2) else 2) else 1 := by
      rw [t_addSailor, r1, if_pos rfl, fat (by omega) (by omega), i1, i2, iv_stay hV (by omega)]
    rw [ht, i2]
    rcases ix_case z2 (n := m) (by omega) with ⟨j, hj, ej⟩ | ⟨q1, q2⟩
    · subst ej
      have hd : d_in (nI j) 0 (nI m - 1) = true := d_in_n hj (by omega)
      rw [if_neg (nI_pos (by omega)), if_pos (nI_lt hj (by omega))]
      by_cases c1 : a (3 + 3 * n1 + 0) = 0
      · rw [if_pos c1]
        rcases Nat.lt_or_ge (n_np Hb) 16 with q | q
        · refine .inr (.inr (.inr ⟨if_pos (show nI (g_pc G) < (16 : Int32) from nI_lt (b := 16) (by omega) (by omega)), r2, hd, c1, q, by rw [e2], ?_, ?_, IV_le hV (by omega)⟩))
          · refine ⟨⟨e1, congrArg (· + 1) e2, e3, h5, q, h4⟩, hR.2.1, fun p hp => ?_, fun p hp hp2 => ?_⟩
            · have hp : p < n_np Hb + 1 := hp
              show f_put 16 (g_sh G) (nI (g_pc G)) (nI n1) p = nI (updN (n_so Hb) (n_np Hb) n1 p) ∧ updN (n_so Hb) (n_np Hb) n1 p < n_ns Hb ∧ f_put 16 (g_mt G) (nI (g_pc G)) (nI j) p = upd (n_mo Hb) (n_np Hb) (nI j) p ∧ f_mark 16 (g_vo G) (nI (g_pc G)) v p = updB (n_vo Hb) (n_np Hb) v p ∧ ∃ m, m < 3 ∧ upd (n_mo Hb) (n_np Hb) (nI j) p = nI m
              rw [fput (by omega) (by omega), fput (by omega) (by omega), fmark (by omega) (by omega), ← e2]
              by_cases c : p = n_np Hb
              · rw [c, pk_us, pk_us, pk_us, updN_s, updB_s, updB_s]; exact ⟨rfl, r2, rfl, rfl, j, by omega, rfl⟩
              · rw [pk_un c, pk_un c, pk_un c, updN_n c, updB_n c, updB_n c]; exact hR.2.2.1 p (by omega)
            · have hp : n_np Hb + 1 ≤ p := hp
              show f_put 16 (g_sh G) (nI (g_pc G)) (nI n1) p = -1 ∧ f_mark 16 (g_vo G) (nI (g_pc G)) v p = false
              rw [fput (by omega) (by omega), fmark (by omega) (by omega), ← e2, pk_un (by omega), updB_n (by omega)]
              exact hR.2.2.2 p (by omega) hp2
          · intro p hp hg
            have hg : g_gi G p = true := hg
            show f_mark 16 (g_vo G) (nI (g_pc G)) v p = true
            rw [fmark (by omega) (by omega), ← e2]
            have hv := hG p hp hg
            by_cases c : p = n_np Hb
            · have := (hR.2.2.2 p (by omega) hp).2
              rw [hv] at this
              exact absurd this (by decide)
            · rw [updB_n c]; exact hv
        · exact .inr (.inr (.inl ⟨if_neg (show ¬ nI (g_pc G) < (16 : Int32) from nI_nlt (b := 16) (by omega) (by omega)), r2, hd, c1, by omega⟩))
      · rw [if_neg c1]
        exact .inr (.inl ⟨rfl, r2, hd, c1⟩)
    · refine .inl ⟨?_, r2, q1⟩
      rcases q2 with q | q
      · rw [if_pos q]
      · rw [if_neg (c := z2 < nI m) (nlt.mpr q)]; split <;> rfl
theorem op_addWatcher (h : INV b G S Hb a) :
    (t_addWatcher G = 2 ∧ n_nw Hb = 4) ∨ (t_addWatcher G = 0 ∧ n_nw Hb < 4 ∧ (nI (g_wc G) : Int32).toInt64 = (nI (n_nw Hb) : Int32).toInt64 ∧ INV (b + 58000) (f_ewat G) (f_addWatcher G S) (o_nw Hb (n_nw Hb + 1)) (upd a (50 + n_nw Hb) 5)) := by
  obtain ⟨hR, hG, hV⟩ := h
  obtain ⟨e1, e2, e3, h5, h16, h4⟩ := hR.1
  rcases Nat.lt_or_ge (n_nw Hb) 4 with q | q
  · refine .inr ⟨if_pos (show nI (g_wc G) < (4 : Int32) from nI_lt (b := 4) (by omega) (by omega)), q, by rw [e3], ⟨⟨e1, e2, congrArg (· + 1) e3, h5, h16, q⟩, hR.2⟩, hG, ?_⟩
    rw [f_addWatcher, fput (by omega) (by omega), ← e3]
    exact IV_le (IV_more (IV_tr hV q (t := 5) (by omega)) (Nat.le_refl _) (Nat.le_succ _)) (by omega)
  · exact .inl ⟨if_neg (show ¬ nI (g_wc G) < (4 : Int32) from nI_nlt (b := 4) (by omega) (by omega)), by omega⟩
theorem op_buyWax (hb : b < 2 ^ 29) (h : INV b G S Hb a) (z : Int32) :
    (t_buyWax z = 3 ∧ d_in z 1 500 = false) ∨ (t_buyWax z = 0 ∧ d_in z 1 500 = true ∧ (c_wa S + z : Int32).toInt64 = (a 1 + z : Int32).toInt64 ∧ INV (b + 58000) G (p_wa S (c_wa S + z)) Hb (upd a 1 (a 1 + z))) := by
  obtain ⟨hR, hG, hV⟩ := h
  rcases rg_case z (k := 500) (by omega) with ⟨j, j1, j2, e, j3, j4, j5⟩ | ⟨r1, r2⟩
  · refine .inr ⟨by rw [t_buyWax, if_neg j3, if_pos (show z ≤ (500 : Int32) from j4)], j5, by rw [IV_xwa hV], hR, hG, ?_⟩
    rw [e]
    exact IV_le (IV_wax hV j) (by omega)
  · refine .inl ⟨?_, r1⟩
    rw [t_buyWax]
    rcases r2 with r | r
    · rw [if_pos r]
    · rw [if_neg (c := z ≤ 500) r]; split <;> rfl
theorem sail_loop (hb : b < 2 ^ 30) (hR : RH G Hb) {s : Nat} (hs : s < 5) (h : IV b (g_gi G) (n_ns Hb) (n_nw Hb) S a) :
    ∀ i, i ≤ 16 → IV b (l_clr (g_sh G) (nI s) (g_gi G) i) (n_ns Hb) (n_nw Hb) (l_sendS (f_clear G (nI s)) (nI s) S i) (l_msl Hb s a (min i (n_np Hb))) ∧ l_sendN (f_clear G (nI s)) (nI s) S i = l_mslN Hb s a (min i (n_np Hb))
  | 0, _ => by rw [Nat.zero_min]; exact ⟨h, rfl⟩
  | i + 1, q => by
    obtain ⟨h1, h2⟩ := sail_loop hb hR hs h i (by omega)
    have e0 : f_ship (f_clear G (nI s)) (nI i) = g_sh G i := fship (by omega)
    rcases Nat.lt_or_ge i (n_np Hb) with e | e
    · rw [(min_lo e).2] at h1 h2
      rw [(min_lo e).1, l_clr, l_sendS, l_sendN, l_msl, l_mslN, e0, (hR.2.2.1 i e).1]
      by_cases c : nI (n_so Hb i) = nI s
      · rw [if_pos c, if_pos c, if_pos c, if_pos c, if_pos c]
        have h3 := IV_gi h1 (p := i) (by omega) false
        refine ⟨iv_light hb h3 (by omega), ?_⟩
        rw [h2, r_litN]
        by_cases q6 : 12 ≤ upd (l_msl Hb s a i) (18 + 2 * i + 1) 0 1
        · rw [if_pos q6, if_pos ((iv_lit h3).mpr q6)]
        · rw [if_neg q6, if_neg (fun r => q6 ((iv_lit h3).mp r)), Int32.add_zero]
      · rw [if_neg c, if_neg c, if_neg c, if_neg c, if_neg c, Int32.add_zero]
        exact ⟨h1, h2⟩
    · rw [(min_hi (by omega)).2] at h1 h2
      have c : ¬ g_sh G i = nI s := by rw [(hR.2.2.2 i e (by omega)).1]; exact m1_ne s (by omega)
      rw [(min_hi (by omega)).1, l_clr, l_sendS, l_sendN, e0, if_neg c, if_neg c, if_neg c]
      exact ⟨h1, h2⟩
theorem op_sail (hb : b < 2 ^ 29) (h : INV b G S Hb a) (z : Int32) :
    (t_goes G S z = 1 ∧ d_in z 0 (nI (n_ns Hb) - 1) = false) ∨ ∃ n1, z = nI n1 ∧
    ((t_goes G S (nI n1) = 2 ∧ n1 < n_ns Hb ∧ ¬ a (3 + 3 * n1 + 0) = 0) ∨
     (t_goes G S (nI n1) = 0 ∧ n1 < n_ns Hb ∧ a (3 + 3 * n1 + 0) = 0 ∧ (f_sailN (f_clear G (nI n1)) S (nI n1) : Int32).toInt64 = (l_mslN Hb n1 (r_sailA a n1) (n_np Hb) : Int32).toInt64 ∧
       INV (b + 58000) (f_clear G (nI n1)) (f_sailS (f_clear G (nI n1)) S (nI n1)) Hb (l_msl Hb n1 (r_sailA a n1) (n_np Hb)))) := by
  rcases ship_case h z with ⟨r1, r2⟩ | ⟨n1, e, r1, r2⟩
  · exact .inl ⟨by rw [t_goes, r1, if_neg (by decide)], r2⟩
  · refine .inr ⟨n1, e, ?_⟩
    obtain ⟨hR, hG, hV⟩ := h
    obtain ⟨e1, e2, e3, h5, h16, h4⟩ := hR.1
    rw [t_goes, r1, if_pos rfl, iv_stay hV (by omega)]
    by_cases c : a (3 + 3 * n1 + 0) = 0
    · rw [if_pos c]
      have h1 : IV b (g_gi G) (n_ns Hb) (n_nw Hb) (f_send1 S (nI n1)) (r_sailA a n1) := by
        rw [f_send1, fput (by omega) (by omega), fput (by omega) (by omega)]
        exact IV_ou (IV_st hV r2 h5 1) (by omega) 0
      obtain ⟨h2, h3⟩ := sail_loop (by omega) hR (s := n1) (by omega) h1 16 (by omega)
      rw [Nat.min_eq_right h16] at h2 h3
      exact .inr ⟨rfl, r2, c, by rw [f_sailN, h3], hR, fun p hp hg => hG p hp (clr_le _ _ _ p 16 hg), IV_le h2 (by omega)⟩
    · rw [if_neg c]; exact .inl ⟨rfl, r2, c⟩
theorem bel_loop (hR : RH G Hb) {g : FnB} {s : Nat} (hs : s < 5) (h : IV b g (n_ns Hb) (n_nw Hb) S a) : ∀ i, i ≤ 4 → IV b g (n_ns Hb) (n_nw Hb) (l_bel (nI s) S i) (l_mbel s a (min i (n_nw Hb)))
  | 0, _ => by rw [Nat.zero_min]; exact h
  | i + 1, q => by
    have h1 := bel_loop hR hs h i (by omega)
    have h4 := hR.1.2.2.2.2.2
    rw [l_bel, iv_has h1 (by omega) hs]
    rcases Nat.lt_or_ge i (n_nw Hb) with e | e
    · rw [(min_lo e).2] at h1 ⊢
      rw [(min_lo e).1, l_mbel]
      by_cases c : l_mbel s a i (54 + 5 * i + s) = -1
      · rw [if_pos c, if_pos c, if_neg (by decide)]; exact h1
      · rw [if_neg c, if_neg c, if_pos rfl, fput (by omega) (by omega), fat (by omega) (by omega), IV_xtr h1 i (by omega)]
        obtain ⟨t, ht, et⟩ := IV_ktr h1 i (by omega)
        show IV b g _ _ _ (upd (l_mbel s a i) (50 + i) (if l_mbel s a i (50 + i) + 1 < 9 then l_mbel s a i (50 + i) + 1 else 9))
        have e7 : (if nI t + 1 < 9 then nI t + 1 else (9 : Int32)) = nI (min (t + 1) 9) := by
          rw [nI_1]
          rcases Nat.lt_or_ge (t + 1) 9 with r | r
          · rw [if_pos (show nI (t + 1) < (9 : Int32) from nI_lt (b := 9) r (by omega)), Nat.min_eq_left (by omega)]
          · rw [if_neg (show ¬ nI (t + 1) < (9 : Int32) from nI_nlt (b := 9) r (by omega)), Nat.min_eq_right (by omega)]; rfl
        rw [et, e7]
        exact IV_tr h1 (by omega) (Nat.min_le_right _ _)
    · rw [(min_hi (by omega)).2] at h1 ⊢
      rw [(min_hi (by omega)).1]
      have c : l_mbel s a (n_nw Hb) (54 + 5 * i + s) = -1 := by
        rw [Nat.add_assoc]; exact IV_kag h1 i s (by omega) hs (.inl e)
      rw [if_pos c, if_neg (by decide)]; exact h1
theorem op_comeHome (hb : b < 2 ^ 29) (h : INV b G S Hb a) (z : Int32) :
    (t_home G S z = 1 ∧ d_in z 0 (nI (n_ns Hb) - 1) = false) ∨ ∃ n1, z = nI n1 ∧
    ((t_home G S (nI n1) = 2 ∧ n1 < n_ns Hb ∧ a (3 + 3 * n1 + 0) = 0) ∨
     (t_home G S (nI n1) = 0 ∧ n1 < n_ns Hb ∧ ¬ a (3 + 3 * n1 + 0) = 0 ∧ (f_at 5 (c_ou (f_comes G S (nI n1))) (nI n1) : Int32).toInt64 = (r_home Hb a n1 (3 + 3 * n1 + 1) : Int32).toInt64 ∧
       INV (b + 58000) G (f_comes G S (nI n1)) Hb (r_home Hb a n1))) := by
  rcases ship_case h z with ⟨r1, r2⟩ | ⟨n1, e, r1, r2⟩
  · exact .inl ⟨by rw [t_home, r1, if_neg (by decide)], r2⟩
  · refine .inr ⟨n1, e, ?_⟩
    obtain ⟨hR, hG, hV⟩ := h
    obtain ⟨e1, e2, e3, h5, h16, h4⟩ := hR.1
    rw [t_home, r1, if_pos rfl, iv_stay hV (by omega)]
    by_cases c : a (3 + 3 * n1 + 0) = 0
    · rw [if_pos c]; exact .inl ⟨rfl, r2, c⟩
    · rw [if_neg c]
      have h1 := bel_loop hR (s := n1) (by omega) hV 4 (by omega)
      rw [Nat.min_eq_right h4] at h1
      have h2 := iv_end hR h1 r2 0
      rw [r_end_st Hb _ (by omega) h16] at h2
      have h3 : IV (b + 192) (g_gi G) (n_ns Hb) (n_nw Hb) (f_comes G S (nI n1)) (r_home Hb a n1) := h2
      exact .inr ⟨rfl, r2, c, by rw [fat (by omega) (by omega), IV_xou h3 n1 (by omega)], hR, hG, IV_le h3 (by omega)⟩
theorem new_case (h : INV b G S Hb a) (z1 z2 : Int32) :
    (t_new G S z1 z2 = 1 ∧ d_in z1 0 (nI (n_nw Hb) - 1) = false) ∨ ∃ n1, z1 = nI n1 ∧
    ((t_new G S (nI n1) z2 = 1 ∧ n1 < n_nw Hb ∧ d_in z2 0 (nI (n_ns Hb) - 1) = false) ∨ ∃ n2, z2 = nI n2 ∧
     ((t_new G S (nI n1) (nI n2) = 2 ∧ n1 < n_nw Hb ∧ n2 < n_ns Hb ∧ d_out a n2 = false) ∨
      (t_new G S (nI n1) (nI n2) = 2 ∧ n1 < n_nw Hb ∧ n2 < n_ns Hb ∧ d_out a n2 = true ∧ ¬ a (54 + 5 * n1 + n2) = -1) ∨
      (t_new G S (nI n1) (nI n2) = 0 ∧ n1 < n_nw Hb ∧ n2 < n_ns Hb ∧ d_out a n2 = true ∧ a (54 + 5 * n1 + n2) = -1))) := by
  rcases wat_case h z1 with ⟨r1, r2⟩ | ⟨n1, e, r1, r2⟩
  · exact .inl ⟨by rw [t_new, r1, if_neg (by decide)], r2⟩
  · refine .inr ⟨n1, e, ?_⟩
    rcases ship_case h z2 with ⟨s1, s2⟩ | ⟨n2, e2, s1, s2⟩
    · exact .inl ⟨by rw [t_new, r1, if_pos rfl, s1, if_neg (by decide)], r2, s2⟩
    · refine .inr ⟨n2, e2, ?_⟩
      obtain ⟨hR, hG, hV⟩ := h
      obtain ⟨e1, e2, e3, h5, h16, h4⟩ := hR.1
      rw [t_new, r1, if_pos rfl, s1, if_pos rfl, iv_stay hV (by omega), iv_has hV (by omega) (by omega), d_out]
      by_cases c : a (3 + 3 * n2 + 0) = 1
      · rw [if_pos c, if_pos c]
        by_cases c2 : a (54 + 5 * n1 + n2) = -1
        · rw [if_pos c2, if_neg (by decide)]; exact .inr (.inr ⟨rfl, r2, s2, rfl, c2⟩)
        · rw [if_neg c2, if_pos rfl]; exact .inr (.inl ⟨rfl, r2, s2, rfl, c2⟩)
      · rw [if_neg c, if_neg c]; exact .inl ⟨rfl, r2, s2, rfl⟩
theorem iv_ent1 (hR : RH G Hb) {g : FnB} (h : IV b g (n_ns Hb) (n_nw Hb) S a) {w s : Nat} (hw : w < n_nw Hb) (hs : s < n_ns Hb) : IV b g (n_ns Hb) (n_nw Hb) (f_ent1 S (nI w) (nI s)) (upd a (54 + 5 * w + s) 0) := by
  obtain ⟨e1, e2, e3, h5, h16, h4⟩ := hR.1
  rw [f_ent1, fplace (by omega) (by omega), fput (by omega) (by omega), Nat.add_assoc 54]
  exact IV_ag h hw hs h4 h5 (.inr ⟨0, by omega, rfl⟩)
theorem iv_sight (hR : RH G Hb) {g : FnB} (h : IV b g (n_ns Hb) (n_nw Hb) S a) {w s : Nat} (hw : w < n_nw Hb) (hs : s < n_ns Hb) : IV b g (n_ns Hb) (n_nw Hb) (f_enter S (nI w) (nI s)) (r_sig Hb a w s) := by
  obtain ⟨e1, e2, e3, h5, h16, h4⟩ := hR.1
  have h1 := iv_ent1 hR h hw hs
  rw [f_enter, r_sig, iv_trust h1 h4 (by omega)]
  by_cases c : l_mtr (upd a (54 + 5 * w + s) 0) s (n_nw Hb) < 6
  · rw [if_pos c, if_pos c]; exact h1
  · rw [if_neg c, if_neg c, fmark (by omega) (by omega)]
    exact IV_ru h1 hs h5 true
theorem sigB_eq {r : Fn} {g : FnB} {T : CS} (h : IV b g (n_ns Hb) (n_nw Hb) T r) {s : Nat} (hs : s < 5) : f_is 5 (c_ru T) (nI s) = (if r (3 + 3 * s + 2) = 1 then true else false) := by
  have h1 := rung_1 h hs
  cases e : f_is 5 (c_ru T) (nI s) with
  | true => rw [if_pos (h1.mp e)]
  | false => rw [if_neg (fun q => by rw [h1.mpr q] at e; exact absurd e (by decide))]
theorem op_sight (h : INV b G S Hb a) {n1 n2 : Nat} (h1 : n1 < n_nw Hb) (h2 : n2 < n_ns Hb) : f_is 5 (c_ru (f_enter S (nI n1) (nI n2))) (nI n2) = r_sigB Hb a n1 n2 ∧ INV (b + 58000) G (f_enter S (nI n1) (nI n2)) Hb (r_sig Hb a n1 n2) := by
  obtain ⟨hR, hG, hV⟩ := h
  have h3 := iv_sight hR hV h1 h2
  exact ⟨sigB_eq h3 (by have := hR.1.2.2.2.1; omega), hR, hG, IV_le h3 (by omega)⟩
theorem mtr_new {w s : Nat} (hs : s < 5) (h0 : a (54 + 5 * w + s) = -1) : ∀ i, i ≤ 4 → l_mtr (upd a (54 + 5 * w + s) 0) s i = l_mtr a s i + (if w < i then a (50 + w) else 0)
  | 0, _ => by rw [if_neg (Nat.not_lt_zero _)]; rfl
  | i + 1, q => by
    rw [l_mtr, l_mtr, mtr_new hs h0 i (by omega)]
    by_cases e : i = w
    · subst e
      rw [pk_us, h0, if_pos rfl, if_neg (Nat.lt_irrefl _), if_pos (Nat.lt_succ_self _), if_neg (by decide), pk_un (by omega)]
    · rw [pk_un (show 54 + 5 * i + s ≠ 54 + 5 * w + s by omega), pk_un (show 50 + i ≠ 54 + 5 * w + s by omega)]
      by_cases c : w < i
      · rw [if_pos c, if_pos (show w < i + 1 by omega)]; grind
      · rw [if_neg c, if_neg (show ¬ w < i + 1 by omega)]; grind
theorem op_would (h : INV b G S Hb a) {n1 n2 : Nat} (h1 : n1 < n_nw Hb) (h2 : n2 < n_ns Hb) (h0 : a (54 + 5 * n1 + n2) = -1) : f_would S (nI n1) (nI n2) = r_sigB Hb a n1 n2 := by
  obtain ⟨hR, hG, hV⟩ := h
  obtain ⟨e1, e2, e3, h5, h16, h4⟩ := hR.1
  have r1 := rung_1 hV (s := n2) (by omega)
  rw [f_would, r_sigB, r_sig, mtr_new (by omega) h0 _ h4, if_pos h1, iv_trust hV h4 (by omega), fat (by omega) (by omega), IV_xtr hV n1 (by omega)]
  by_cases c : l_mtr a n2 (n_nw Hb) + a (50 + n1) < 6
  · rw [if_pos c, if_pos c, pk_un (by omega)]
    by_cases d : a (3 + 3 * n2 + 2) = 1
    · rw [if_pos (r1.mpr d), if_pos d]
    · rw [if_neg (fun q => d (r1.mp q)), if_neg d]
  · rw [if_neg c, if_neg c, pk_us, if_pos rfl]
    split <;> rfl
theorem vote_case (h : INV b G S Hb a) (z : Int32) :
    (t_vote G S z = 1 ∧ d_in z 0 (nI (n_np Hb) - 1) = false) ∨ ∃ n1, z = nI n1 ∧
    ((t_vote G S (nI n1) = 2 ∧ n1 < n_np Hb ∧ n_vo Hb n1 = false) ∨
     (t_vote G S (nI n1) = 2 ∧ n1 < n_np Hb ∧ n_vo Hb n1 = true ∧ d_out a (n_so Hb n1) = false) ∨
     (t_vote G S (nI n1) = 0 ∧ n1 < n_np Hb ∧ n_vo Hb n1 = true ∧ d_out a (n_so Hb n1) = true)) := by
  rcases sail_case h z with ⟨r1, r2⟩ | ⟨n1, e, r1, r2⟩
  · exact .inl ⟨by rw [t_vote, r1, if_neg (by decide)], r2⟩
  · refine .inr ⟨n1, e, ?_⟩
    obtain ⟨hR, hG, hV⟩ := h
    obtain ⟨e1, e2, e3, h5, h16, h4⟩ := hR.1
    rw [t_vote, r1, if_pos rfl, fis (by omega) (by omega), (hR.2.2.1 n1 r2).2.2.2.1, RH_ship hR r2, iv_stay hV (RH_so hR r2), d_out]
    cases ev : n_vo Hb n1 with
    | false => rw [if_neg (by decide)]; exact .inl ⟨rfl, r2, rfl⟩
    | true =>
      rw [if_pos rfl]
      by_cases c : a (3 + 3 * n_so Hb n1 + 0) = 1
      · rw [if_pos c, if_pos c]; exact .inr (.inr ⟨rfl, r2, rfl, rfl⟩)
      · rw [if_neg c, if_neg c]; exact .inr (.inl ⟨rfl, r2, rfl, rfl⟩)
theorem op_vote (h : INV b G S Hb a) {n1 : Nat} (h1 : n1 < n_np Hb) (hv : n_vo Hb n1 = true) (v : Bool) :
    (f_votes (f_vote G (nI n1) v) (f_ship G (nI n1)) : Int32).toInt64 = (l_mvo Hb (r_vote a n1 v) (n_so Hb n1) true (n_np Hb) : Int32).toInt64 ∧ INV (b + 58000) (f_vote G (nI n1) v) S Hb (r_vote a n1 v) := by
  obtain ⟨hR, hG, hV⟩ := h
  obtain ⟨e1, e2, e3, h5, h16, h4⟩ := hR.1
  have hR2 : RH (f_vote G (nI n1) v) Hb := hR
  have hgi : g_gi (f_vote G (nI n1) v) = updB (g_gi G) n1 v := by
    show f_mark 16 (g_gi G) (nI n1) v = _
    rw [fmark (by omega) (by omega)]
  have hG2 : RG (f_vote G (nI n1) v) := by
    intro p hp hg
    rw [hgi] at hg
    show g_vo G p = true
    by_cases c : p = n1
    · rw [c, (hR.2.2.1 n1 h1).2.2.2.1]; exact hv
    · rw [updB_n c] at hg; exact hG p hp hg
  have hV2 : IV b (g_gi (f_vote G (nI n1) v)) (n_ns Hb) (n_nw Hb) S (r_vote a n1 v) := by
    rw [hgi]
    exact IV_gi hV (by omega) v
  refine ⟨?_, hR2, hG2, IV_le hV2 (by omega)⟩
  rw [RH_ship hR h1, (iv_votes hR2 hG2 hV2 (RH_so hR h1)).1]
theorem op_burn (hb : b < 2 ^ 29) (h : INV b G S Hb a) {n : Nat} (h2 : n ≤ 60) :
    (l_passN G S (nI n).toNatClampNeg : Int32).toInt64 = (l_mpassN Hb a n : Int32).toInt64 ∧ INV (b + 58000) G (l_passS G S (nI n).toNatClampNeg) Hb (l_mpass Hb a n) := by
  obtain ⟨hR, hG, hV⟩ := h
  obtain ⟨h3, h4⟩ := iv_pass hR hG hV n (by omega)
  rw [nI_clamp (by omega), h4]
  exact ⟨rfl, hR, hG, IV_le h3 (by omega)⟩
theorem op_waxAfter (hb : b < 2 ^ 29) (h : INV b G S Hb a) {n : Nat} (h2 : n ≤ 200) : (c_wa (l_passS G S (nI n).toNatClampNeg) : Int32).toInt64 = (l_mpass Hb a n 1 : Int32).toInt64 := by
  obtain ⟨hR, hG, hV⟩ := h
  obtain ⟨h3, h4⟩ := iv_pass hR hG hV n (by omega)
  rw [nI_clamp (by omega), IV_xwa h3]
theorem op_vtl (h : INV b G S Hb a) {s : Nat} (hs : s < 5) : f_vtl G (nI s) = (if 0 < l_mvo Hb a s false (n_np Hb) / 2 + 1 - l_mvo Hb a s true (n_np Hb) then l_mvo Hb a s false (n_np Hb) / 2 + 1 - l_mvo Hb a s true (n_np Hb) else 0) := by
  rw [f_vtl, (iv_voters (a := a) h.1 hs).1, (iv_votes h.1 h.2.1 h.2.2 hs).1]
theorem unr_case (h : INV b G S Hb a) (z : Int32) :
    (t_unr G S z = 1 ∧ d_in z 0 (nI (n_ns Hb) - 1) = false) ∨ ∃ n1, z = nI n1 ∧
    ((t_unr G S (nI n1) = 2 ∧ n1 < n_ns Hb ∧ a (3 + 3 * n1 + 2) = 0) ∨ (t_unr G S (nI n1) = 0 ∧ n1 < n_ns Hb ∧ ¬ a (3 + 3 * n1 + 2) = 0)) := by
  rcases ship_case h z with ⟨r1, r2⟩ | ⟨n1, e, r1, r2⟩
  · exact .inl ⟨by rw [t_unr, r1, if_neg (by decide)], r2⟩
  · refine .inr ⟨n1, e, ?_⟩
    obtain ⟨hR, hG, hV⟩ := h
    have h5 := hR.1.2.2.2.1
    have q := iv_rung hV (s := n1) (by omega)
    rw [t_unr, r1, if_pos rfl]
    by_cases c : a (3 + 3 * n1 + 2) = 0
    · rw [if_neg (fun r => q.mp r c)]; exact .inl ⟨rfl, r2, c⟩
    · rw [if_pos (q.mpr c)]; exact .inr ⟨rfl, r2, c⟩
/-! ===== numbers: the mean, the digest ===== -/
theorem mean_n : ∀ k, k < 37 → ∀ n, n < 5 → 0 < n → vf_n64 (FP.ddiv (FP.i2d (nI k)) (FP.i2d (nI n))) ∧ FP.dcmp (FP.ddiv (FP.i2d (nI k)) (FP.i2d (nI n))) (FP.ddiv (FP.i2d (nI k)) (FP.i2d (nI n))) = some .eq := by unfold vf_n64; decide +kernel
theorem mean_0 : FP.dcmp 0 0 = some .eq := by decide +kernel
theorem sumT_eq (h : IV b (g_gi G) (n_ns Hb) (n_nw Hb) S a) : ∀ i, i ≤ 4 → l_sumT (c_tr S) i = l_msum a i ∧ ∃ k, k ≤ 9 * i ∧ l_msum a i = nI k
  | 0, _ => ⟨rfl, 0, Nat.le_refl _, rfl⟩
  | i + 1, q => by
    obtain ⟨h1, k, h2, h3⟩ := sumT_eq h i (by omega)
    obtain ⟨t, ht, et⟩ := IV_ktr h i (by omega)
    rw [l_sumT, l_msum, h1, fat (by omega) (by omega), IV_xtr h i (by omega), h3, et, nI_add]
    exact ⟨rfl, k + t, by omega, rfl⟩
theorem op_mean (h : INV b G S Hb a) : (0 < nI (g_wc G) → vf_n64 (FP.ddiv (FP.i2d (l_sumT (c_tr S) (g_wc G))) (FP.i2d (nI (g_wc G))))) ∧ g_wc G ≤ 4 ∧ (¬ nI (n_nw Hb) = 0 → vf_n64 (FP.ddiv (FP.i2d (l_msum a (n_nw Hb))) (FP.i2d (nI (n_nw Hb))))) ∧ f_mean G S = r_mean Hb a ∧ FP.dcmp (f_mean G S) (f_mean G S) = some .eq := by
  obtain ⟨hR, hG, hV⟩ := h
  obtain ⟨e1, e2, e3, h5, h16, h4⟩ := hR.1
  obtain ⟨s1, k, s2, s3⟩ := sumT_eq hV (n_nw Hb) h4
  rw [f_mean, r_mean, ← e3, s1, s3]
  rcases Nat.eq_zero_or_pos (n_nw Hb) with r | r
  · rw [r]
    exact ⟨fun q => absurd q (by decide), by omega, fun q => absurd rfl q, rfl, mean_0⟩
  · obtain ⟨m1, m2⟩ := mean_n k (by omega) (n_nw Hb) (by omega) r
    have q1 : (0 : Int32) < nI (n_nw Hb) := nI_lt (a := 0) r (by omega)
    rw [if_pos q1, if_neg (nI_ne0 r (by omega))]
    exact ⟨fun _ => m1, h4, fun _ => m1, rfl, m2⟩
theorem xs_0 (f : Fn) (k : Nat) (v : Int32) : upd f k v k = v := pk_us
theorem dig_ship (hR : RH G Hb) (hG : RG G) (h : IV b (g_gi G) (n_ns Hb) (n_nw Hb) S a) (d : Int64) {s : Nat} (hs : s < n_ns Hb) : f_mixShip G S d (nI s) = l_mix (x_ship Hb a s) d 8 := by
  obtain ⟨e1, e2, e3, h5, h16, h4⟩ := hR.1
  have g0 : f_at 5 (g_ma G) (nI s) = x_ship Hb a s 0 := by rw [fat (by omega) (by omega), (hR.2.1 s hs).1]; rfl
  have g1 : bI (decide (¬ f_stay S (nI s) = 0)) = x_ship Hb a s 1 := by
    show _ = if a (3 + 3 * s + 0) = 0 then (0 : Int32) else 1
    rw [iv_stay h (by omega)]
    by_cases c : a (3 + 3 * s + 0) = 0
    · rw [if_pos c, decide_eq_false (fun q => q c)]; rfl
    · rw [if_neg c, decide_eq_true c]; rfl
  have g2 : bI (decide (f_stay S (nI s) = 2)) = x_ship Hb a s 2 := by
    show _ = if a (3 + 3 * s + 0) = 2 then (1 : Int32) else 0
    rw [iv_stay h (by omega), ← bI_if]
  have g3 : f_at 5 (c_ou S) (nI s) = x_ship Hb a s 3 := by rw [fat (by omega) (by omega), IV_xou h s (by omega)]; rfl
  have g4 : bI (f_is 5 (c_ru S) (nI s)) = x_ship Hb a s 4 := by rw [fis (by omega) (by omega), IV_xru h s (by omega)]; rfl
  have g5 : f_trust S (nI s) = x_ship Hb a s 5 := by rw [iv_trust h h4 (by omega)]; rfl
  have g6 : f_voters G (nI s) = x_ship Hb a s 6 := by rw [(iv_voters (a := a) hR (by omega)).1]; rfl
  have g7 : f_votes G (nI s) = x_ship Hb a s 7 := by rw [(iv_votes hR hG h (by omega)).1]; rfl
  rw [f_mixShip, g0, g1, g2, g3, g4, g5, g6, g7]
  rfl
theorem dig_sail (hR : RH G Hb) (h : IV b (g_gi G) (n_ns Hb) (n_nw Hb) S a) (d : Int64) {p : Nat} (hp : p < n_np Hb) : f_mixSailor G S d (nI p) = l_mix (x_sail Hb a p) d 5 := by
  obtain ⟨e1, e2, e3, h5, h16, h4⟩ := hR.1
  obtain ⟨i1, i2, i3, i4, i5⟩ := hR.2.2.1 p hp
  have g0 : f_ship G (nI p) = x_sail Hb a p 0 := by rw [RH_ship hR hp]; rfl
  have g1 : f_at 16 (g_mt G) (nI p) = x_sail Hb a p 1 := by rw [fat (by omega) (by omega), i3]; rfl
  have g2 : bI (f_is 16 (g_vo G) (nI p)) = x_sail Hb a p 2 := by rw [fis (by omega) (by omega), i4]; rfl
  have g3 : bI (f_is 16 (g_gi G) (nI p)) = x_sail Hb a p 3 := by rw [fis (by omega) (by omega), IV_xgi h p (by omega)]; rfl
  have g4 : f_at 16 (c_ca S) (nI p) = x_sail Hb a p 4 := by rw [fat (by omega) (by omega), IV_xca h p (by omega)]; rfl
  rw [f_mixSailor, g0, g1, g2, g3, g4]
  rfl
theorem dig_all (hR : RH G Hb) (h : IV b (g_gi G) (n_ns Hb) (n_nw Hb) S a) : f_dig1 G S = l_mix (x_all Hb a) 1949 9 := by
  obtain ⟨e1, e2, e3, h5, h16, h4⟩ := hR.1
  rw [f_dig1, ← e1, ← e2, ← e3, iv_scnt h 20 (by omega), IV_xni h, IV_xwa h, IV_xun h, iv_darks hR h, iv_lost hR h]
  rfl
theorem op_digest (h : INV b G S Hb a) : g_sc G ≤ 5 ∧ g_pc G ≤ 16 ∧ g_wc G ≤ 4 ∧ f_digest G S = r_digest Hb a := by
  obtain ⟨hR, hG, hV⟩ := h
  obtain ⟨e1, e2, e3, h5, h16, h4⟩ := hR.1
  refine ⟨by omega, by omega, by omega, ?_⟩
  have h1 : ∀ d i, i ≤ n_ns Hb → l_digS G S d i = l_dgS Hb a d i := by
    intro d i
    induction i with
    | zero => intro _; rfl
    | succ i ih => intro q; rw [l_digS, l_dgS, ih (by omega), dig_ship hR hG hV _ (by omega)]
  have h2 : ∀ d i, i ≤ n_np Hb → l_digP G S d i = l_dgP Hb a d i := by
    intro d i
    induction i with
    | zero => intro _; rfl
    | succ i ih => intro q; rw [l_digP, l_dgP, ih (by omega), dig_sail hR hV _ (by omega)]
  have h3 : ∀ d i, i ≤ n_nw Hb → l_digW (c_tr S) d i = l_dgW a d i := by
    intro d i
    induction i with
    | zero => intro _; rfl
    | succ i ih => intro q; rw [l_digW, l_dgW, ih (by omega), fat (by omega) (by omega), IV_xtr hV i (by omega)]; rfl
  rw [f_digest, r_digest, dig_all hR hV, ← e1, ← e2, ← e3, h1 _ _ (Nat.le_refl _), h2 _ _ (Nat.le_refl _), h3 _ _ (Nat.le_refl _)]
end SIX
