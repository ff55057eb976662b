/-! ===== the class's words at small numbers ===== -/
/-- the harbour's sides -/
def RH (G : HS) (Hb : MH) : Prop :=
  (n_ns Hb = g_sc G ∧ n_np Hb = g_pc G ∧ n_nw Hb = g_wc G ∧ n_ns Hb ≤ 5 ∧ n_np Hb ≤ 16 ∧ n_nw Hb ≤ 4) ∧
  (∀ s, s < n_ns Hb → g_ma G s = n_ma Hb s ∧ ∃ m, 1 ≤ m ∧ m ≤ 3 ∧ n_ma Hb s = nI m) ∧
  (∀ p, p < n_np Hb → g_sh G p = nI (n_so Hb p) ∧ n_so Hb p < n_ns Hb ∧ g_mt G p = n_mo Hb p ∧ g_vo G p = n_vo Hb p ∧ ∃ m, m < 3 ∧ n_mo Hb p = nI m) ∧
  (∀ p, n_np Hb ≤ p → p < 16 → g_sh G p = -1 ∧ g_vo G p = false)
/-- only sailors with a voter are given up -/
def RG (G : HS) : Prop := ∀ p, p < 16 → g_gi G p = true → g_vo G p = true
theorem min_lo {i n : Nat} (h : i < n) : min (i + 1) n = i + 1 ∧ min i n = i := ⟨Nat.min_eq_left h, Nat.min_eq_left (Nat.le_of_lt h)⟩
theorem min_hi {i n : Nat} (h : ¬ i < n) : min (i + 1) n = n ∧ min i n = n := ⟨Nat.min_eq_right (by omega), Nat.min_eq_right (by omega)⟩
theorem fat {n : Nat} {a : Fn} {i : Nat} (hi : i < n) (hn : n < 1000) : f_at n a (nI i) = a i := by
  rw [f_at, if_neg (nI_pos (by omega)), if_neg (nI_ge hi (by omega)), nI_clamp (by omega)]
theorem fis {n : Nat} {a : FnB} {i : Nat} (hi : i < n) (hn : n < 1000) : f_is n a (nI i) = a i := by
  rw [f_is, if_neg (nI_pos (by omega)), if_neg (nI_ge hi (by omega)), nI_clamp (by omega)]
theorem fput {n : Nat} {a : Fn} {i : Nat} {v : Int32} (hi : i < n) (hn : n < 1000) : f_put n a (nI i) v = upd a i v := by
  rw [f_put, if_neg (nI_pos (by omega)), if_neg (nI_ge hi (by omega)), nI_clamp (by omega)]
theorem fmark {n : Nat} {a : FnB} {i : Nat} {v : Bool} (hi : i < n) (hn : n < 1000) : f_mark n a (nI i) v = updB a i v := by
  rw [f_mark, if_neg (nI_pos (by omega)), if_neg (nI_ge hi (by omega)), nI_clamp (by omega)]
theorem fat_m {n : Nat} {a : Fn} : f_at n a (-1) = 0 := by
  rw [f_at, if_pos (by decide)]
theorem m1_ne (n : Nat) (h : n < 1000) : ¬ ((-1 : Int32) = nI n) := fun q => by
  have h0 := congrArg Int32.toInt q
  rw [nI_toInt (by omega)] at h0
  have : (-1 : Int32).toInt = -1 := by decide
  omega
theorem fplace {w s : Nat} (hw : w < 4) (hs : s < 5) : f_place (nI w) (nI s) = nI (5 * w + s) := by
  rw [f_place, if_neg (nI_pos (by omega)), if_neg (show ¬ ((4 : Int32) ≤ nI w) from nI_ge (b := 4) hw (by omega)), if_neg (nI_pos (by omega)), if_pos (show nI s < (5 : Int32) from nI_lt (b := 5) hs (by omega))]
  show nI w * nI 5 + nI s = _
  rw [pk_mul, nI_add, Nat.mul_comm]
theorem fship {G : HS} {p : Nat} (hp : p < 16) : f_ship G (nI p) = g_sh G p := by
  rw [f_ship, if_neg (nI_pos (by omega)), if_neg (nI_ge hp (by omega)), nI_clamp (by omega)]
theorem fstay_m {S : CS} : f_stay S (-1) = 0 := fat_m
theorem fstay_n {S : CS} {s : Nat} (hs : s < 5) : f_stay S (nI s) = c_st S s := fat hs (by omega)
theorem fhas {S : CS} {w s : Nat} (hw : w < 4) (hs : s < 5) : f_hasS S (nI w) (nI s) = if c_ag S (5 * w + s) = -1 then false else true := by
  rw [f_hasS, fplace hw hs, if_neg (nI_pos (by omega)), if_neg (nI_ge (by omega) (by omega)), nI_clamp (by omega)]
theorem bI_inj {x y : Bool} (h : bI x = bI y) : x = y := by
  cases x <;> cases y <;> first | rfl | exact absurd h (by decide)
theorem nlt {x y : Int32} : ¬ x < y ↔ y ≤ x := by
  rw [Int32.lt_iff_toInt_lt, Int32.le_iff_toInt_le]; omega
theorem nle {x y : Int32} : ¬ x ≤ y ↔ y < x := by
  rw [Int32.lt_iff_toInt_lt, Int32.le_iff_toInt_le]; omega
section TWO
variable {B : Nat} {g : FnB} {ns nw : Nat} {S : CS} {a : Fn} {G : HS} {Hb : MH}
theorem iv_age (h : IV B g ns nw S a) {w s : Nat} (hw : w < 4) (hs : s < 5) : c_ag S (5 * w + s) = a (54 + 5 * w + s) := by
  rw [Nat.add_assoc]; exact IV_xag h (5 * w + s) (by omega)
theorem iv_has (h : IV B g ns nw S a) {w s : Nat} (hw : w < 4) (hs : s < 5) : f_hasS S (nI w) (nI s) = if a (54 + 5 * w + s) = -1 then false else true := by
  rw [fhas hw hs, iv_age h hw hs]
theorem iv_stay (h : IV B g ns nw S a) {s : Nat} (hs : s < 5) : f_stay S (nI s) = a (3 + 3 * s + 0) := (fstay_n hs).trans (IV_xst h s hs)
theorem iv_trust' (h : IV B g ns nw S a) {s : Nat} (hs : s < 5) : ∀ i, i ≤ 4 → l_trust S (nI s) i = l_mtr a s i
  | 0, _ => rfl
  | i + 1, q => by
    rw [l_trust, l_mtr, iv_trust' h hs i (by omega), iv_has h (by omega) hs, fat (by omega) (by omega), IV_xtr h i (by omega)]
    by_cases e : a (54 + 5 * i + s) = -1
    · rw [if_pos e, if_pos e, if_neg (by decide), Int32.add_zero]
    · rw [if_neg e, if_neg e, if_pos rfl]
theorem iv_mtr (h : IV B g ns nw S a) {s : Nat} (hs : s < 5) : ∀ j, nw ≤ j → j ≤ 4 → l_mtr a s j = l_mtr a s nw
  | 0, q, _ => by have : nw = 0 := by omega
                  rw [this]
  | j + 1, q, q4 => by
    rcases Nat.lt_or_ge j nw with e | e
    · have : nw = j + 1 := by omega
      rw [this]
    · rw [l_mtr, iv_mtr h hs j e (by omega), Nat.add_assoc 54, IV_kag h j s (by omega) hs (.inl e), if_pos rfl, Int32.add_zero]
theorem iv_trust (h : IV B g ns nw S a) (hw : nw ≤ 4) {s : Nat} (hs : s < 5) : f_trust S (nI s) = l_mtr a s nw := by
  rw [f_trust, iv_trust' h hs 4 (by omega), iv_mtr h hs 4 hw (by omega)]
theorem RH_ship (hR : RH G Hb) {p : Nat} (hp : p < n_np Hb) : f_ship G (nI p) = nI (n_so Hb p) := by
  rw [fship (by have := hR.1.2.2.2.2.1; omega)]; exact (hR.2.2.1 p hp).1
theorem RH_ship_m (hR : RH G Hb) {p : Nat} (hp : n_np Hb ≤ p) (h16 : p < 16) : f_ship G (nI p) = -1 := by
  rw [fship h16]; exact (hR.2.2.2 p hp h16).1
theorem RH_so (hR : RH G Hb) {p : Nat} (hp : p < n_np Hb) : n_so Hb p < 5 := by
  have := (hR.2.2.1 p hp).2.1
  have := hR.1.2.2.2.1
  omega
theorem cnt (hR : RH G Hb) {s : Nat} (hs : s < 5) (b : FnB) (fl : Bool) (hb : ∀ p, p < n_np Hb → b p = if n_vo Hb p = true then (if fl = true then decide (a (18 + 2 * p + 1) = 1) else true) else false) :
    ∀ i, i ≤ 16 → l_cnt (g_sh G) b (nI s) i = l_mvo Hb a s fl (min i (n_np Hb)) ∧ ∃ k, k ≤ i ∧ l_cnt (g_sh G) b (nI s) i = nI k
  | 0, _ => ⟨by rw [Nat.zero_min]; rfl, 0, Nat.le_refl _, rfl⟩
  | i + 1, q => by
    obtain ⟨h1, k, hk, h2⟩ := cnt hR hs b fl hb i (by omega)
    rcases Nat.lt_or_ge i (n_np Hb) with e | e
    · rw [(min_lo e).1, l_cnt, l_mvo, (hR.2.2.1 i e).1, hb i e]
      rw [(min_lo e).2] at h1
      rw [← h1]
      by_cases e1 : nI (n_so Hb i) = nI s
      · rw [if_pos e1, if_pos e1]
        by_cases e2 : n_vo Hb i = true
        · rw [if_pos e2, if_pos e2]
          cases fl with
          | false => rw [if_neg (c := false = true) (by decide), if_neg (c := false = true) (by decide), if_pos rfl]; exact ⟨rfl, k + 1, by omega, by rw [h2]; exact nI_1 k⟩
          | true =>
            rw [if_pos rfl, if_pos rfl]
            by_cases e3 : a (18 + 2 * i + 1) = 1
            · rw [if_pos e3, if_pos (by rw [e3]; decide)]; exact ⟨rfl, k + 1, by omega, by rw [h2]; exact nI_1 k⟩
            · rw [if_neg e3, if_neg (by rw [decide_eq_true_iff]; exact e3), Int32.add_zero]; exact ⟨rfl, k, by omega, h2⟩
        · rw [if_neg e2, if_neg e2, if_neg (by decide), Int32.add_zero]; exact ⟨rfl, k, by omega, h2⟩
      · rw [if_neg e1, if_neg e1, Int32.add_zero]; exact ⟨rfl, k, by omega, h2⟩
    · rw [(min_hi (by omega)).1, l_cnt, (hR.2.2.2 i e (by omega)).1, if_neg (m1_ne s (by omega))]
      rw [(min_hi (by omega)).2] at h1
      exact ⟨h1, k, by omega, h2⟩
theorem iv_voters (hR : RH G Hb) {s : Nat} (hs : s < 5) : f_voters G (nI s) = l_mvo Hb a s false (n_np Hb) ∧ ∃ k, k ≤ 16 ∧ f_voters G (nI s) = nI k := by
  have := cnt (a := a) hR hs (g_vo G) false (fun p hp => by
    rw [if_neg (c := false = true) (by decide), (hR.2.2.1 p hp).2.2.2.1]; cases n_vo Hb p <;> rfl) 16 (by omega)
  rw [Nat.min_eq_right hR.1.2.2.2.2.1] at this
  exact this
theorem iv_votes (hR : RH G Hb) (hG : RG G) (h : IV B (g_gi G) ns nw S a) {s : Nat} (hs : s < 5) : f_votes G (nI s) = l_mvo Hb a s true (n_np Hb) ∧ ∃ k, k ≤ 16 ∧ f_votes G (nI s) = nI k := by
  have := cnt (a := a) hR hs (g_gi G) true (fun p hp => by
    have h16 : p < 16 := by have := hR.1.2.2.2.2.1; omega
    rw [if_pos rfl, ← IV_xgi h p h16, ← (hR.2.2.1 p hp).2.2.2.1]
    have := hG p h16
    revert this
    cases g_gi G p <;> cases g_vo G p <;> decide) 16 (by omega)
  rw [Nat.min_eq_right hR.1.2.2.2.2.1] at this
  exact this
theorem vtl_0 {V N : Int32} {v n : Nat} (hv : v ≤ 16) (hn : n ≤ 16) (eV : V = nI v) (eN : N = nI n) : ((if 0 < V / 2 + 1 - N then V / 2 + 1 - N else 0) = 0) ↔ V < 2 * N := by
  subst eV; subst eN
  have e1 : nI v / 2 + 1 = nI (v / 2 + 1) := by
    show nI v / nI 2 + nI 1 = _
    rw [pk_div (by omega) (by omega) (by omega), nI_add]
  have e2 : (2 : Int32) * nI n = nI (2 * n) := pk_mul 2 n
  rw [e1, e2, nI_ltI (by omega) (by omega)]
  rcases Nat.lt_or_ge n (v / 2 + 1) with e | e
  · rw [pk_sub (by omega), if_pos (show (0 : Int32) < nI (v / 2 + 1 - n) from nI_lt (a := 0) (by omega) (by omega))]
    constructor
    · intro q; exact absurd q (nI_ne0 (by omega) (by omega))
    · intro q; omega
  · have e3 : ¬ (0 < nI (v / 2 + 1) - nI n) := by
      rw [Int32.lt_iff_toInt_lt, pk_sub_toInt (by omega) (by omega)]
      show ¬ (0 : Int) < _
      omega
    rw [if_neg e3]
    exact ⟨fun _ => by omega, fun _ => rfl⟩
theorem iv_vtl (hR : RH G Hb) (hG : RG G) (h : IV B (g_gi G) ns nw S a) {s : Nat} (hs : s < 5) : f_vtl G (nI s) = 0 ↔ l_mvo Hb a s false (n_np Hb) < 2 * l_mvo Hb a s true (n_np Hb) := by
  obtain ⟨h1, k1, hk1, e1⟩ := iv_voters (a := a) hR hs
  obtain ⟨h2, k2, hk2, e2⟩ := iv_votes hR hG h hs
  rw [f_vtl, ← h1, ← h2]
  exact vtl_0 hk1 hk2 e1 e2
theorem iv_dark (hR : RH G Hb) (h : IV B g ns nw S a) {p : Nat} (hp : p < n_np Hb) : f_dark G S (nI p) = r_dark Hb a p := by
  have h16 : p < 16 := by have := hR.1.2.2.2.2.1; omega
  rw [f_dark, r_dark, d_out, RH_ship hR hp, iv_stay h (RH_so hR hp), fat h16 (by omega), IV_xca h p h16]
  by_cases e : a (3 + 3 * n_so Hb p + 0) = 1
  · rw [if_pos e, if_pos e, if_pos rfl]
  · rw [if_neg e, if_neg e, if_neg (by decide)]
theorem iv_dark_m (hR : RH G Hb) {p : Nat} (hp : n_np Hb ≤ p) (h16 : p < 16) : f_dark G S (nI p) = false := by
  rw [f_dark, RH_ship_m hR hp h16, fstay_m, if_neg (by decide)]
theorem iv_darks' (hR : RH G Hb) (h : IV B g ns nw S a) : ∀ i, i ≤ 16 → l_dark G S i = l_mdk Hb a (min i (n_np Hb))
  | 0, _ => by rw [Nat.zero_min]; rfl
  | i + 1, q => by
    have h1 := iv_darks' hR h i (by omega)
    rcases Nat.lt_or_ge i (n_np Hb) with e | e
    · rw [(min_lo e).2] at h1
      rw [(min_lo e).1, l_dark, l_mdk, iv_dark hR h e, h1]
      by_cases e1 : r_dark Hb a i = true
      · rw [if_pos e1, if_pos e1]
      · rw [if_neg e1, if_neg e1, Int32.add_zero]
    · rw [(min_hi (by omega)).2] at h1
      rw [(min_hi (by omega)).1, l_dark, iv_dark_m hR e (by omega), if_neg (by decide), h1]
theorem iv_darks (hR : RH G Hb) (h : IV B g ns nw S a) : l_dark G S 16 = l_mdk Hb a (n_np Hb) := by
  rw [iv_darks' hR h 16 (by omega), Nat.min_eq_right hR.1.2.2.2.2.1]
theorem iv_lost' (hR : RH G Hb) (h : IV B g ns nw S a) : ∀ i, i ≤ 16 → l_lost G S i = l_mwl Hb a (min i (n_np Hb))
  | 0, _ => by rw [Nat.zero_min]; rfl
  | i + 1, q => by
    have h1 := iv_lost' hR h i (by omega)
    rcases Nat.lt_or_ge i (n_np Hb) with e | e
    · rw [(min_lo e).2] at h1
      rw [(min_lo e).1, l_lost, l_mwl, RH_ship hR e, iv_stay h (RH_so hR e), h1]
      by_cases e1 : a (3 + 3 * n_so Hb i + 0) = 2
      · rw [if_pos e1, if_pos e1]
      · rw [if_neg e1, if_neg e1, Int32.add_zero]
    · rw [(min_hi (by omega)).2] at h1
      rw [(min_hi (by omega)).1, l_lost, RH_ship_m hR e (by omega), fstay_m, if_neg (by decide), h1]
theorem iv_lost (hR : RH G Hb) (h : IV B g ns nw S a) : l_lost G S 16 = l_mwl Hb a (n_np Hb) := by
  rw [iv_lost' hR h 16 (by omega), Nat.min_eq_right hR.1.2.2.2.2.1]
theorem iv_scnt (h : IV B g ns nw S a) : ∀ i, i ≤ 20 → l_scnt (c_ag S) i = l_mal a i
  | 0, _ => rfl
  | i + 1, q => by
    rw [l_scnt, l_mal, iv_scnt h i (by omega), IV_xag h i (by omega)]
    by_cases e : a (54 + i) = -1
    · rw [if_pos e, if_pos e, Int32.add_zero]
    · rw [if_neg e, if_neg e]
end TWO
