/-! ===== a night: candles burn ===== -/
def HR (G : HS) (M : SM) : Prop :=
  (g_sc G = m_ns M ∧ g_pc G = m_np M ∧ g_wc G = m_nw M ∧ m_ns M ≤ 5 ∧ m_np M ≤ 16 ∧ m_nw M ≤ 4) ∧
  (∀ s, s < m_ns M → g_ma G s = m_ma M s ∧ ∃ k, 1 ≤ k ∧ k ≤ 3 ∧ m_ma M s = nI k) ∧
  (∀ p, p < m_np M → g_sh G p = nI (m_so M p) ∧ m_so M p < m_ns M ∧ g_mt G p = m_mt M p ∧ (∃ k, k < 3 ∧ m_mt M p = nI k) ∧ m_mt M p < m_ma M (m_so M p) ∧ bI (g_vo G p) = m_vo M p ∧ bI (g_gi G p) = m_gi M p ∧ (g_gi G p = true → g_vo G p = true)) ∧
  (∀ p, m_np M ≤ p → p < 16 → g_sh G p = -1 ∧ g_vo G p = false ∧ g_gi G p = false)
theorem HR_ship {G : HS} {M : SM} (h : HR G M) {p : Nat} (hp : p < m_np M) : f_ship G (nI p) = nI (m_so M p) := by
  have := h.1.2.2.2.2.1
  rw [fship (by omega)]; exact (h.2.2.1 p hp).1
theorem HR_so {G : HS} {M : SM} (h : HR G M) {p : Nat} (hp : p < m_np M) : m_so M p < m_ns M ∧ m_so M p < 5 := by
  have h1 := (h.2.2.1 p hp).2.1
  have := h.1.2.2.2.1
  exact ⟨h1, by omega⟩
theorem HR_ship_m {G : HS} {M : SM} (h : HR G M) {p : Nat} (hp : m_np M ≤ p) (h16 : p < 16) : f_ship G (nI p) = -1 := by
  rw [fship h16]; exact (h.2.2.2 p hp h16).1
theorem burnv {c m : Nat} (hc : c ≤ 12) (hm : m < 3) : (if 0 < nI c - (1 + nI m) then nI c - (1 + nI m) else 0) = nI (c - (1 + m)) := by
  have e1 : (1 : Int32) + nI m = nI (1 + m) := nI_add 1 m
  rw [e1]
  rcases Nat.lt_or_ge (1 + m) c with e | e
  · rw [pk_sub (by omega), if_pos (show (0 : Int32) < _ from nI_lt (a := 0) (by omega) (by omega))]
  · have e3 : ¬ (0 < nI c - nI (1 + m)) := by
      rw [Int32.lt_iff_toInt_lt, pk_sub_toInt (by omega) (by omega)]
      show ¬ (0 : Int) < _
      omega
    rw [if_neg e3, show c - (1 + m) = 0 by omega]; rfl
theorem burnw {c m : Nat} (hc : c ≤ 12) (hm : m < 3) : (if nI c ≤ nI m + 1 then 0 else nI c - nI m - 1) = nI (c - (1 + m)) := by
  rw [nI_1]
  rcases Nat.lt_or_ge (m + 1) c with e | e
  · rw [if_neg (nI_ge e (by omega)), pk_sub (by omega)]
    show nI (c - m) - nI 1 = _
    rw [pk_sub (by omega)]; exact congrArg nI (by omega)
  · rw [if_pos (nI_le e (by omega)), show c - (1 + m) = 0 by omega]; rfl
theorem burnm {c m : Nat} (hc : c ≤ 12) (hm : m < 3) : (if 1 + nI m < nI c then 1 + nI m else nI c) + nI (c - (1 + m)) = nI c := by
  have e1 : (1 : Int32) + nI m = nI (1 + m) := nI_add 1 m
  rw [e1]
  rcases Nat.lt_or_ge (1 + m) c with e | e
  · rw [if_pos (nI_lt e (by omega)), nI_add]; exact congrArg nI (by omega)
  · rw [if_neg (nI_nlt e (by omega)), nI_add]; exact congrArg nI (by omega)
theorem sc_w (f : Fn) (c d : Int32) : ∀ n, l_sc f (c + d) n = l_sc f c n + d
  | 0 => rfl
  | n + 1 => by rw [l_sc, l_sc, sc_w f c d n]; grind
theorem sc_un (f : Fn) (c v : Int32) {k : Nat} : ∀ n, n ≤ k → l_sc (upd f k v) c n = l_sc f c n
  | 0, _ => rfl
  | n + 1, h => by rw [l_sc, l_sc, sc_un f c v n (by omega), pk_un (by omega)]
theorem sc_up (f : Fn) (c v : Int32) {k : Nat} : ∀ n, k < n → l_sc (upd f k v) c n + f k = l_sc f c n + v
  | 0, h => absurd h (by omega)
  | n + 1, h => by
    rw [l_sc, l_sc]
    by_cases e : k = n
    · subst e; rw [sc_un f c v k (by omega), pk_us]; grind
    · have ih := sc_up f c v (k := k) n (by omega)
      rw [pk_un (by omega)]; grind
theorem bu_congr {c c' : Nat → Bool} {f f' : Fn} : ∀ {n : Nat}, (∀ j, j < n → c j = c' j ∧ f j = f' j) → l_bu c f n = l_bu c' f' n
  | 0, _ => rfl
  | n + 1, h => by rw [l_bu, l_bu, bu_congr (n := n) (fun j hj => h j (by omega)), (h n (by omega)).1, (h n (by omega)).2]
theorem sc_congr {f f' : Fn} {c : Int32} : ∀ {n : Nat}, (∀ j, j < n → f j = f' j) → l_sc f c n = l_sc f' c n
  | 0, _ => rfl
  | n + 1, h => by rw [l_sc, l_sc, sc_congr (n := n) (fun j hj => h j (by omega)), h n (by omega)]
def z_c (S : CS) (M : SM) (j : Nat) : Bool := decide (c_st S (m_so M j) = 1) && !c_ru S (m_so M j)
def z_f (S : CS) (M : SM) (j : Nat) : Int32 := if 1 + m_mt M j < c_ca S j then 1 + m_mt M j else c_ca S j
theorem burn_ok {B : Nat} {G : HS} {S : CS} {M : SM} (hH : HR G M) (hst : Ist (m_ns M) (c_st S) (m_st M)) (hru : Iru (m_ns M) (c_ru S) (m_ru M)) (hca : Ica (m_np M) (c_ca S) (m_ca M)) (hwa : Ino B (c_wa S) (m_wa M)) (hB : B < 2 ^ 30) :
    ∀ i, i ≤ 16 → ∃ c w, l_burnS G S i = p_wa (p_ca S c) w ∧ Ica (m_np M) c (l_cd (m_st M) (m_ru M) (m_mt M) (m_so M) (m_ca M) (m_wa M) (min i (m_np M))).1 ∧ Ino B w (l_cd (m_st M) (m_ru M) (m_mt M) (m_so M) (m_ca M) (m_wa M) (min i (m_np M))).2.1 ∧ l_burnN G S i = (l_cd (m_st M) (m_ru M) (m_mt M) (m_so M) (m_ca M) (m_wa M) (min i (m_np M))).2.2 ∧ (∀ p, p < 16 → ¬ f_stay S (f_ship G (nI p)) = 1 → c p = c_ca S p) ∧ (∀ p, i ≤ p → c p = c_ca S p) ∧ l_sc c w (m_np M) + l_bu (z_c S M) (z_f S M) (min i (m_np M)) = l_sc (c_ca S) (c_wa S) (m_np M)
  | 0, _ => by
    rw [Nat.zero_min]
    exact ⟨c_ca S, c_wa S, rfl, hca, hwa, rfl, fun _ _ _ => rfl, fun _ _ => rfl, by rw [l_bu, Int32.add_zero]⟩
  | i + 1, q => by
    obtain ⟨c, w, e, h1, h2, h3, h4, h5, h6⟩ := burn_ok hH hst hru hca hwa hB i (by omega)
    rcases Nat.lt_or_ge i (m_np M) with hi | hi
    · rw [(min_lo hi).2] at h1 h2 h3 h6
      rw [(min_lo hi).1]
      obtain ⟨o1, o2⟩ := HR_so hH hi
      have eS : f_ship G (nI i) = nI (m_so M i) := HR_ship hH hi
      have eY : f_stay (l_burnS G S i) (nI (m_so M i)) = c_st S (m_so M i) := by rw [e]; exact fstay_n o2
      have eR : f_is 5 (c_ru (l_burnS G S i)) (nI (m_so M i)) = c_ru S (m_so M i) := by rw [e]; exact fis o2 (by omega)
      obtain ⟨-, -, em, ⟨mm, hmm, em2⟩, -⟩ := hH.2.2.1 i hi
      obtain ⟨k, hk, ek⟩ := hca.2.2 i (by omega)
      have eci : c i = nI k := (h5 i (Nat.le_refl _)).trans ek
      have eC : (l_cd (m_st M) (m_ru M) (m_mt M) (m_so M) (m_ca M) (m_wa M) i).1 i = nI k := (h1.1 i hi).symm.trans eci
      have eb : f_burn1 G (l_burnS G S i) (nI i) = p_wa (p_ca S (upd c i (nI (k - (1 + mm))))) w := by
        rw [f_burn1, e]
        show p_ca (p_wa (p_ca S c) w) (f_put 16 c (nI i) (if 0 < f_at 16 c (nI i) - (1 + f_at 16 (g_mt G) (nI i)) then f_at 16 c (nI i) - (1 + f_at 16 (g_mt G) (nI i)) else 0)) = _
        rw [fat (n := 16) (by omega) (by omega), fat (n := 16) (by omega) (by omega), fput (by omega) (by omega), eci, em, em2, burnv hk hmm]
        rfl
      have ebc : f_at 16 (c_ca (p_wa (p_ca S (upd c i (nI (k - (1 + mm))))) w)) (nI i) = nI (k - (1 + mm)) := by
        show f_at 16 (upd c i (nI (k - (1 + mm)))) (nI i) = _
        rw [fat (by omega) (by omega), pk_us]
      have ecd : f_cd (l_cd (m_st M) (m_ru M) (m_mt M) (m_so M) (m_ca M) (m_wa M) i).1 (m_mt M) i = nI (k - (1 + mm)) := by
        rw [f_cd, eC, em2]; exact burnw hk hmm
      rw [l_burnS, l_burnN, eS, eY, eR, eb, ebc, l_cd, ecd, ← (hst.1 _ o1).1, l_bu]
      have ezc : z_c S M i = (decide (c_st S (m_so M i) = 1) && !c_ru S (m_so M i)) := rfl
      have ezf : z_f S M i + nI (k - (1 + mm)) = nI k := by rw [z_f, em2, ek]; exact burnm hk hmm
      have keep : ∀ (c' : Fn) (w' : Int32), (c_st S (m_so M i) = 1 → c_ru S (m_so M i) = false → True) → True := fun _ _ _ => trivial
      by_cases a1 : c_st S (m_so M i) = 1
      · rw [if_pos a1, if_pos a1, if_pos a1]
        have eru := hru.1 _ o1
        by_cases a2 : c_ru S (m_so M i) = true
        · rw [if_pos a2, if_pos a2, if_pos (show m_ru M (m_so M i) = 1 by rw [← eru, a2]; rfl), if_neg (show ¬ z_c S M i = true by rw [ezc, a2]; simp)]
          exact ⟨c, w, e, h1, h2, h3, h4, fun p hp => h5 p (by omega), h6⟩
        · have a3 : c_ru S (m_so M i) = false := by revert a2; cases c_ru S (m_so M i) <;> decide
          rw [if_neg a2, if_neg a2, if_neg (show ¬ m_ru M (m_so M i) = 1 by rw [← eru, a3]; decide), if_pos (show z_c S M i = true by rw [ezc, a3, decide_eq_true a1]; rfl)]
          have N4 : ∀ v : Int32, ∀ p, p < 16 → ¬ f_stay S (f_ship G (nI p)) = 1 → upd c i v p = c_ca S p := fun v p hp hn => by
            by_cases x : p = i
            · subst x; exact absurd a1 (by rw [eS, fstay_n o2] at hn; exact hn)
            · rw [pk_un x]; exact h4 p hp hn
          have N5 : ∀ v : Int32, ∀ p, i + 1 ≤ p → upd c i v p = c_ca S p := fun v p hp => by rw [pk_un (by omega)]; exact h5 p (by omega)
          have N6 : ∀ v : Int32, l_sc (upd c i v) w (m_np M) + nI k = l_sc c w (m_np M) + v := fun v => by
            have := sc_up c w v (m_np M) hi
            rw [eci] at this; exact this
          by_cases a4 : nI (k - (1 + mm)) = 0
          · rw [if_pos a4, if_pos a4, if_pos a4]
            have a5 : f_litB (p_wa (p_ca S (upd c i (nI (k - (1 + mm))))) w) = f_lB w := rfl
            rw [a5, ← h2.1, f_light]
            show ∃ c' w', (if 12 ≤ w then p_ca (p_wa (p_wa (p_ca S (upd c i (nI (k - (1 + mm))))) w) (w - 12)) (f_put 16 (upd c i (nI (k - (1 + mm)))) (nI i) 12) else p_wa (p_ca S (upd c i (nI (k - (1 + mm))))) w) = _ ∧ _
            rw [fput (by omega) (by omega), upd_upd, f_lca, f_lwa, f_lB]
            by_cases a6 : 12 ≤ w
            · rw [if_pos a6, if_pos a6, if_pos a6, if_pos a6, if_pos rfl, if_pos rfl]
              refine ⟨upd c i 12, w - 12, rfl, ?_, ⟨rfl, ?_⟩, by rw [h3], N4 12, N5 12, ?_⟩
              · rw [upd_upd]; exact Ica_up (k := 12) h1 hi (by omega)
              · obtain ⟨W, hW, eW⟩ := h2.2
                have : 12 ≤ W := (nI_leI (a := 12) (by omega) (by omega)).mp (by rw [← eW]; exact a6)
                exact ⟨W - 12, by omega, by rw [eW]; exact pk_sub (b := 12) this⟩
              · have n6 := N6 12
                have s6 := sc_w (upd c i 12) (w - 12) 12 (m_np M)
                rw [Int32.sub_add_cancel] at s6
                rw [a4] at ezf
                grind
            · rw [if_neg a6, if_neg a6, if_neg a6, if_neg a6, if_neg (c := false = true) (by decide), if_neg (c := false = true) (by decide)]
              refine ⟨upd c i (nI (k - (1 + mm))), w, rfl, Ica_up h1 hi (by omega), ⟨rfl, h2.2⟩, h3, N4 _, N5 _, ?_⟩
              have n6 := N6 (nI (k - (1 + mm)))
              grind
          · rw [if_neg a4, if_neg a4, if_neg a4]
            refine ⟨upd c i (nI (k - (1 + mm))), w, rfl, Ica_up h1 hi (by omega), h2, h3, N4 _, N5 _, ?_⟩
            have n6 := N6 (nI (k - (1 + mm)))
            grind
      · rw [if_neg a1, if_neg a1, if_neg a1, if_neg (show ¬ z_c S M i = true by rw [ezc, decide_eq_false a1]; simp)]
        exact ⟨c, w, e, h1, h2, h3, h4, fun p hp => h5 p (by omega), h6⟩
    · rw [(min_hi (by omega)).2] at h1 h2 h3 h6
      rw [(min_hi (by omega)).1, l_burnS, l_burnN]
      have eY : ¬ f_stay (l_burnS G S i) (f_ship G (nI i)) = 1 := by rw [HR_ship_m hH hi (by omega), fstay_m]; decide
      rw [if_neg eY, if_neg eY]
      exact ⟨c, w, e, h1, h2, h3, h4, fun p hp => h5 p (by omega), h6⟩
