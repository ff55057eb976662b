/-! ===== a night: sightings age, watchers are doubted ===== -/
def Itr (nw : Nat) (c m : Fn) : Prop := (∀ w, w < nw → c w = m w) ∧ ∀ w, w < 4 → ∃ k, k ≤ 9 ∧ c w = nI k
def Iag (ag : Fn) : Prop := ∀ i, i < 20 → ag i = -1 ∨ ∃ k, k < 3 ∧ ag i = nI k
def r_ad (v : Int32) : Int32 := if v = -1 then -1 else if v + 1 < 3 then v + 1 else -1
/-- how many of a watcher's sightings get too old in the night -/
def n_od (ag : Fn) (w : Nat) : Nat → Nat | 0 => 0 | i + 1 => if i / 5 = w ∧ ag i = 2 then n_od ag w i + 1 else n_od ag w i
def n_or (sw : FnN) (sg : Fn) (w : Nat) : Nat → Nat | 0 => 0 | i + 1 => if sw i = w ∧ sg i = 2 then n_or sw sg w i + 1 else n_or sw sg w i
theorem dec_c {k : Nat} (hk : k ≤ 9) : (if (0 : Int32) < nI k - 2 then nI k - 2 else 0) = nI (k - 2) := by
  rcases Nat.lt_or_ge k 3 with h | h
  · rw [show k - 2 = 0 by omega]
    have e : ¬ ((0 : Int32) < nI k - 2) := by
      show ¬ ((0 : Int32) < nI k - nI 2)
      rw [Int32.lt_iff_toInt_lt, pk_sub_toInt (by omega) (by omega)]
      show ¬ (0 : Int) < _
      omega
    rw [if_neg e]; rfl
  · rw [show nI k - 2 = nI (k - 2) from pk_sub (b := 2) (by omega), if_pos (show (0 : Int32) < nI (k - 2) from nI_lt (a := 0) (by omega) (by omega))]
theorem dec_s {k : Nat} (hk : k ≤ 9) : (if (2 : Int32) ≤ nI k then nI k - 2 else 0) = nI (k - 2) := by
  rcases Nat.lt_or_ge k 2 with h | h
  · rw [if_neg (show ¬ (2 : Int32) ≤ nI k from nI_ge (b := 2) (by omega) (by omega)), show k - 2 = 0 by omega]; rfl
  · rw [if_pos (show (2 : Int32) ≤ nI k from nI_le (a := 2) h (by omega))]
    exact pk_sub (b := 2) h
theorem ag_cs {v : Int32} (h : v = -1 ∨ ∃ k, k < 3 ∧ v = nI k) (hm : ¬ v = -1) : (v = 2 ∧ ¬ v + 1 < 3 ∧ v + 1 = 3) ∨ (¬ v = 2 ∧ v + 1 < 3 ∧ ¬ v + 1 = 3) := by
  rcases h with e | ⟨k, hk, e⟩
  · exact absurd e hm
  · subst e
    match k, hk with
    | 0, _ => exact .inr ⟨by decide, by decide, by decide⟩
    | 1, _ => exact .inr ⟨by decide, by decide, by decide⟩
    | 2, _ => exact .inl ⟨by decide, by decide, by decide⟩
theorem ag_p1 {v : Int32} (h : v = -1 ∨ ∃ k, k < 3 ∧ v = nI k) (hm : ¬ v = -1) : ¬ v + 1 = -1 := by
  rcases h with e | ⟨k, hk, e⟩
  · exact absurd e hm
  · subst e
    match k, hk with
    | 0, _ => decide
    | 1, _ => decide
    | 2, _ => decide
theorem age_c {S : CS} {K : Nat → Nat} (hK : ∀ w, w < 4 → K w ≤ 9 ∧ c_tr S w = nI (K w)) (hA : Iag (c_ag S)) : ∀ i, i ≤ 20 → ∃ t a, l_age S i = p_ag (p_tr S t) a ∧ (∀ j, a j = if j < i then r_ad (c_ag S j) else c_ag S j) ∧ ∀ w, w < 4 → t w = nI (K w - 2 * n_od (c_ag S) w i)
  | 0, _ => ⟨c_tr S, c_ag S, rfl, fun j => by rw [if_neg (by omega)], fun w hw => (hK w hw).2⟩
  | i + 1, q => by
    obtain ⟨t, a, e, ha, ht⟩ := age_c hK hA i (by omega)
    have hai : a i = c_ag S i := by rw [ha, if_neg (by omega)]
    rw [l_age, e]
    show ∃ t' a', (if a i = -1 then p_ag (p_tr S t) a else if c_ag (f_age1 (p_ag (p_tr S t) a) i) i < 3 then f_age1 (p_ag (p_tr S t) a) i else f_doubt (p_ag (f_age1 (p_ag (p_tr S t) a) i) (upd (c_ag (f_age1 (p_ag (p_tr S t) a) i)) i (-1))) (nI i / 5)) = p_ag (p_tr S t') a' ∧ _
    have e1 : c_ag (f_age1 (p_ag (p_tr S t) a) i) = upd a i (a i + 1) := rfl
    rw [e1, pk_us, upd_upd]
    by_cases c1 : c_ag S i = -1
    · rw [hai, if_pos c1]
      refine ⟨t, a, rfl, fun j => ?_, fun w hw => ?_⟩
      · rcases Nat.lt_trichotomy j i with h | h | h
        · rw [ha, if_pos h, if_pos (by omega)]
        · subst h; rw [hai, if_pos (by omega), r_ad, if_pos c1]; exact c1
        · rw [ha, if_neg (by omega), if_neg (by omega)]
      · rw [ht w hw, n_od, if_neg (fun h => by rw [c1] at h; exact absurd h.2 (by decide))]
    · rw [hai, if_neg c1]
      rcases ag_cs (hA i (by omega)) c1 with ⟨d1, d2, -⟩ | ⟨d1, d2, -⟩
      · rw [if_neg d2]
        have e5 : (nI i / 5 : Int32) = nI (i / 5) := pk_div (d := 5) (by omega) (by omega) (by omega)
        have h4 : i / 5 < 4 := by omega
        refine ⟨upd t (i / 5) (nI (K (i / 5) - 2 * n_od (c_ag S) (i / 5) i - 2)), upd a i (-1), ?_, fun j => ?_, fun w hw => ?_⟩
        · rw [f_doubt, e5]
          show p_tr _ (f_put 4 t (nI (i / 5)) (if 0 < f_at 4 t (nI (i / 5)) - 2 then f_at 4 t (nI (i / 5)) - 2 else 0)) = _
          rw [fput h4 (by omega), fat h4 (by omega), ht _ h4, dec_c (by have := (hK _ h4).1; omega)]
          rfl
        · by_cases h : j = i
          · subst h; rw [pk_us, if_pos (by omega), r_ad, if_neg c1, if_neg d2]
          · rw [pk_un h, ha]
            by_cases h2 : j < i
            · rw [if_pos h2, if_pos (by omega)]
            · rw [if_neg h2, if_neg (by omega)]
        · rw [n_od]
          by_cases h : w = i / 5
          · subst h; rw [pk_us, if_pos ⟨rfl, d1⟩]
            exact congrArg nI (by omega)
          · rw [pk_un h, if_neg (fun q => h q.1.symm)]; exact ht w hw
      · rw [if_pos d2]
        refine ⟨t, upd a i (c_ag S i + 1), by rw [← hai]; rfl, fun j => ?_, fun w hw => ?_⟩
        · by_cases h : j = i
          · subst h; rw [pk_us, if_pos (by omega), r_ad, if_neg c1, if_pos d2]
          · rw [pk_un h, ha]
            by_cases h2 : j < i
            · rw [if_pos h2, if_pos (by omega)]
            · rw [if_neg h2, if_neg (by omega)]
        · rw [ht w hw, n_od, if_neg (fun h => d1 h.2)]
theorem age_s {nw : Nat} {sw : FnN} {tr sg : Fn} {K : Nat → Nat} (hK : ∀ w, w < nw → K w ≤ 9 ∧ tr w = nI (K w)) (hg : ∀ j, sg j = 2 ↔ sg j + 1 = 3) : ∀ n, (∀ j, j < n → sw j < nw) → (∀ j, (l_ag sw tr sg n).2 j = if j < n then sg j + 1 else sg j) ∧ ∀ w, w < nw → (l_ag sw tr sg n).1 w = nI (K w - 2 * n_or sw sg w n)
  | 0, _ => ⟨fun j => by rw [if_neg (by omega)]; rfl, fun w hw => (hK w hw).2⟩
  | n + 1, hs => by
    obtain ⟨h1, h2⟩ := age_s hK hg n (fun j hj => hs j (by omega))
    have hn : (l_ag sw tr sg n).2 n = sg n := by rw [h1, if_neg (by omega)]
    rw [l_ag, hn]
    have A : ∀ j, upd (l_ag sw tr sg n).2 n (sg n + 1) j = if j < n + 1 then sg j + 1 else sg j := fun j => by
      by_cases h : j = n
      · subst h; rw [pk_us, if_pos (by omega)]
      · rw [pk_un h, h1]
        by_cases h2 : j < n
        · rw [if_pos h2, if_pos (by omega)]
        · rw [if_neg h2, if_neg (by omega)]
    by_cases c : sg n + 1 = 3
    · rw [if_pos c]
      refine ⟨A, fun w hw => ?_⟩
      have hw0 := hs n (by omega)
      show upd (l_ag sw tr sg n).1 (sw n) _ w = _
      rw [h2 _ hw0, dec_s (by have := (hK _ hw0).1; omega), n_or]
      by_cases h : w = sw n
      · subst h; rw [pk_us, if_pos ⟨rfl, (hg n).mpr c⟩]
        exact congrArg nI (by omega)
      · rw [pk_un h, if_neg (fun q => h q.1.symm)]; exact h2 w hw
    · rw [if_neg c]
      refine ⟨A, fun w hw => ?_⟩
      show (l_ag sw tr sg n).1 w = _
      rw [h2 w hw, n_or, if_neg (fun q => c ((hg n).mp q.2))]
theorem two_three (v : Int32) : v = 2 ↔ v + 1 = 3 := by
  constructor
  · intro h; subst h; decide
  · intro h
    have : v + 1 - 1 = 3 - 1 := by rw [h]
    rw [Int32.add_sub_cancel] at this
    exact this
theorem n_od_upd {ag : Fn} {k w : Nat} (h : ¬ ag k = -1) : ∀ i, n_od ag w i = n_od (upd ag k (-1)) w i + (if k < i ∧ k / 5 = w ∧ ag k = 2 then 1 else 0)
  | 0 => by rw [if_neg (by omega)]; rfl
  | i + 1 => by
    rw [n_od, n_od, n_od_upd h i]
    by_cases e : i = k
    · subst e
      rw [pk_us, if_neg (c := i / 5 = w ∧ (-1 : Int32) = 2) (fun q => absurd q.2 (by decide)), if_neg (c := i < i ∧ _) (by omega)]
      by_cases c : i / 5 = w ∧ ag i = 2
      · rw [if_pos c, if_pos ⟨by omega, c⟩]
      · rw [if_neg c, if_neg (fun q => c q.2)]
    · rw [pk_un e]
      by_cases c : i / 5 = w ∧ ag i = 2
      · rw [if_pos c, if_pos c]
        by_cases d : k < i ∧ k / 5 = w ∧ ag k = 2
        · rw [if_pos d, if_pos ⟨by omega, d.2⟩]
        · rw [if_neg d, if_neg (fun q => d ⟨by omega, q.2⟩)]
      · rw [if_neg c, if_neg c]
        by_cases d : k < i ∧ k / 5 = w ∧ ag k = 2
        · rw [if_pos d, if_pos ⟨by omega, d.2⟩]
        · rw [if_neg d, if_neg (fun q => d ⟨by omega, q.2⟩)]
theorem n_od_0 {ag : Fn} {w : Nat} (h : ∀ i, i < 20 → ag i = -1) : ∀ i, i ≤ 20 → n_od ag w i = 0
  | 0, _ => rfl
  | i + 1, q => by rw [n_od, if_neg (fun c => absurd ((h i (by omega)).symm.trans c.2) (by decide)), n_od_0 h i (by omega)]
theorem SG_od {nw ns : Nat} {sw ss : FnN} {sg : Fn} (h4 : nw ≤ 4) (h5 : ns ≤ 5) (w : Nat) : ∀ {n : Nat} {ag : Fn}, SG nw ns sw ss sg n ag → n_or sw sg w n = n_od ag w 20
  | 0, _, h => (n_od_0 h 20 (by omega)).symm
  | n + 1, ag, h => by
    obtain ⟨h1, h2, h3, hm, hr⟩ := h
    rw [n_or, SG_od h4 h5 w hr, n_od_upd (ag := ag) (k := 5 * sw n + ss n) (by rw [h3]; exact hm) 20, h3]
    have e : (5 * sw n + ss n) / 5 = sw n := by omega
    rw [e]
    by_cases c : sw n = w ∧ sg n = 2
    · rw [if_pos c, if_pos ⟨by omega, c⟩]
    · rw [if_neg c, if_neg (fun q => c q.2)]; rfl
/-- ages grow by one, all of them -/
theorem SG_plus {nw ns : Nat} {sw ss : FnN} {sg sg' : Fn} (h4 : nw ≤ 4) (h5 : ns ≤ 5) : ∀ {n : Nat} {ag ag' : Fn}, SG nw ns sw ss sg n ag → (∀ i, i < 20 → ¬ ag i = -1 → ¬ ag i + 1 = -1) → (∀ i, i < 20 → ag' i = if ag i = -1 then -1 else ag i + 1) → (∀ j, j < n → sg' j = sg j + 1) → SG nw ns sw ss sg' n ag'
  | 0, ag, ag', h, _, ha, _ => fun i hi => by rw [ha i hi, if_pos (h i hi)]
  | n + 1, ag, ag', h, hp, ha, hs => by
    obtain ⟨h1, h2, h3, hm, hr⟩ := h
    have hk : 5 * sw n + ss n < 20 := by omega
    have hn := hs n (by omega)
    have hq := hp _ hk (by rw [h3]; exact hm)
    rw [h3] at hq
    refine ⟨h1, h2, ?_, by rw [hn]; exact hq, ?_⟩
    · rw [ha _ hk, h3, if_neg hm, hn]
    · refine SG_plus h4 h5 hr (fun i hi => ?_) (fun i hi => ?_) (fun j hj => hs j (by omega))
      · by_cases e : i = 5 * sw n + ss n
        · subst e; rw [pk_us]; intro q; exact absurd rfl q
        · rw [pk_un e]; exact hp i hi
      · by_cases e : i = 5 * sw n + ss n
        · subst e; rw [pk_us, pk_us, if_pos rfl]
        · rw [pk_un e, pk_un e]; exact ha i hi
theorem age_ok {nw ns : Nat} {S : CS} {M : SM} (h4 : nw ≤ 4) (h5 : ns ≤ 5) (ht : Itr nw (c_tr S) (m_tr M)) (hA : Iag (c_ag S)) (hg : SG nw ns (m_sw M) (m_ss M) (m_sg M) (m_ng M) (c_ag S)) :
    ∃ t a, l_age S 20 = p_ag (p_tr S t) a ∧ Itr nw t (m_tr (f_ngA M)) ∧ Iag a ∧ SG nw ns (m_sw (f_ngA M)) (m_ss (f_ngA M)) (m_sg (f_ngA M)) (m_ng (f_ngA M)) a ∧ ∀ i, i < 20 → c_ag S i = -1 → a i = -1 := by
  have hK : ∃ K : Nat → Nat, ∀ w, w < 4 → K w ≤ 9 ∧ c_tr S w = nI (K w) := by
    refine ⟨fun w => (c_tr S w).toInt.toNat, fun w hw => ?_⟩
    obtain ⟨k, hk, e⟩ := ht.2 w hw
    have : (c_tr S w).toInt.toNat = k := by rw [e, nI_toInt (by omega)]; omega
    show (c_tr S w).toInt.toNat ≤ 9 ∧ c_tr S w = nI (c_tr S w).toInt.toNat
    rw [this]; exact ⟨hk, e⟩
  obtain ⟨K, hK⟩ := hK
  obtain ⟨t, a, e, ha, htr⟩ := age_c hK hA 20 (by omega)
  have hb := SG_bd hg
  obtain ⟨s1, s2⟩ := age_s (nw := nw) (sw := m_sw M) (tr := m_tr M) (sg := m_sg M) (K := K) (fun w hw => ⟨(hK w (by omega)).1, (ht.1 w hw).symm.trans (hK w (by omega)).2⟩) (fun j => two_three _) (m_ng M) (fun j hj => (hb j hj).1)
  refine ⟨t, a, e, ⟨fun w hw => ?_, fun w hw => ⟨_, by have := (hK w hw).1; omega, htr w hw⟩⟩, fun i hi => ?_, ?_, fun i hi h => ?_⟩
  · rw [htr w (by omega)]
    show _ = (l_ag (m_sw M) (m_tr M) (m_sg M) (m_ng M)).1 w
    rw [s2 w hw, SG_od h4 h5 w hg]
  · rw [ha, if_pos hi, r_ad]
    by_cases c : c_ag S i = -1
    · rw [if_pos c]; exact .inl rfl
    · rw [if_neg c]
      rcases hA i hi with q | ⟨k, hk, q⟩
      · exact absurd q c
      · rw [q]
        match k, hk with
        | 0, _ => exact .inr ⟨1, by omega, by decide⟩
        | 1, _ => exact .inr ⟨2, by omega, by decide⟩
        | 2, _ => exact .inl (by decide)
  · have hp := SG_plus (sg' := (l_ag (m_sw M) (m_tr M) (m_sg M) (m_ng M)).2) (ag' := fun i => if c_ag S i = -1 then -1 else c_ag S i + 1) h4 h5 hg (fun i hi hm => ag_p1 (hA i hi) hm) (fun i _ => rfl) (fun j hj => by rw [s1, if_pos hj])
    refine SG_drop h4 h5 (-1) 3 hp (fun w u hw hu => ?_)
    rw [ha, if_pos (by omega), if_neg (c := nI u = -1) (fun q => m1_ne u (by omega) q.symm), r_ad]
    by_cases c : c_ag S (5 * w + u) = -1
    · rw [if_pos c, if_pos c, if_pos rfl]
    · rw [if_neg c, if_neg c, if_neg (ag_p1 (hA _ (by omega)) c)]
      by_cases d : c_ag S (5 * w + u) + 1 < 3
      · rw [if_pos d, if_neg (nle.mpr d)]
      · rw [if_neg d, if_pos (nlt.mp d)]
  · rw [ha, if_pos hi, r_ad, if_pos h]
