/-! ===== the whole relation; a ship that is waited for no longer; votes ===== -/
def LA (G : HS) (S : CS) : Prop :=
  (∀ s, s < 5 → c_ru S s = true → c_st S s = 1) ∧ (∀ w s, w < 4 → s < 5 → ¬ c_ag S (5 * w + s) = -1 → c_st S s = 1) ∧ ∀ p, p < 16 → ¬ f_stay S (f_ship G (nI p)) = 1 → c_ca S p = 0
def LB (S : CS) : Prop := ∀ s, s < 5 → c_ru S s = true → 6 ≤ t_su (c_ag S) (c_tr S) s 4
def RA (B : Nat) (G : HS) (S : CS) (M : SM) : Prop :=
  HR G M ∧ Ist (m_ns M) (c_st S) (m_st M) ∧ Iou (m_ns M) (c_ou S) (m_ou M) ∧ Iru (m_ns M) (c_ru S) (m_ru M) ∧ Ica (m_np M) (c_ca S) (m_ca M) ∧ Itr (m_nw M) (c_tr S) (m_tr M) ∧ Iag (c_ag S) ∧ SG (m_nw M) (m_ns M) (m_sw M) (m_ss M) (m_sg M) (m_ng M) (c_ag S) ∧ c_ni S = m_ni M ∧ Ino B (c_wa S) (m_wa M) ∧ Ino B (c_un S) (m_un M) ∧ LA G S
def RR (B : Nat) (G : HS) (S : CS) (M : SM) : Prop := RA B G S M ∧ LB S
theorem su_congr {ag ag' tr tr' : Fn} {s : Nat} : ∀ {i : Nat}, (∀ w, w < i → ag (5 * w + s) = ag' (5 * w + s) ∧ tr w = tr' w) → t_su ag tr s i = t_su ag' tr' s i
  | 0, _ => rfl
  | i + 1, h => by rw [t_su, t_su, su_congr (i := i) (fun w hw => h w (by omega)), (h i (by omega)).1, (h i (by omega)).2]
theorem Ino_le {B B' : Nat} {c m : Int32} (h : Ino B c m) (hb : B ≤ B') : Ino B' c m := by
  obtain ⟨e, W, hW, e2⟩ := h
  exact ⟨e, W, by omega, e2⟩
theorem endA_at {a : Fn} {s : Nat} (hs : s < 5) : ∀ i, i ≤ 4 → ∀ w t, w < 4 → t < 5 → l_endA (nI s) a i (5 * w + t) = if t = s ∧ w < i then -1 else a (5 * w + t)
  | 0, _, w, t, hw, ht => by rw [if_neg (by omega)]; rfl
  | i + 1, q, w, t, hw, ht => by
    rw [l_endA, fplace (by omega) hs, fput (by omega) (by omega)]
    by_cases e : 5 * w + t = 5 * i + s
    · rw [e, pk_us]
      have := (pl_inj ht hs).mp e
      rw [if_pos (by omega)]
    · rw [pk_un e, endA_at hs i (by omega) w t hw ht]
      by_cases d : t = s ∧ w < i
      · rw [if_pos d, if_pos (by omega)]
      · rw [if_neg d, if_neg (by omega)]
theorem endC_ok {B : Nat} {G : HS} {T : CS} {M : SM} {s : Nat} {ca : Fn} {wa : Int32} (hH : HR G M) (hs : s < 5) (hca : Ica (m_np M) (c_ca T) ca) (hwa : Ino B (c_wa T) wa) :
    ∀ i, i ≤ 16 → ∃ c w, l_endC G (nI s) T i = p_wa (p_ca T c) w ∧ Ica (m_np M) c (l_en (m_so M) s ca wa (min i (m_np M))).1 ∧ Ino (B + 12 * i) w (l_en (m_so M) s ca wa (min i (m_np M))).2 ∧ ∀ p, p < 16 → c p = if p < i ∧ f_ship G (nI p) = nI s then 0 else c_ca T p
  | 0, _ => by
    rw [Nat.zero_min]
    exact ⟨c_ca T, c_wa T, rfl, hca, hwa, fun p _ => by rw [if_neg (by omega)]⟩
  | i + 1, q => by
    obtain ⟨c, w, e, h1, h2, h3⟩ := endC_ok hH hs hca hwa i (by omega)
    have skip : ¬ f_ship G (nI i) = nI s → ∀ p, p < 16 → c p = if p < i + 1 ∧ f_ship G (nI p) = nI s then 0 else c_ca T p := fun hn p hp => by
      rw [h3 p hp]
      by_cases d : p < i ∧ f_ship G (nI p) = nI s
      · rw [if_pos d, if_pos ⟨by omega, d.2⟩]
      · rw [if_neg d, if_neg (fun k => d ⟨by
          rcases Nat.lt_or_ge p i with x | x
          · exact x
          · have : p = i := by omega
            subst this; exact absurd k.2 hn, k.2⟩)]
    rw [l_endC]
    rcases Nat.lt_or_ge i (m_np M) with hi | hi
    · rw [(min_lo hi).2] at h1 h2
      rw [(min_lo hi).1, l_en, HR_ship hH hi]
      by_cases d : nI (m_so M i) = nI s
      · rw [if_pos d, if_pos d]
        have e1 : p_ca (p_wa (l_endC G (nI s) T i) (c_wa (l_endC G (nI s) T i) + f_at 16 (c_ca (l_endC G (nI s) T i)) (nI i))) (f_put 16 (c_ca (l_endC G (nI s) T i)) (nI i) 0) = p_wa (p_ca T (upd c i 0)) (w + c i) := by
          rw [e]
          show p_ca (p_wa (p_wa (p_ca T c) w) (w + f_at 16 c (nI i))) (f_put 16 c (nI i) 0) = _
          rw [fat (by omega) (by omega), fput (by omega) (by omega)]; rfl
        rw [e1]
        obtain ⟨k, hk, ek⟩ := h1.2.2 i (by omega)
        refine ⟨upd c i 0, w + c i, rfl, Ica_up (k := 0) h1 hi (by omega), ⟨?_, ?_⟩, fun p hp => ?_⟩
        · rw [h2.1, h1.1 i hi]
        · obtain ⟨W, hW, eW⟩ := h2.2
          exact ⟨W + k, by omega, by rw [eW, ek, nI_add]⟩
        · by_cases x : p = i
          · subst x; rw [pk_us, if_pos ⟨by omega, (HR_ship hH hi).trans d⟩]
          · rw [pk_un x, h3 p hp]
            by_cases d2 : p < i ∧ f_ship G (nI p) = nI s
            · rw [if_pos d2, if_pos ⟨by omega, d2.2⟩]
            · rw [if_neg d2, if_neg (fun k => d2 ⟨by omega, k.2⟩)]
      · rw [if_neg d, if_neg d]
        exact ⟨c, w, e, h1, Ino_le h2 (by omega), skip (by rw [HR_ship hH hi]; exact d)⟩
    · rw [(min_hi (by omega)).2] at h1 h2
      have hn : ¬ f_ship G (nI i) = nI s := by rw [HR_ship_m hH hi (by omega)]; exact m1_ne s (by omega)
      rw [(min_hi (by omega)).1, if_neg hn]
      exact ⟨c, w, e, h1, Ino_le h2 (by omega), skip hn⟩
theorem end_ok {B : Nat} {G : HS} {S : CS} {M : SM} {s : Nat} {x : Int32} (h : RR B G S M) (hs : s < m_ns M) (hx : x = 0 ∨ x = 2) : RR (B + 192) G (f_end G S (nI s) x) (f_ends (q_st M (upd (m_st M) s x)) s) ∧ (∀ t, t < 5 → c_st (f_end G S (nI s) x) t = if t = s then x else c_st S t) ∧ c_un (f_end G S (nI s) x) = c_un S ∧ c_ou (f_end G S (nI s) x) = c_ou S := by
  obtain ⟨⟨hH, hst, hou, hru, hca, htr, hag, hsg, hni, hwa, hun, l1, l2, l3⟩, lb⟩ := h
  have n5 : m_ns M ≤ 5 := hH.1.2.2.2.1
  have n4 : m_nw M ≤ 4 := hH.1.2.2.2.2.2
  have n16 : m_np M ≤ 16 := hH.1.2.2.2.2.1
  have hs5 : s < 5 := by omega
  have e2 : f_end2 S (nI s) x = p_ag (p_ru (p_st S (upd (c_st S) s x)) (updB (c_ru S) s false)) (l_endA (nI s) (c_ag S) 4) := by
    rw [f_end2, f_end1, fput hs5 (by omega), fmark hs5 (by omega)]
  obtain ⟨c, w, e, h1, h2, h3⟩ := endC_ok (B := B) (T := f_end2 S (nI s) x) (ca := m_ca M) (wa := m_wa M) hH hs5 (by rw [e2]; exact hca) (by rw [e2]; exact hwa) 16 (by omega)
  rw [Nat.min_eq_right n16] at h1 h2
  have eE : f_end G S (nI s) x = p_wa (p_ca (p_ag (p_ru (p_st S (upd (c_st S) s x)) (updB (c_ru S) s false)) (l_endA (nI s) (c_ag S) 4)) c) w := by
    rw [f_end, e, e2]
  have h3 : ∀ p, p < 16 → c p = if f_ship G (nI p) = nI s then 0 else c_ca S p := fun p hp => by
    rw [h3 p hp, e2]
    by_cases d : f_ship G (nI p) = nI s
    · rw [if_pos ⟨hp, d⟩, if_pos d]
    · rw [if_neg (fun k => d k.2), if_neg d]; rfl
  have hA := endA_at (a := c_ag S) hs5 4 (by omega)
  have hA' : ∀ w t, w < 4 → t < 5 → l_endA (nI s) (c_ag S) 4 (5 * w + t) = if t = s then -1 else c_ag S (5 * w + t) := fun w t hw ht => by
    rw [hA w t hw ht]
    by_cases d : t = s
    · rw [if_pos ⟨d, hw⟩, if_pos d]
    · rw [if_neg (fun k => d k.1), if_neg d]
  have hst' : ∀ t, t < 5 → upd (c_st S) s x t = if t = s then x else c_st S t := fun t _ => by
    by_cases d : t = s
    · subst d; rw [pk_us, if_pos rfl]
    · rw [pk_un d, if_neg d]
  rw [eE]
  refine ⟨⟨⟨hH, Ist_up hst hs (by rcases hx with r | r <;> simp [r]), hou, Iru_up hru hs false, h1, htr, fun i hi => ?_, ?_, hni, h2, Ino_le hun (by omega), fun t ht hr => ?_, fun w t hw ht hn => ?_, fun p hp hn => ?_⟩, fun t ht hr => ?_⟩, hst', rfl, rfl⟩
  · show l_endA (nI s) (c_ag S) 4 i = -1 ∨ _
    have e9 : i = 5 * (i / 5) + i % 5 := by omega
    rw [e9]
    show l_endA (nI s) (c_ag S) 4 (5 * (i / 5) + i % 5) = -1 ∨ ∃ k, k < 3 ∧ l_endA (nI s) (c_ag S) 4 (5 * (i / 5) + i % 5) = nI k
    rw [hA' _ _ (by omega) (by omega)]
    by_cases d : i % 5 = s
    · rw [if_pos d]; exact .inl rfl
    · rw [if_neg d, ← e9]; exact hag i hi
  · show SG (m_nw M) (m_ns M) (m_sw (f_drop (q_st M (upd (m_st M) s x)) (nI s) 99)) (m_ss (f_drop (q_st M (upd (m_st M) s x)) (nI s) 99)) (m_sg (f_drop (q_st M (upd (m_st M) s x)) (nI s) 99)) (m_ng (f_drop (q_st M (upd (m_st M) s x)) (nI s) 99)) (l_endA (nI s) (c_ag S) 4)
    refine SG_drop n4 n5 (nI s) 99 hsg (fun w t hw ht => ?_)
    rw [hA' w t hw ht]
    by_cases d : t = s
    · rw [if_pos d]
      by_cases d2 : c_ag S (5 * w + t) = -1
      · rw [if_pos d2]
      · rw [if_neg d2, if_pos (by rw [d])]
    · rw [if_neg d, if_neg (fun k => d (nI_inj5 (by omega) (by omega) k))]
      rcases hag (5 * w + t) (by omega) with d2 | ⟨k, hk, d2⟩
      · rw [if_pos d2]; exact d2
      · by_cases d3 : c_ag S (5 * w + t) = -1
        · rw [if_pos d3]; exact d3
        · rw [if_neg d3, if_neg (by rw [d2]; exact nI_ge (b := 99) (by omega) (by omega))]
  · show upd (c_st S) s x t = 1
    have hr' : updB (c_ru S) s false t = true := hr
    by_cases d : t = s
    · subst d; rw [updB_s] at hr'; exact absurd hr' (by decide)
    · rw [updB_n d] at hr'; rw [pk_un d]; exact l1 t ht hr'
  · show upd (c_st S) s x t = 1
    have hn' : ¬ l_endA (nI s) (c_ag S) 4 (5 * w + t) = -1 := hn
    rw [hA' w t hw ht] at hn'
    by_cases d : t = s
    · rw [if_pos d] at hn'; exact absurd rfl hn'
    · rw [if_neg d] at hn'; rw [pk_un d]; exact l2 w t hw ht hn'
  · show c p = 0
    rw [h3 p hp]
    by_cases d : f_ship G (nI p) = nI s
    · rw [if_pos d]
    · rw [if_neg d]
      refine l3 p hp (fun k => hn ?_)
      rcases Nat.lt_or_ge p (m_np M) with y | y
      · rw [HR_ship hH y] at k d ⊢
        have o := (HR_so hH y).2
        rw [fstay_n o] at k ⊢
        show upd (c_st S) s x (m_so M p) = 1
        rw [pk_un (fun z => d (by rw [z]))]; exact k
      · rw [HR_ship_m hH y hp, fstay_m] at k; exact absurd k (by decide)
  · have hr' : updB (c_ru S) s false t = true := hr
    by_cases d : t = s
    · subst d; rw [updB_s] at hr'; exact absurd hr' (by decide)
    · rw [updB_n d] at hr'
      show 6 ≤ t_su (l_endA (nI s) (c_ag S) 4) (c_tr S) t 4
      rw [su_congr (ag' := c_ag S) (tr' := c_tr S) (fun w hw => ⟨by rw [hA' w t (by omega) ht, if_neg d], rfl⟩)]
      exact lb t ht hr'
theorem cnt_ok {G : HS} {M : SM} (hH : HR G M) {s : Nat} (hs : s < 5) (b : FnB) (fl : Bool) (hb : ∀ p, p < m_np M → b p = if m_vo M p = 1 then (if fl = true then decide (m_gi M p = 1) else true) else false) :
    ∀ i, i ≤ 16 → l_cnt (g_sh G) b (nI s) i = l_vot (m_so M) (m_vo M) (m_gi M) s fl (min i (m_np M)) ∧ ∃ k, k ≤ i ∧ l_cnt (g_sh G) b (nI s) i = nI k
  | 0, _ => ⟨by rw [Nat.zero_min]; rfl, 0, Nat.le_refl _, rfl⟩
  | i + 1, q => by
    obtain ⟨h1, k, hk, h2⟩ := cnt_ok hH hs b fl hb i (by omega)
    rcases Nat.lt_or_ge i (m_np M) with e | e
    · rw [(min_lo e).1, l_cnt, l_vot, (hH.2.2.1 i e).1, hb i e]
      rw [(min_lo e).2] at h1
      rw [← h1]
      by_cases e1 : nI (m_so M i) = nI s
      · rw [if_pos e1, if_pos e1]
        by_cases e2 : m_vo M i = 1
        · rw [if_pos e2, if_pos e2]
          cases fl with
          | false =>
            rw [if_neg (c := false = true) (by decide), if_neg (c := false = true) (by decide), if_pos rfl]
            by_cases e3 : m_gi M i = 1
            · rw [if_pos e3]; exact ⟨rfl, k + 1, by omega, by rw [h2]; exact nI_1 k⟩
            · rw [if_neg e3]; exact ⟨rfl, k + 1, by omega, by rw [h2]; exact nI_1 k⟩
          | true =>
            rw [if_pos rfl, if_pos rfl]
            by_cases e3 : m_gi M i = 1
            · rw [if_pos e3, if_pos (by rw [e3]; decide)]; exact ⟨rfl, k + 1, by omega, by rw [h2]; exact nI_1 k⟩
            · rw [if_neg e3, if_neg (by rw [decide_eq_true_iff]; exact e3)]; exact ⟨rfl, k, by omega, h2⟩
        · rw [if_neg e2, if_neg e2, if_neg (by decide)]; exact ⟨rfl, k, by omega, h2⟩
      · rw [if_neg e1, if_neg e1]; exact ⟨rfl, k, by omega, h2⟩
    · rw [(min_hi (by omega)).1, l_cnt, (hH.2.2.2 i e (by omega)).1, if_neg (m1_ne s (by omega))]
      rw [(min_hi (by omega)).2] at h1
      exact ⟨h1, k, by omega, h2⟩
theorem bI_one {b : Bool} : bI b = 1 ↔ b = true := bI_e1 b
theorem voters_ok {G : HS} {M : SM} (hH : HR G M) {s : Nat} (hs : s < 5) : f_voters G (nI s) = l_vot (m_so M) (m_vo M) (m_gi M) s false (m_np M) ∧ ∃ k, k ≤ 16 ∧ f_voters G (nI s) = nI k := by
  have := cnt_ok hH hs (g_vo G) false (fun p hp => by
    obtain ⟨-, -, -, -, -, v, -, -⟩ := hH.2.2.1 p hp
    rw [if_neg (c := false = true) (by decide), ← v]
    cases g_vo G p <;> decide) 16 (by omega)
  rw [Nat.min_eq_right hH.1.2.2.2.2.1] at this
  exact this
theorem votes_ok {G : HS} {M : SM} (hH : HR G M) {s : Nat} (hs : s < 5) : f_votes G (nI s) = l_vot (m_so M) (m_vo M) (m_gi M) s true (m_np M) ∧ ∃ k, k ≤ 16 ∧ f_votes G (nI s) = nI k := by
  have := cnt_ok hH hs (g_gi G) true (fun p hp => by
    obtain ⟨-, -, -, -, -, v, g, i⟩ := hH.2.2.1 p hp
    rw [if_pos rfl, ← v, ← g]
    revert i
    cases g_gi G p <;> cases g_vo G p <;> decide) 16 (by omega)
  rw [Nat.min_eq_right hH.1.2.2.2.2.1] at this
  exact this
theorem vtl_0 {V N : Int32} {v n : Nat} (hv : v ≤ 16) (hn : n ≤ 16) (eV : V = nI v) (eN : N = nI n) : ((if 0 < V / 2 + 1 - N then V / 2 + 1 - N else 0) = 0) ↔ V < N * 2 := by
  subst eV; subst eN
  have e1 : nI v / 2 + 1 = nI (v / 2 + 1) := by
    show nI v / nI 2 + nI 1 = _
    rw [pk_div (by omega) (by omega) (by omega), nI_add]
  have e2 : nI n * (2 : Int32) = nI (n * 2) := pk_mul n 2
  rw [e1, e2, nI_ltI (by omega) (by omega)]
  rcases Nat.lt_or_ge n (v / 2 + 1) with e | e
  · rw [pk_sub (by omega), if_pos (show (0 : Int32) < nI (v / 2 + 1 - n) from nI_lt (a := 0) (by omega) (by omega))]
    constructor
    · intro q; exact absurd q (nI_ne0 (by omega) (by omega))
    · intro q; omega
  · have e3 : ¬ (0 < nI (v / 2 + 1) - nI n) := by
      rw [Int32.lt_iff_toInt_lt, pk_sub_toInt (by omega) (by omega)]
      show ¬ (0 : Int) < _
      omega
    rw [if_neg e3]
    exact ⟨fun _ => by omega, fun _ => rfl⟩
theorem vtl_ok {G : HS} {M : SM} (hH : HR G M) {s : Nat} (hs : s < 5) : f_vtl G (nI s) = 0 ↔ l_vot (m_so M) (m_vo M) (m_gi M) s false (m_np M) < l_vot (m_so M) (m_vo M) (m_gi M) s true (m_np M) * 2 := by
  obtain ⟨h1, k1, hk1, e1⟩ := voters_ok hH hs
  obtain ⟨h2, k2, hk2, e2⟩ := votes_ok hH hs
  rw [f_vtl, ← h1, ← h2]
  exact vtl_0 hk1 hk2 e1 e2
