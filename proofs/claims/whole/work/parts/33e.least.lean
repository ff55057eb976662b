/-! ===== the halvings find the least ===== -/
theorem mono_le {P : Nat → Bool} (hm : ∀ x, P x = true → P (x + 1) = true) {x : Nat} (h : P x = true) : ∀ d, P (x + d) = true
  | 0 => h
  | d + 1 => hm (x + d) (mono_le hm h d)
theorem mono_no {P : Nat → Bool} (hm : ∀ x, P x = true → P (x + 1) = true) {x : Nat} (h : P x = false) {j : Nat} (hj : j ≤ x) : P j = false := by
  cases e : P j with
  | false => rfl
  | true =>
    have := mono_le hm e (x - j)
    rw [show j + (x - j) = x by omega, h] at this
    exact absurd this (by decide)
theorem bs_inv {P : Nat → Bool} (hm : ∀ x, P x = true → P (x + 1) = true) (h500 : P 500 = true) : ∀ i, (∀ j, j < (l_bs P i).1 → P j = false) ∧ P (l_bs P i).2 = true ∧ (l_bs P i).1 ≤ (l_bs P i).2 ∧ (l_bs P i).2 ≤ 500
  | 0 => ⟨fun j hj => absurd hj (Nat.not_lt_zero j), h500, Nat.zero_le _, Nat.le_refl _⟩
  | i + 1 => by
    obtain ⟨h1, h2, h3, h4⟩ := bs_inv hm h500 i
    rw [l_bs]
    by_cases e : P (((l_bs P i).1 + (l_bs P i).2) / 2) = true
    · rw [if_pos e]
      exact ⟨h1, e, by show (l_bs P i).1 ≤ ((l_bs P i).1 + (l_bs P i).2) / 2; omega, by show ((l_bs P i).1 + (l_bs P i).2) / 2 ≤ 500; omega⟩
    · have e1 : P (((l_bs P i).1 + (l_bs P i).2) / 2) = false := Bool.eq_false_iff.mpr e
      have e2 : ((l_bs P i).1 + (l_bs P i).2) / 2 < (l_bs P i).2 := by
        rcases Nat.lt_or_ge (((l_bs P i).1 + (l_bs P i).2) / 2) (l_bs P i).2 with r | r
        · exact r
        · have r1 : ((l_bs P i).1 + (l_bs P i).2) / 2 = (l_bs P i).2 := by omega
          rw [r1, h2] at e1
          exact absurd e1 (by decide)
      rw [if_neg e]
      exact ⟨fun j hj => mono_no hm e1 (Nat.lt_succ_iff.mp hj), h2, e2, h4⟩
theorem bs_width (P : Nat → Bool) : ∀ i, (l_bs P i).2 - (l_bs P i).1 ≤ 500 / 2 ^ i
  | 0 => Nat.le_of_eq rfl
  | i + 1 => by
    have h := bs_width P i
    have e0 : 500 / 2 ^ (i + 1) = 500 / 2 ^ i / 2 := by rw [Nat.pow_succ, Nat.div_div_eq_div_mul]
    rw [e0, l_bs]
    split
    · show ((l_bs P i).1 + (l_bs P i).2) / 2 - (l_bs P i).1 ≤ _
      omega
    · show (l_bs P i).2 - (((l_bs P i).1 + (l_bs P i).2) / 2 + 1) ≤ _
      omega
/-- the model's halving ends, at the least -/
theorem bs_end {P : Nat → Bool} (hm : ∀ x, P x = true → P (x + 1) = true) (h500 : P 500 = true) : ∃ K, (∀ i, i < K → (l_bs P i).1 < (l_bs P i).2) ∧ ¬ (l_bs P K).1 < (l_bs P K).2 ∧ P (l_bs P K).1 = true ∧ (∀ j, j < (l_bs P K).1 → P j = false) ∧ (l_bs P K).1 ≤ 500 := by
  obtain ⟨K, h1, h2⟩ := pk_least (fun k => ¬ (l_bs P k).1 < (l_bs P k).2) ⟨9, by
    have h := bs_width P 9
    have : 500 / 2 ^ 9 = 0 := by decide
    rw [this] at h
    omega⟩
  obtain ⟨i1, i2, i3, i4⟩ := bs_inv hm h500 K
  have e : (l_bs P K).1 = (l_bs P K).2 := by omega
  exact ⟨K, fun i hi => Decidable.not_not.mp (h2 i hi), h1, by rw [e]; exact i2, i1, by omega⟩
theorem want_facts : ∀ i, i < 9 → 512 / 2 ^ i = 2 * (256 / 2 ^ i) ∧ 512 / 2 ^ (i + 1) = 256 / 2 ^ i ∧ 1 ≤ 256 / 2 ^ i := by decide
theorem want_inv {P : Nat → Bool} {Q : Int32 → Bool} (hm : ∀ x, P x = true → P (x + 1) = true) (hQ : ∀ x, x < 512 → Q (nI x) = P x) : ∀ i, i ≤ 9 → (∀ j, j < l_want Q i → P j = false) ∧ l_want Q i + 512 / 2 ^ i ≤ 512 ∧ (l_want Q i + 512 / 2 ^ i = 512 ∨ P (l_want Q i + 512 / 2 ^ i - 1) = true)
  | 0, _ => ⟨fun j hj => absurd hj (Nat.not_lt_zero j), by rw [l_want]; exact Nat.le_of_eq rfl, .inl rfl⟩
  | i + 1, q => by
    obtain ⟨h1, h2, h3⟩ := want_inv hm hQ i (by omega)
    obtain ⟨f1, f2, f3⟩ := want_facts i (by omega)
    rw [f1] at h2 h3
    rw [f2, l_want]
    have e0 : nI (l_want Q i + 256 / 2 ^ i) - 1 = nI (l_want Q i + 256 / 2 ^ i - 1) := pk_sub (b := 1) (by omega)
    rw [e0, hQ _ (by omega)]
    by_cases e : P (l_want Q i + 256 / 2 ^ i - 1) = true
    · rw [if_pos e]
      exact ⟨h1, by omega, .inr e⟩
    · rw [if_neg e]
      refine ⟨fun j hj => mono_no hm (Bool.eq_false_iff.mpr e) (by omega), by omega, ?_⟩
      rw [show l_want Q i + 256 / 2 ^ i + 256 / 2 ^ i = l_want Q i + 2 * (256 / 2 ^ i) by omega]
      exact h3
theorem want_end {P : Nat → Bool} {Q : Int32 → Bool} (hm : ∀ x, P x = true → P (x + 1) = true) (hQ : ∀ x, x < 512 → Q (nI x) = P x) : (∀ j, j < l_want Q 9 → P j = false) ∧ (l_want Q 9 = 511 ∨ P (l_want Q 9) = true) ∧ l_want Q 9 ≤ 511 := by
  obtain ⟨h1, h2, h3⟩ := want_inv hm hQ 9 (Nat.le_refl _)
  have e : 512 / 2 ^ 9 = 1 := by decide
  rw [e] at h2 h3
  exact ⟨h1, h3.imp (fun r => by omega) (fun r => r), by omega⟩
section FIVE
variable {B : Nat} {g : FnB} {S : CS} {a : Fn} {G : HS} {Hb : MH}
theorem enough_mono1 {n : Nat} (hB : B + 100000 + 960 * n < 2 ^ 30) (hR : RH G Hb) (hG : RG G) (h : IV B (g_gi G) (n_ns Hb) (n_nw Hb) S a) : ∀ x, x < 1000 → r_enough Hb a (nI x) n = true → r_enough Hb a (nI (x + 1)) n = true :=
  fun x hx q => enough_mono (by omega) (by omega) hR hG h q
/-- what is asked of a number, cut at 600 -/
theorem wantP {n : Nat} (hB : B + 100000 + 960 * n < 2 ^ 30) (hR : RH G Hb) (hG : RG G) (h : IV B (g_gi G) (n_ns Hb) (n_nw Hb) S a) : ∃ P : Nat → Bool, (∀ x, P x = true → P (x + 1) = true) ∧ (∀ x, x < 600 → r_enough Hb a (nI x) n = P x) := by
  refine ⟨fun x => if x < 600 then r_enough Hb a (nI x) n else true, fun x => ?_, fun x hx => (if_pos hx).symm⟩
  show (if x < 600 then r_enough Hb a (nI x) n else true) = true → (if x + 1 < 600 then r_enough Hb a (nI (x + 1)) n else true) = true
  rcases Nat.lt_or_ge (x + 1) 600 with e | e
  · rw [if_pos (show x < 600 by omega), if_pos e]
    exact enough_mono1 hB hR hG h x (by omega)
  · rw [if_neg (show ¬ x + 1 < 600 by omega)]; exact fun _ => rfl
theorem bs_congr {P Q : Nat → Bool} (h : ∀ x, x < 600 → P x = Q x) : ∀ i, (l_bs P i) = (l_bs Q i) ∧ (l_bs Q i).1 ≤ 501 ∧ (l_bs Q i).2 ≤ 500
  | 0 => ⟨rfl, by rw [l_bs]; exact Nat.zero_le _, by rw [l_bs]; exact Nat.le_refl _⟩
  | i + 1 => by
    obtain ⟨h1, h2, h3⟩ := bs_congr h i
    rw [l_bs, l_bs, h1, h _ (by omega)]
    split
    · exact ⟨rfl, h2, by show ((l_bs Q i).1 + (l_bs Q i).2) / 2 ≤ 500; omega⟩
    · exact ⟨rfl, by show ((l_bs Q i).1 + (l_bs Q i).2) / 2 + 1 ≤ 501; omega, h3⟩
theorem want_yes {n : Nat} (hB : B + 100000 + 960 * n < 2 ^ 30) (hR : RH G Hb) (hG : RG G) (h : IV B (g_gi G) (n_ns Hb) (n_nw Hb) S a) (h500 : r_enough Hb a 500 n = true) :
    ∃ K, (∀ i, i < K → (l_bs (fun w9 => r_enough Hb a (nI w9) n) i).1 < (l_bs (fun w9 => r_enough Hb a (nI w9) n) i).2) ∧ ¬ (l_bs (fun w9 => r_enough Hb a (nI w9) n) K).1 < (l_bs (fun w9 => r_enough Hb a (nI w9) n) K).2 ∧ f_want G S n = nI (l_bs (fun w9 => r_enough Hb a (nI w9) n) K).1 := by
  obtain ⟨P, hm, hP⟩ := wantP hB hR hG h
  have hc := fun i => (bs_congr hP i).1
  have hQ : ∀ x, x < 512 → (fun b => f_stayLit G S b n) (nI x) = P x := fun x hx => (stayLit_eq (by omega) hR hG h).trans (hP x (by omega))
  have h5 : P 500 = true := (hP 500 (by omega)).symm.trans h500
  obtain ⟨K, k1, k2, k3, k4, k5⟩ := bs_end hm h5
  obtain ⟨w1, w2, w3⟩ := want_end (Q := fun b => f_stayLit G S b n) hm hQ
  refine ⟨K, fun i hi => by rw [hc i]; exact k1 i hi, by rw [hc K]; exact k2, ?_⟩
  rw [hc K]
  have e : l_want (fun b => f_stayLit G S b n) 9 = (l_bs P K).1 := by
    rcases Nat.lt_trichotomy (l_want (fun b => f_stayLit G S b n) 9) (l_bs P K).1 with r | r | r
    · rcases w2 with s | s
      · omega
      · have := k4 _ r
        rw [s] at this
        exact absurd this (by decide)
    · exact r
    · have := w1 _ r
      rw [k3] at this
      exact absurd this (by decide)
  rw [f_want, e, if_pos (show nI (l_bs P K).1 ≤ (500 : Int32) from nI_le (b := 500) k5 (by omega))]
theorem want_no {n : Nat} (hB : B + 100000 + 960 * n < 2 ^ 30) (hR : RH G Hb) (hG : RG G) (h : IV B (g_gi G) (n_ns Hb) (n_nw Hb) S a) (h500 : r_enough Hb a 500 n = false) : f_want G S n = -1 := by
  obtain ⟨P, hm, hP⟩ := wantP hB hR hG h
  have hQ : ∀ x, x < 512 → (fun b => f_stayLit G S b n) (nI x) = P x := fun x hx => (stayLit_eq (by omega) hR hG h).trans (hP x (by omega))
  have h5 : P 500 = false := (hP 500 (by omega)).symm.trans h500
  obtain ⟨w1, w2, w3⟩ := want_end (Q := fun b => f_stayLit G S b n) hm hQ
  have e : 500 < l_want (fun b => f_stayLit G S b n) 9 := by
    rcases Nat.lt_or_ge 500 (l_want (fun b => f_stayLit G S b n) 9) with r | r
    · exact r
    · rcases w2 with s | s
      · omega
      · have := mono_no hm h5 r
        rw [s] at this
        exact absurd this (by decide)
  rw [f_want, if_neg (show ¬ nI _ ≤ (500 : Int32) from nI_ge (a := 500) e (by omega))]
/-! ===== what would be, night by night ===== -/
theorem first_least {P : Nat → Bool} (n : Nat) : (∃ K, K < n ∧ P K = true ∧ (∀ j, j < K → P j = false) ∧ l_first P n = K) ∨ ((∀ j, j < n → P j = false) ∧ l_first P n = n) := by
  by_cases h : ∃ k, k < n ∧ P k = true
  · obtain ⟨K, ⟨h1, h2⟩, h3⟩ := pk_least (fun k => k < n ∧ P k = true) h
    have h4 : ∀ j, j < K → P j = false := fun j hj => Bool.eq_false_iff.mpr (fun r => h3 j hj ⟨by omega, r⟩)
    exact .inl ⟨K, h1, h2, h4, l_first_at P K h4 h2 n h1⟩
  · have h4 : ∀ j, j < n → P j = false := fun j hj => Bool.eq_false_iff.mpr (fun r => h ⟨j, hj, r⟩)
    exact .inr ⟨h4, l_first_no P n h4⟩
theorem isDk_eq (hR : RH G Hb) (hG : RG G) (h : IV B (g_gi G) (n_ns Hb) (n_nw Hb) S a) {j : Nat} (hB : B + 960 * j < 2 ^ 30) : f_isDk G S j = false ↔ l_mdk Hb (l_mpass Hb a j) (n_np Hb) = 0 := by
  have h1 := iv_darks hR (iv_pass hR hG h j hB).1
  obtain ⟨k, hk, e1, -⟩ := mdk_cnt Hb (l_mpass Hb a j) (n_np Hb)
  have h16 := hR.1.2.2.2.2.1
  rw [f_isDk, h1, e1]
  rcases Nat.eq_zero_or_pos k with r | r
  · subst r; exact ⟨fun _ => rfl, fun _ => rfl⟩
  · rw [decide_eq_true (show (0 : Int32) < nI k from nI_lt (a := 0) r (by omega))]
    exact ⟨fun q => absurd q (by decide), fun q => absurd q (nI_ne0 r (by omega))⟩
theorem untilD (hB : B + 300000 < 2 ^ 30) (hR : RH G Hb) (hG : RG G) (h : IV B (g_gi G) (n_ns Hb) (n_nw Hb) S a) :
    (∃ K, K ≤ 200 ∧ (∀ i, i < K → l_mdk Hb (l_mpass Hb a i) (n_np Hb) = 0) ∧ ¬ l_mdk Hb (l_mpass Hb a K) (n_np Hb) = 0 ∧ f_untilD G S = nI K) ∨ ((∀ i, i < 201 → l_mdk Hb (l_mpass Hb a i) (n_np Hb) = 0) ∧ f_untilD G S = -1) := by
  rcases first_least (P := f_isDk G S) 201 with ⟨K, k1, k2, k3, k4⟩ | ⟨k1, k2⟩
  · refine .inl ⟨K, by omega, fun i hi => (isDk_eq hR hG h (by omega)).mp (k3 i hi), fun r => ?_, ?_⟩
    · have := (isDk_eq hR hG h (j := K) (by omega)).mpr r
      rw [k2] at this
      exact absurd this (by decide)
    · rw [f_untilD, k4, if_pos k1]
  · exact .inr ⟨fun i hi => (isDk_eq hR hG h (by omega)).mp (k1 i hi), by rw [f_untilD, k2, if_neg (by omega)]⟩
/-! ===== sightings grow old ===== -/
def r_aged (v : Int32) : Int32 := if v = -1 then -1 else if 3 ≤ v + 1 then -1 else v + 1
theorem old1_at (b : Fn) (w : Nat) {w0 s0 : Nat} (hs0 : s0 < 5) (hw0 : w0 < 4) : ∀ s, s ≤ 5 → w < 4 → l_old1 b w s (54 + (5 * w0 + s0)) = if w0 = w ∧ s0 < s then r_aged (b (54 + (5 * w0 + s0))) else b (54 + (5 * w0 + s0))
  | 0, _, _ => by rw [if_neg (fun q => absurd q.2 (Nat.not_lt_zero _))]; rfl
  | s + 1, q, hw => by
    have h1 := old1_at b w hs0 hw0 s (by omega) hw
    by_cases e : w0 = w ∧ s0 = s
    · obtain ⟨e1, e2⟩ := e
      subst e1; subst e2
      rw [if_neg (by omega)] at h1
      rw [if_pos ⟨rfl, by omega⟩, ← h1, r_aged, l_old1, Nat.add_assoc 54]
      by_cases c1 : l_old1 b w0 s0 (54 + (5 * w0 + s0)) = -1
      · rw [if_pos c1, if_pos c1]; exact c1
      · have e3 : r_old1 (l_old1 b w0 s0) (54 + (5 * w0 + s0)) (54 + (5 * w0 + s0)) = l_old1 b w0 s0 (54 + (5 * w0 + s0)) + 1 := pk_us
        rw [if_neg c1, if_neg c1, e3]
        split
        · show upd (upd (r_old1 (l_old1 b w0 s0) (54 + (5 * w0 + s0))) (54 + (5 * w0 + s0)) (-1)) (50 + w0) _ (54 + (5 * w0 + s0)) = _
          rw [pk_un (by omega), pk_us]
        · exact e3
    · have e1 : l_old1 b w (s + 1) (54 + (5 * w0 + s0)) = l_old1 b w s (54 + (5 * w0 + s0)) := by
        have k1 : 54 + (5 * w0 + s0) ≠ 54 + 5 * w + s := by omega
        rw [l_old1]
        split
        · rfl
        · split
          · show upd (upd (upd (l_old1 b w s) (54 + 5 * w + s) _) (54 + 5 * w + s) (-1)) (50 + w) _ (54 + (5 * w0 + s0)) = _
            rw [pk_un (by omega), pk_un k1, pk_un k1]
          · show upd (l_old1 b w s) (54 + 5 * w + s) _ (54 + (5 * w0 + s0)) = _
            rw [pk_un k1]
      rw [e1, h1]
      by_cases c : w0 = w ∧ s0 < s
      · rw [if_pos c, if_pos ⟨c.1, by omega⟩]
      · rw [if_neg c, if_neg (by omega)]
theorem old_at (b : Fn) {w0 s0 : Nat} (hs0 : s0 < 5) (hw0 : w0 < 4) (h5 : n_ns Hb ≤ 5) : ∀ w, w ≤ 4 → l_old Hb b w (54 + (5 * w0 + s0)) = if w0 < w ∧ s0 < n_ns Hb then r_aged (b (54 + (5 * w0 + s0))) else b (54 + (5 * w0 + s0))
  | 0, _ => by rw [if_neg (fun q => absurd q.1 (Nat.not_lt_zero _))]; rfl
  | w + 1, q => by
    rw [l_old, old1_at _ w hs0 hw0 _ h5 (by omega), old_at b hs0 hw0 h5 w (by omega)]
    by_cases c : w0 = w ∧ s0 < n_ns Hb
    · rw [if_pos c, if_neg (by omega), if_pos (by omega)]
    · rw [if_neg c]
      by_cases d : w0 < w ∧ s0 < n_ns Hb
      · rw [if_pos d, if_pos (by omega)]
      · rw [if_neg d, if_neg (by omega)]
/-- every sighting is j nights old or older -/
def AGE (j : Nat) (b : Fn) : Prop := ∀ w s, w < 4 → s < 5 → b (54 + (5 * w + s)) = -1 ∨ ∃ n, j ≤ n ∧ n < 3 ∧ b (54 + (5 * w + s)) = nI n
/-- no age is changed but to -1 -/
def AGk (b c : Fn) : Prop := ∀ w s, w < 4 → s < 5 → c (54 + (5 * w + s)) = b (54 + (5 * w + s)) ∨ c (54 + (5 * w + s)) = -1
theorem AGk_refl (b : Fn) : AGk b b := fun _ _ _ _ => .inl rfl
theorem AGk_trans {b c d : Fn} (h1 : AGk b c) (h2 : AGk c d) : AGk b d := fun w s hw hs => (h2 w s hw hs).elim (fun e => (h1 w s hw hs).imp (e.trans) (e.trans)) .inr
theorem AGk_un {b c : Fn} (h : AGk b c) {k : Nat} (hk : k < 54) (v : Int32) : AGk b (upd c k v) := fun w s hw hs => by
  rw [pk_un (show 54 + (5 * w + s) ≠ k by omega)]; exact h w s hw hs
theorem AGk_m {b c : Fn} (h : AGk b c) (k : Nat) : AGk b (upd c k (-1)) := fun w s hw hs => by
  by_cases e : 54 + (5 * w + s) = k
  · rw [← e, pk_us]; exact .inr rfl
  · rw [pk_un e]; exact h w s hw hs
theorem AGE_k {j : Nat} {b c : Fn} (h : AGE j b) (hk : AGk b c) : AGE j c := fun w s hw hs => (hk w s hw hs).elim (fun e => by rw [e]; exact h w s hw hs) .inl
theorem AGk_mun (a : Fn) : ∀ s, s ≤ 5 → AGk a (l_mun Hb a s)
  | 0, _ => AGk_refl a
  | s + 1, q => by
    have h := AGk_mun a s (by omega)
    rw [l_mun]
    split
    · exact h
    · split
      · exact AGk_un (AGk_un h (by omega) _) (by omega) _
      · exact h
theorem AGk_lit {b c : Fn} (h : AGk b c) {p : Nat} (hp : p < 16) : AGk b (r_lit c p) := by
  rw [r_lit]
  split
  · exact AGk_un (AGk_un h (by omega) _) (by omega) _
  · exact h
theorem AGk_mbu (a : Fn) : ∀ i, i ≤ 16 → AGk a (l_mbu Hb a i)
  | 0, _ => AGk_refl a
  | i + 1, q => by
    have h := AGk_mbu a i (by omega)
    rw [l_mbu, r_burn]
    split
    · split
      · exact h
      · split
        · exact AGk_lit (AGk_un h (by omega) _) (by omega)
        · exact AGk_un h (by omega) _
    · exact h
theorem AGk_mend1 {b c : Fn} (h : AGk b c) (s : Nat) : ∀ i, i ≤ 16 → AGk b (l_mend1 Hb s c i)
  | 0, _ => h
  | i + 1, q => by
    have h2 := AGk_mend1 h s i (by omega)
    rw [l_mend1]
    split
    · exact AGk_un (AGk_un h2 (by omega) _) (by omega) _
    · exact h2
theorem AGk_mend2 {b c : Fn} (h : AGk b c) (s : Nat) : ∀ j, AGk b (l_mend2 s c j)
  | 0 => h
  | j + 1 => AGk_m (AGk_mend2 h s j) _
theorem AGk_end {b c : Fn} (h : AGk b c) (h16 : n_np Hb ≤ 16) {s : Nat} (hs : s < 5) : AGk b (r_end Hb c s) := by
  rw [r_end]
  exact AGk_mend2 (AGk_un (AGk_mend1 h s _ h16) (by omega) _) s _
theorem AGk_mls (h16 : n_np Hb ≤ 16) (a : Fn) : ∀ s, s ≤ 5 → AGk a (l_mls Hb a s)
  | 0, _ => AGk_refl a
  | s + 1, q => by
    have h := AGk_mls h16 a s (by omega)
    rw [l_mls]
    split
    · split
      · exact AGk_un h (by omega) _
      · split
        · exact AGk_end (AGk_un (AGk_un h (by omega) _) (by omega) _) h16 (by omega)
        · exact AGk_un h (by omega) _
    · exact h
theorem AGE_old {j : Nat} {b : Fn} (h4 : n_nw Hb ≤ 4) (h5 : n_ns Hb ≤ 5) (hk : ∀ w s, w < 4 → s < 5 → (n_nw Hb ≤ w ∨ n_ns Hb ≤ s) → b (54 + (5 * w + s)) = -1) (h : AGE j b) : AGE (j + 1) (l_old Hb b (n_nw Hb)) := fun w s hw hs => by
  rw [old_at b hs hw h5 _ h4]
  by_cases c : w < n_nw Hb ∧ s < n_ns Hb
  · rw [if_pos c, r_aged]
    rcases h w s hw hs with e | ⟨n, n1, n2, e⟩
    · rw [if_pos e]; exact .inl rfl
    · rw [e, if_neg (fun r => m1_ne n (by omega) r.symm), show nI n + 1 = nI (n + 1) from nI_1 n]
      rcases Nat.lt_or_ge (n + 1) 3 with r | r
      · rw [if_neg (show ¬ (3 : Int32) ≤ nI (n + 1) from nI_ge (b := 3) r (by omega))]; exact .inr ⟨n + 1, by omega, r, rfl⟩
      · rw [if_pos (show (3 : Int32) ≤ nI (n + 1) from nI_le (a := 3) r (by omega))]; exact .inl rfl
  · rw [if_neg c]; exact .inl (hk w s hw hs (by omega))
theorem AGE_night {j : Nat} {b : Fn} (hR : RH G Hb) (hk : ∀ w s, w < 4 → s < 5 → (n_nw Hb ≤ w ∨ n_ns Hb ≤ s) → b (54 + (5 * w + s)) = -1) (h : AGE j b) : AGE (j + 1) (r_night Hb b) := by
  obtain ⟨-, -, -, h5, h16, h4⟩ := hR.1
  rw [r_night, r_nightC, r_nightA]
  exact AGE_k (AGE_old h4 h5 hk h) (AGk_un (AGk_trans (AGk_trans (AGk_mun _ _ h5) (AGk_mbu _ _ h16)) (AGk_mls h16 _ _ h5)) (by omega) _)
theorem mtr_old {b : Fn} {s : Nat} (hs : s < 5) (h : AGE 3 b) : ∀ i, i ≤ 4 → l_mtr b s i = 0
  | 0, _ => rfl
  | i + 1, q => by
    have e : b (54 + 5 * i + s) = -1 := by
      rw [Nat.add_assoc]
      rcases h i s (by omega) hs with e | ⟨n, n1, n2, -⟩
      · exact e
      · omega
    rw [l_mtr, mtr_old hs h i (by omega), if_pos e]; rfl
/-- rung, or not, of a ship, behind a night in which no sighting is left -/
theorem mun_0 {b : Fn} (h4 : n_nw Hb ≤ 4) (h : AGE 3 b) : ∀ s, s ≤ 5 → ∀ j, j < s → l_mun Hb b s (3 + 3 * j + 2) = 0
  | 0, _, j, hj => absurd hj (Nat.not_lt_zero j)
  | s + 1, q, j, hj => by
    have hk := AGE_k h (AGk_mun (Hb := Hb) b s (by omega))
    rw [l_mun]
    by_cases e : l_mun Hb b s (3 + 3 * s + 2) = 0
    · rw [if_pos e]
      by_cases e2 : j = s
      · subst e2; exact e
      · exact mun_0 h4 h s (by omega) j (by omega)
    · rw [if_neg e, mtr_old (by omega) hk _ h4, if_pos (by decide)]
      show upd (upd (l_mun Hb b s) (3 + 3 * s + 2) 0) 2 _ (3 + 3 * j + 2) = 0
      rw [pk_un (by omega)]
      by_cases e2 : j = s
      · subst e2; exact pk_us
      · rw [pk_un (by omega)]; exact mun_0 h4 h s (by omega) j (by omega)
theorem mbu_ru (a : Fn) (s : Nat) (hs : s < 5) : ∀ i, i ≤ 16 → l_mbu Hb a i (3 + 3 * s + 2) = a (3 + 3 * s + 2)
  | 0, _ => rfl
  | i + 1, q => by
    have h := mbu_ru a s hs i (by omega)
    rw [l_mbu, r_burn]
    split
    · split
      · exact h
      · split
        · rw [lit_o (by omega) (by omega)]
          show upd (l_mbu Hb a i) (18 + 2 * i + 0) _ (3 + 3 * s + 2) = _
          rw [pk_un (by omega)]; exact h
        · show upd (l_mbu Hb a i) (18 + 2 * i + 0) _ (3 + 3 * s + 2) = _
          rw [pk_un (by omega)]; exact h
    · exact h
theorem end_ru (b : Fn) (h16 : n_np Hb ≤ 16) {s j : Nat} (hs : s < 5) (hj : j < 5) (h : b (3 + 3 * j + 2) = 0) : r_end Hb b s (3 + 3 * j + 2) = 0 := by
  rw [r_end, mend2_o s _ (by omega)]
  by_cases e : j = s
  · subst e; exact pk_us
  · rw [pk_un (by omega), mend1_o Hb s b (by omega) _ (fun p hp => by omega)]; exact h
theorem mls_ru (h16 : n_np Hb ≤ 16) (a : Fn) {j : Nat} (hj : j < 5) (h0 : a (3 + 3 * j + 2) = 0) : ∀ s, s ≤ 5 → l_mls Hb a s (3 + 3 * j + 2) = 0
  | 0, _ => h0
  | s + 1, q => by
    have h := mls_ru h16 a hj h0 s (by omega)
    have h2 : ∀ v, upd (l_mls Hb a s) (3 + 3 * s + 1) v (3 + 3 * j + 2) = 0 := fun v => (pk_un (by omega)).trans h
    rw [l_mls]
    split
    · split
      · exact h2 _
      · split
        · exact end_ru _ h16 (by omega) hj ((pk_un (by omega)).trans (h2 _))
        · exact h2 _
    · exact h
theorem night_ru {b : Fn} (hR : RH G Hb) (hk : ∀ w s, w < 4 → s < 5 → (n_nw Hb ≤ w ∨ n_ns Hb ≤ s) → b (54 + (5 * w + s)) = -1) (h : AGE 2 b) {s : Nat} (hs : s < n_ns Hb) : r_night Hb b (3 + 3 * s + 2) = 0 := by
  obtain ⟨-, -, -, h5, h16, h4⟩ := hR.1
  rw [r_night, r_nightC, pk_un (by omega)]
  refine mls_ru h16 _ (by omega) ?_ _ h5
  rw [mbu_ru _ s (by omega) _ h16]
  exact mun_0 h4 (AGE_old h4 h5 hk h) _ h5 s hs
theorem three_ru (hB : B + 3000 < 2 ^ 30) (hR : RH G Hb) (hG : RG G) (h : IV B (g_gi G) (n_ns Hb) (n_nw Hb) S a) {s : Nat} (hs : s < n_ns Hb) : l_mpass Hb a 3 (3 + 3 * s + 2) = 0 := by
  have i1 := (iv_pass hR hG h 1 (by omega)).1
  have i2 := (iv_pass hR hG h 2 (by omega)).1
  have a0 : AGE 0 a := fun w s hw hs => (IV_kab h (5 * w + s) (by omega)).imp id (fun ⟨n, h1, h2⟩ => ⟨n, by omega, h1, h2⟩)
  have a1 : AGE 1 (l_mpass Hb a 1) := AGE_night hR (IV_kag h) a0
  have a2 : AGE 2 (l_mpass Hb a 2) := AGE_night hR (IV_kag i1) a1
  exact night_ru hR (IV_kag i2) a2 hs
theorem rung_1 (h : IV B g (n_ns Hb) (n_nw Hb) S a) {s : Nat} (hs : s < 5) : f_is 5 (c_ru S) (nI s) = true ↔ a (3 + 3 * s + 2) = 1 := by
  rw [fis hs (by omega), ← IV_xru h s hs, bI_e1]
theorem until_eq (hB : B + 3000 < 2 ^ 30) (hR : RH G Hb) (hG : RG G) (h : IV B (g_gi G) (n_ns Hb) (n_nw Hb) S a) {s : Nat} (hs : s < n_ns Hb) (h0 : ¬ a (3 + 3 * s + 2) = 0) :
    ∃ K, (∀ i, i < K → l_mpass Hb a i (3 + 3 * s + 2) = 1) ∧ ¬ l_mpass Hb a K (3 + 3 * s + 2) = 1 ∧ f_until G S (nI s) = nI K := by
  have h5 := hR.1.2.2.2.1
  have hs5 : s < 5 := by omega
  have r0 : a (3 + 3 * s + 2) = 1 := (rung_1 h hs5).mp ((iv_rung h hs5).mpr h0)
  have r1 := rung_1 (iv_pass hR hG h 1 (by omega)).1 hs5
  have r2 := rung_1 (iv_pass hR hG h 2 (by omega)).1 hs5
  have r3 := three_ru hB hR hG h hs
  rw [l_passS, l_passS] at r1
  rw [l_passS, l_passS, l_passS] at r2
  rw [f_until]
  by_cases e1 : l_mpass Hb a 1 (3 + 3 * s + 2) = 1
  · rw [if_pos (r1.mpr e1)]
    by_cases e2 : l_mpass Hb a 2 (3 + 3 * s + 2) = 1
    · rw [if_pos (r2.mpr e2)]
      refine ⟨3, fun i hi => ?_, by rw [r3]; decide, rfl⟩
      match i, hi with
      | 0, _ => exact r0
      | 1, _ => exact e1
      | 2, _ => exact e2
    · rw [if_neg (fun q => e2 (r2.mp q))]
      refine ⟨2, fun i hi => ?_, e2, rfl⟩
      match i, hi with
      | 0, _ => exact r0
      | 1, _ => exact e1
  · rw [if_neg (fun q => e1 (r1.mp q))]
    refine ⟨1, fun i hi => ?_, e1, rfl⟩
    match i, hi with
    | 0, _ => exact r0
end FIVE
