/-! ===== more wax than enough is enough too ===== -/
theorem mtr_w (a : Fn) (v : Int32) (s : Nat) : ∀ i, l_mtr (upd a 1 v) s i = l_mtr a s i
  | 0 => rfl
  | i + 1 => by rw [l_mtr, l_mtr, mtr_w a v s i, pk_un (show 54 + 5 * i + s ≠ 1 by omega), pk_un (show 50 + i ≠ 1 by omega)]
theorem old1_w (a : Fn) (v : Int32) (w : Nat) : ∀ s, l_old1 (upd a 1 v) w s = upd (l_old1 a w s) 1 v
  | 0 => rfl
  | s + 1 => by
    rw [l_old1, l_old1, old1_w a v w s]
    have k1 : 54 + 5 * w + s ≠ 1 := by omega
    have e2 : r_old1 (upd (l_old1 a w s) 1 v) (54 + 5 * w + s) = upd (r_old1 (l_old1 a w s) (54 + 5 * w + s)) 1 v := by
      show upd (upd (l_old1 a w s) 1 v) (54 + 5 * w + s) (upd (l_old1 a w s) 1 v (54 + 5 * w + s) + 1) = upd (upd (l_old1 a w s) (54 + 5 * w + s) (l_old1 a w s (54 + 5 * w + s) + 1)) 1 v
      rw [pk_un k1, upd_comm _ (Ne.symm k1)]
    have e3 : ∀ b : Fn, r_old2 (upd b 1 v) w = upd (r_old2 b w) 1 v := fun b => by
      show upd (upd b 1 v) (50 + w) (if 0 < upd b 1 v (50 + w) - 2 then upd b 1 v (50 + w) - 2 else 0) = upd (upd b (50 + w) (if 0 < b (50 + w) - 2 then b (50 + w) - 2 else 0)) 1 v
      rw [pk_un (show 50 + w ≠ 1 by omega), upd_comm _ (show 1 ≠ 50 + w by omega)]
    by_cases c1 : l_old1 a w s (54 + 5 * w + s) = -1
    · rw [if_pos c1, if_pos ((pk_un k1).trans c1)]
    · rw [if_neg c1, if_neg (fun q => c1 ((pk_un k1).symm.trans q)), e2]
      by_cases c2 : 3 ≤ r_old1 (l_old1 a w s) (54 + 5 * w + s) (54 + 5 * w + s)
      · have c3 : 3 ≤ upd (r_old1 (l_old1 a w s) (54 + 5 * w + s)) 1 v (54 + 5 * w + s) := by rw [pk_un k1]; exact c2
        rw [if_pos c2, if_pos c3, upd_comm _ (Ne.symm k1), e3]
      · have c3 : ¬ 3 ≤ upd (r_old1 (l_old1 a w s) (54 + 5 * w + s)) 1 v (54 + 5 * w + s) := by rw [pk_un k1]; exact c2
        rw [if_neg c2, if_neg c3]
theorem old_w (Hb : MH) (a : Fn) (v : Int32) : ∀ w, l_old Hb (upd a 1 v) w = upd (l_old Hb a w) 1 v
  | 0 => rfl
  | w + 1 => by rw [l_old, l_old, old_w Hb a v w, old1_w]
theorem mun_w (Hb : MH) (a : Fn) (v : Int32) : ∀ s, l_mun Hb (upd a 1 v) s = upd (l_mun Hb a s) 1 v
  | 0 => rfl
  | s + 1 => by
    rw [l_mun, l_mun, mun_w Hb a v s, mtr_w]
    have k1 : 3 + 3 * s + 2 ≠ 1 := by omega
    have e2 : r_unr (upd (l_mun Hb a s) 1 v) s = upd (r_unr (l_mun Hb a s) s) 1 v := by
      show upd (upd (upd (l_mun Hb a s) 1 v) (3 + 3 * s + 2) 0) 2 (upd (upd (l_mun Hb a s) 1 v) (3 + 3 * s + 2) 0 2 + 1) = upd (upd (upd (l_mun Hb a s) (3 + 3 * s + 2) 0) 2 (upd (l_mun Hb a s) (3 + 3 * s + 2) 0 2 + 1)) 1 v
      rw [upd_comm (l_mun Hb a s) (Ne.symm k1), pk_un (show 2 ≠ 1 by omega), upd_comm _ (show 1 ≠ 2 by omega)]
    by_cases c1 : l_mun Hb a s (3 + 3 * s + 2) = 0
    · rw [if_pos c1, if_pos ((pk_un k1).trans c1)]
    · rw [if_neg c1, if_neg (fun q => c1 ((pk_un k1).symm.trans q)), e2]
      by_cases c2 : l_mtr (l_mun Hb a s) s (n_nw Hb) < 6
      · rw [if_pos c2, if_pos c2]
      · rw [if_neg c2, if_neg c2]
theorem nightA_w (Hb : MH) (a : Fn) (v : Int32) : r_nightA Hb (upd a 1 v) = upd (r_nightA Hb a) 1 v := by
  rw [r_nightA, r_nightA, old_w, mun_w]
theorem nightA_1 (Hb : MH) (a : Fn) : r_nightA Hb a 1 = a 1 := by
  have h := congrFun (nightA_w Hb a (a 1)) 1
  rw [upd_self, pk_us] at h
  exact h
/-- wax left and in the first n candles -/
def l_sumC (b : Fn) : Nat → Int32 | 0 => b 1 | n + 1 => l_sumC b n + b (18 + 2 * n + 0)
theorem sumC_un (b : Fn) {k : Nat} (v : Int32) (h1 : k ≠ 1) : ∀ n, (∀ p, p < n → k ≠ 18 + 2 * p + 0) → l_sumC (upd b k v) n = l_sumC b n
  | 0, _ => by rw [l_sumC, l_sumC, pk_un (Ne.symm h1)]
  | n + 1, h => by rw [l_sumC, l_sumC, sumC_un b v h1 n (fun p hp => h p (by omega)), pk_un (Ne.symm (h n (by omega)))]
theorem sumC_1 (b : Fn) (v : Int32) : ∀ n, l_sumC (upd b 1 v) n = l_sumC b n - b 1 + v
  | 0 => by rw [l_sumC, l_sumC, pk_us]; grind
  | n + 1 => by rw [l_sumC, l_sumC, sumC_1 b v n, pk_un (show 18 + 2 * n + 0 ≠ 1 by omega)]; grind
theorem sumC_ca (b : Fn) (p : Nat) (v : Int32) : ∀ n, p < n → l_sumC (upd b (18 + 2 * p + 0) v) n = l_sumC b n - b (18 + 2 * p + 0) + v
  | 0, q => absurd q (by omega)
  | n + 1, q => by
    rw [l_sumC, l_sumC]
    by_cases e : p = n
    · subst e
      rw [sumC_un b v (by omega) p (fun j hj => by omega), pk_us]; grind
    · rw [sumC_ca b p v n (by omega), pk_un (show 18 + 2 * n + 0 ≠ 18 + 2 * p + 0 by omega)]; grind
theorem sumC_eq (b c : Fn) : ∀ n, (∀ p, p < n → c (18 + 2 * p + 0) = b (18 + 2 * p + 0)) → l_sumC c n - c 1 = l_sumC b n - b 1
  | 0, _ => by rw [l_sumC, l_sumC]; grind
  | n + 1, h => by
    have h1 := sumC_eq b c n (fun p hp => h p (by omega))
    rw [l_sumC, l_sumC, h n (by omega)]
    grind
/-- the same but for wax and candles -/
def EQo (b c : Fn) : Prop := ∀ k, k ≠ 1 → (∀ p, p < 16 → k ≠ 18 + 2 * p + 0) → c k = b k
theorem EQo_upd {b c : Fn} (h : EQo b c) (k : Nat) (v : Int32) : EQo (upd b k v) (upd c k v) := fun j h1 h2 => by
  by_cases e : j = k
  · subst e; rw [pk_us, pk_us]
  · rw [pk_un e, pk_un e]; exact h j h1 h2
theorem EQo_ca {b c : Fn} (h : EQo b c) {p : Nat} (hp : p < 16) (v : Int32) : EQo b (upd c (18 + 2 * p + 0) v) := fun j h1 h2 => by
  rw [pk_un (h2 p hp)]; exact h j h1 h2
theorem EQo_1 {b c : Fn} (h : EQo b c) (v : Int32) : EQo b (upd c 1 v) := fun j h1 h2 => by
  rw [pk_un h1]; exact h j h1 h2
theorem EQo_symm {b c : Fn} (h : EQo b c) : EQo c b := fun j h1 h2 => (h j h1 h2).symm
theorem EQo_out {b c : Fn} (h : EQo b c) {s : Nat} (hs : s < 5) : d_out c s = d_out b s := by
  rw [d_out, d_out, h (3 + 3 * s + 0) (by omega) (fun p hp => by omega)]
theorem out_un {b : Fn} {k : Nat} {v : Int32} {s : Nat} (h : k ≠ 3 + 3 * s + 0) : d_out (upd b k v) s = d_out b s := by
  rw [d_out, d_out, pk_un (Ne.symm h)]
theorem lit_o {b : Fn} {p k : Nat} (h1 : k ≠ 1) (h2 : k ≠ 18 + 2 * p + 0) : r_lit b p k = b k := by
  rw [r_lit]
  split
  · rw [pk_un h2, pk_un h1]
  · rfl
theorem lit_sum {b : Fn} {p : Nat} (hp : p < 16) (h0 : b (18 + 2 * p + 0) = 0) : l_sumC (r_lit b p) 16 = l_sumC b 16 := by
  rw [r_lit]
  split
  · rw [sumC_ca _ p _ 16 hp, sumC_1, pk_un (show 18 + 2 * p + 0 ≠ 1 by omega), h0]; grind
  · rfl
theorem EQo_lit {b c : Fn} (h : EQo b c) {p : Nat} (hp : p < 16) : EQo b (r_lit c p) := fun j h1 h2 => by
  rw [lit_o h1 (h2 p hp)]; exact h j h1 h2
/-- what stands between the two runs behind the i-th candle of a night -/
def BRn (d : Int32) (Hb : MH) (i : Nat) (b c : Fn) : Prop :=
  EQo b c ∧ (∀ p, p < 16 → c (18 + 2 * p + 0) = b (18 + 2 * p + 0) ∨ (p < i ∧ n_so Hb p < 5 ∧ b (18 + 2 * p + 0) = 0 ∧ d_out b (n_so Hb p) = true)) ∧ l_sumC c 16 = l_sumC b 16 + d ∧ (¬ 12 ≤ b 1 ∨ ∀ p, p < 16 → c (18 + 2 * p + 0) = b (18 + 2 * p + 0))
theorem BRn_more {d : Int32} {Hb : MH} {i : Nat} {b c : Fn} (h : BRn d Hb i b c) : BRn d Hb (i + 1) b c :=
  ⟨h.1, fun p hp => (h.2.1 p hp).imp id (fun q => ⟨by omega, q.2⟩), h.2.2⟩
theorem BRn_0 (d : Int32) (Hb : MH) (b : Fn) : BRn d Hb 0 b (upd b 1 (b 1 + d)) :=
  ⟨EQo_1 (fun _ _ _ => rfl) _, fun p hp => .inl (pk_un (by omega)), by rw [sumC_1]; grind, .inr (fun p hp => pk_un (by omega))⟩
theorem BRn_step {D : Nat} {Hb : MH} {i : Nat} {b c : Fn} (hi : i < 16) (hso : n_so Hb i < 5) {W : Nat} (hW : b 1 = nI W) (hWD : W + D < 2 ^ 31) (h : BRn (nI D) Hb i b c) : BRn (nI D) Hb (i + 1) (r_burn Hb b i) (r_burn Hb c i) := by
  have hO := h.1
  have hS := h.2.1
  rw [r_burn, r_burn, EQo_out hO hso, hO (3 + 3 * n_so Hb i + 2) (by omega) (fun p hp => by omega)]
  by_cases q1 : d_out b (n_so Hb i) = true
  · rw [if_pos q1, if_pos q1]
    by_cases q2 : b (3 + 3 * n_so Hb i + 2) = 1
    · rw [if_pos q2, if_pos q2]; exact BRn_more h
    · rw [if_neg q2, if_neg q2]
      have e0 : c (18 + 2 * i + 0) = b (18 + 2 * i + 0) := (hS i hi).elim id (fun q => absurd q.1 (by omega))
      obtain ⟨v, hv⟩ : ∃ v, v = (if 0 < b (18 + 2 * i + 0) - 1 - n_mo Hb i then b (18 + 2 * i + 0) - 1 - n_mo Hb i else 0) := ⟨_, rfl⟩
      have e1 : r_burn1 Hb b i = upd b (18 + 2 * i + 0) v := by rw [hv]
      have e2 : r_burn1 Hb c i = upd c (18 + 2 * i + 0) v := by
        show upd c (18 + 2 * i + 0) (if 0 < c (18 + 2 * i + 0) - 1 - n_mo Hb i then c (18 + 2 * i + 0) - 1 - n_mo Hb i else 0) = _
        rw [e0, hv]
      rw [e1, e2, pk_us, pk_us]
      have H1 : EQo (upd b (18 + 2 * i + 0) v) (upd c (18 + 2 * i + 0) v) := EQo_upd hO _ v
      have H2 : ∀ p, p < 16 → p ≠ i → upd c (18 + 2 * i + 0) v (18 + 2 * p + 0) = upd b (18 + 2 * i + 0) v (18 + 2 * p + 0) ∨ (p < i ∧ n_so Hb p < 5 ∧ upd b (18 + 2 * i + 0) v (18 + 2 * p + 0) = 0 ∧ d_out (upd b (18 + 2 * i + 0) v) (n_so Hb p) = true) := fun p hp hne => by
        rw [pk_un (show 18 + 2 * p + 0 ≠ 18 + 2 * i + 0 by omega), pk_un (show 18 + 2 * p + 0 ≠ 18 + 2 * i + 0 by omega)]
        exact (hS p hp).imp id (fun q => ⟨q.1, q.2.1, q.2.2.1, (out_un (by have := q.2.1; omega)).trans q.2.2.2⟩)
      have H3 : l_sumC (upd c (18 + 2 * i + 0) v) 16 = l_sumC (upd b (18 + 2 * i + 0) v) 16 + nI D := by
        rw [sumC_ca c i v 16 hi, sumC_ca b i v 16 hi, h.2.2.1, e0]; grind
      have e3 : upd b (18 + 2 * i + 0) v 1 = b 1 := pk_un (by omega)
      have H4 : (∀ p, p < 16 → c (18 + 2 * p + 0) = b (18 + 2 * p + 0)) → ∀ p, p < 16 → upd c (18 + 2 * i + 0) v (18 + 2 * p + 0) = upd b (18 + 2 * i + 0) v (18 + 2 * p + 0) := fun hA p hp => by
        by_cases e : p = i
        · subst e; rw [pk_us, pk_us]
        · rw [pk_un (show 18 + 2 * p + 0 ≠ 18 + 2 * i + 0 by omega), pk_un (show 18 + 2 * p + 0 ≠ 18 + 2 * i + 0 by omega)]; exact hA p hp
      by_cases q3 : v = 0
      · rw [if_pos q3, if_pos q3]
        by_cases q4 : 12 ≤ b 1
        · have hA := H4 (h.2.2.2.resolve_left (fun r => r q4))
          have e4 : upd c (18 + 2 * i + 0) v 1 = upd b (18 + 2 * i + 0) v 1 + nI D := by
            have h5 := sumC_eq _ _ 16 hA
            rw [H3] at h5
            grind
          have q5 : 12 ≤ upd c (18 + 2 * i + 0) v 1 := by
            rw [hW] at q4
            have q6 : 12 ≤ W := (nI_leI (a := 12) (by omega) (by omega)).mp q4
            rw [e4, e3, hW, nI_add]
            exact nI_le (a := 12) (by omega) (by omega)
          have q7 : 12 ≤ upd b (18 + 2 * i + 0) v 1 := by rw [e3]; exact q4
          have hC : ∀ p, p < 16 → r_lit (upd c (18 + 2 * i + 0) v) i (18 + 2 * p + 0) = r_lit (upd b (18 + 2 * i + 0) v) i (18 + 2 * p + 0) := fun p hp => by
            by_cases e : p = i
            · subst e; rw [r_lit, r_lit, if_pos q5, if_pos q7, pk_us, pk_us]
            · rw [lit_o (by omega) (by omega), lit_o (by omega) (by omega)]; exact hA p hp
          exact ⟨EQo_symm (EQo_lit (EQo_symm (EQo_lit H1 hi)) hi), fun p hp => .inl (hC p hp), by rw [lit_sum hi (pk_us.trans q3), lit_sum hi (pk_us.trans q3)]; exact H3, .inr hC⟩
        · have e5 : r_lit (upd b (18 + 2 * i + 0) v) i = upd b (18 + 2 * i + 0) v := by
            rw [r_lit, if_neg (by rw [e3]; exact q4)]
          rw [e5]
          refine ⟨EQo_lit H1 hi, fun p hp => ?_, by rw [lit_sum hi (pk_us.trans q3)]; exact H3, .inl (by rw [e3]; exact q4)⟩
          by_cases e : p = i
          · subst e
            exact .inr ⟨by omega, hso, pk_us.trans q3, (out_un (by omega)).trans q1⟩
          · rw [lit_o (by omega) (by omega)]
            exact (H2 p hp e).imp id (fun q => ⟨by omega, q.2⟩)
      · rw [if_neg q3, if_neg q3]
        refine ⟨H1, fun p hp => ?_, H3, h.2.2.2.imp (fun r => by rw [e3]; exact r) H4⟩
        by_cases e : p = i
        · subst e; exact .inl (by rw [pk_us, pk_us])
        · exact (H2 p hp e).imp id (fun q => ⟨by omega, q.2⟩)
  · rw [if_neg q1, if_neg q1]; exact BRn_more h
theorem BRn_loop {D B : Nat} {Hb : MH} {b c : Fn} (h16 : n_np Hb ≤ 16) (hso : ∀ p, p < n_np Hb → n_so Hb p < 5) (hW : ∀ i, i ≤ n_np Hb → ∃ W, W ≤ B ∧ l_mbu Hb b i 1 = nI W) (hBD : B + D < 2 ^ 31) (h0 : BRn (nI D) Hb 0 b c) : ∀ i, i ≤ n_np Hb → BRn (nI D) Hb i (l_mbu Hb b i) (l_mbu Hb c i)
  | 0, _ => h0
  | i + 1, q => by
    obtain ⟨W, hW1, hW2⟩ := hW i (by omega)
    rw [l_mbu, l_mbu]
    exact BRn_step (by omega) (hso i (by omega)) hW2 (by omega) (BRn_loop h16 hso hW hBD h0 i (by omega))
theorem mend1_o (Hb : MH) (s : Nat) (b : Fn) {k : Nat} (h1 : k ≠ 1) : ∀ i, (∀ p, p < i → k ≠ 18 + 2 * p + 0) → l_mend1 Hb s b i k = b k
  | 0, _ => rfl
  | i + 1, h => by
    have h2 := mend1_o Hb s b h1 i (fun p hp => h p (by omega))
    rw [l_mend1]
    split
    · show upd (upd (l_mend1 Hb s b i) 1 _) (18 + 2 * i + 0) 0 k = _
      rw [pk_un (h i (by omega)), pk_un h1, h2]
    · exact h2
theorem mend1_ca (Hb : MH) (s : Nat) (b : Fn) (p : Nat) : ∀ i, l_mend1 Hb s b i (18 + 2 * p + 0) = if p < i ∧ nI (n_so Hb p) = nI s then 0 else b (18 + 2 * p + 0)
  | 0 => by rw [if_neg (fun q => absurd q.1 (by omega))]; rfl
  | i + 1 => by
    have h2 := mend1_ca Hb s b p i
    rw [l_mend1]
    by_cases e : nI (n_so Hb i) = nI s
    · rw [if_pos e]
      show upd (upd (l_mend1 Hb s b i) 1 _) (18 + 2 * i + 0) 0 (18 + 2 * p + 0) = _
      by_cases e2 : p = i
      · subst e2; rw [pk_us, if_pos ⟨by omega, e⟩]
      · rw [pk_un (by omega), pk_un (by omega), h2]
        by_cases q : p < i ∧ nI (n_so Hb p) = nI s
        · rw [if_pos q, if_pos ⟨by omega, q.2⟩]
        · rw [if_neg q, if_neg (fun r => q ⟨by omega, r.2⟩)]
    · rw [if_neg e, h2]
      by_cases q : p < i ∧ nI (n_so Hb p) = nI s
      · rw [if_pos q, if_pos ⟨by omega, q.2⟩]
      · rw [if_neg q, if_neg (fun r => q ⟨by
          by_cases e2 : p = i
          · subst e2; exact absurd r.2 e
          · omega, r.2⟩)]
theorem mend1_sum (Hb : MH) (s : Nat) (b : Fn) : ∀ i, i ≤ 16 → l_sumC (l_mend1 Hb s b i) 16 = l_sumC b 16
  | 0, _ => rfl
  | i + 1, q => by
    have h2 := mend1_sum Hb s b i (by omega)
    rw [l_mend1]
    split
    · show l_sumC (upd (upd (l_mend1 Hb s b i) 1 (l_mend1 Hb s b i 1 + l_mend1 Hb s b i (18 + 2 * i + 0))) (18 + 2 * i + 0) 0) 16 = _
      rw [sumC_ca _ i _ 16 (by omega), sumC_1, pk_un (show 18 + 2 * i + 0 ≠ 1 by omega), h2]
      grind
    · exact h2
theorem mend2_o (s : Nat) (b : Fn) {k : Nat} (hk : k < 54) : ∀ j, l_mend2 s b j k = b k
  | 0 => rfl
  | j + 1 => by rw [l_mend2, pk_un (by omega), mend2_o s b hk j]
theorem mend2_sum (s : Nat) (b : Fn) : ∀ j, l_sumC (l_mend2 s b j) 16 = l_sumC b 16
  | 0 => rfl
  | j + 1 => by rw [l_mend2, sumC_un _ _ (by omega) 16 (fun p hp => by omega), mend2_sum s b j]
theorem end_ca (Hb : MH) (s : Nat) (b : Fn) {p : Nat} (hp : p < 16) (hs : s < 5) : r_end Hb b s (18 + 2 * p + 0) = if p < n_np Hb ∧ nI (n_so Hb p) = nI s then 0 else b (18 + 2 * p + 0) := by
  rw [r_end, mend2_o s _ (by omega), pk_un (by omega), mend1_ca]
theorem end_o (Hb : MH) (s : Nat) (b : Fn) {k : Nat} (h16 : n_np Hb ≤ 16) (h1 : k ≠ 1) (h2 : k ≠ 3 + 3 * s + 2) (h3 : k < 54) (h4 : ∀ p, p < 16 → k ≠ 18 + 2 * p + 0) : r_end Hb b s k = b k := by
  rw [r_end, mend2_o s _ h3, pk_un h2, mend1_o Hb s b h1 _ (fun p hp => h4 p (by omega))]
theorem end_sum (Hb : MH) (s : Nat) (b : Fn) (h16 : n_np Hb ≤ 16) (hs : s < 5) : l_sumC (r_end Hb b s) 16 = l_sumC b 16 := by
  rw [r_end, mend2_sum, sumC_un _ _ (by omega) 16 (fun p hp => by omega), mend1_sum Hb s b _ h16]
theorem EQo_mend2 {b c : Fn} (h : EQo b c) (s : Nat) : ∀ j, EQo (l_mend2 s b j) (l_mend2 s c j)
  | 0 => h
  | j + 1 => EQo_upd (EQo_mend2 h s j) _ _
theorem EQo_end {b c : Fn} (Hb : MH) (h16 : n_np Hb ≤ 16) (h : EQo b c) (s : Nat) : EQo (r_end Hb b s) (r_end Hb c s) := by
  rw [r_end, r_end]
  refine EQo_mend2 (EQo_upd (fun k h1 h2 => ?_) _ _) s _
  rw [mend1_o Hb s b h1 _ (fun p hp => h2 p (by omega)), mend1_o Hb s c h1 _ (fun p hp => h2 p (by omega))]
  exact h k h1 h2
theorem EQo_mvo {b c : Fn} (h : EQo b c) (Hb : MH) (s : Nat) (fl : Bool) : ∀ i, i ≤ 16 → l_mvo Hb c s fl i = l_mvo Hb b s fl i
  | 0, _ => rfl
  | i + 1, q => by rw [l_mvo, l_mvo, EQo_mvo h Hb s fl i (by omega), h (18 + 2 * i + 1) (by omega) (fun p hp => by omega)]
/-- what stands between the two runs while the nights out are counted -/
def LRn (d : Int32) (Hb : MH) (b c : Fn) : Prop :=
  EQo b c ∧ (∀ p, p < 16 → c (18 + 2 * p + 0) = b (18 + 2 * p + 0) ∨ (p < n_np Hb ∧ n_so Hb p < 5 ∧ b (18 + 2 * p + 0) = 0 ∧ d_out b (n_so Hb p) = true)) ∧ l_sumC c 16 = l_sumC b 16 + d
theorem LRn_un {d : Int32} {Hb : MH} {b c : Fn} (h : LRn d Hb b c) {k : Nat} (h1 : k ≠ 1) (h2 : ∀ p, p < 16 → k ≠ 18 + 2 * p + 0) (h3 : ∀ s, s < 5 → k ≠ 3 + 3 * s + 0) (v : Int32) : LRn d Hb (upd b k v) (upd c k v) := by
  refine ⟨EQo_upd h.1 k v, fun p hp => ?_, ?_⟩
  · rw [pk_un (Ne.symm (h2 p hp)), pk_un (Ne.symm (h2 p hp))]
    exact (h.2.1 p hp).imp id (fun q => ⟨q.1, q.2.1, q.2.2.1, (out_un (h3 _ q.2.1)).trans q.2.2.2⟩)
  · rw [sumC_un _ _ h1 16 h2, sumC_un _ _ h1 16 h2]; exact h.2.2
theorem LRn_end {d : Int32} {Hb : MH} {b c : Fn} (h16 : n_np Hb ≤ 16) (h : LRn d Hb b c) {s : Nat} (hs : s < 5) (x : Int32) : LRn d Hb (r_end Hb (upd b (3 + 3 * s + 0) x) s) (r_end Hb (upd c (3 + 3 * s + 0) x) s) := by
  refine ⟨EQo_end Hb h16 (EQo_upd h.1 _ _) s, fun p hp => ?_, ?_⟩
  · rw [end_ca Hb s _ hp hs, end_ca Hb s _ hp hs]
    by_cases q : p < n_np Hb ∧ nI (n_so Hb p) = nI s
    · rw [if_pos q, if_pos q]; exact .inl rfl
    · rw [if_neg q, if_neg q, pk_un (show 18 + 2 * p + 0 ≠ 3 + 3 * s + 0 by omega), pk_un (show 18 + 2 * p + 0 ≠ 3 + 3 * s + 0 by omega)]
      refine (h.2.1 p hp).imp id (fun r => ⟨r.1, r.2.1, r.2.2.1, ?_⟩)
      have e : n_so Hb p ≠ s := fun e => q ⟨r.1, by rw [e]⟩
      have e5 := r.2.1
      rw [d_out, end_o Hb s _ h16 (by omega) (by omega) (by omega) (fun j hj => by omega), pk_un (by omega)]
      exact r.2.2.2
  · rw [end_sum Hb s _ h16 hs, end_sum Hb s _ h16 hs, sumC_un _ _ (by omega) 16 (fun p hp => by omega), sumC_un _ _ (by omega) 16 (fun p hp => by omega)]; exact h.2.2
theorem LRn_loop {d : Int32} {Hb : MH} {b c : Fn} (h16 : n_np Hb ≤ 16) (h : LRn d Hb b c) : ∀ s, s ≤ 5 → LRn d Hb (l_mls Hb b s) (l_mls Hb c s)
  | 0, _ => h
  | s + 1, q => by
    have h1 := LRn_loop h16 h s (by omega)
    rw [l_mls, l_mls, EQo_out h1.1 (s := s) (by omega)]
    by_cases q1 : d_out (l_mls Hb b s) s = true
    · rw [if_pos q1, if_pos q1]
      have hN : LRn d Hb (r_nt1 (l_mls Hb b s) s) (r_nt1 (l_mls Hb c s) s) := by
        show LRn d Hb (upd (l_mls Hb b s) (3 + 3 * s + 1) (l_mls Hb b s (3 + 3 * s + 1) + 1)) (upd (l_mls Hb c s) (3 + 3 * s + 1) (l_mls Hb c s (3 + 3 * s + 1) + 1))
        rw [h1.1 (3 + 3 * s + 1) (by omega) (fun p hp => by omega)]
        exact LRn_un h1 (by omega) (fun p hp => by omega) (fun j hj => by omega) _
      rw [hN.1 (3 + 3 * s + 1) (by omega) (fun p hp => by omega), EQo_mvo hN.1 Hb s false _ h16, EQo_mvo hN.1 Hb s true _ h16]
      split
      · exact hN
      · split
        · exact LRn_end h16 hN (by omega) 2
        · exact hN
    · rw [if_neg q1, if_neg q1]; exact h1
theorem mdk_cnt (Hb : MH) (b : Fn) : ∀ n, ∃ k, k ≤ n ∧ l_mdk Hb b n = nI k ∧ (k = 0 → ∀ p, p < n → r_dark Hb b p = false)
  | 0 => ⟨0, Nat.le_refl _, rfl, fun _ p hp => absurd hp (by omega)⟩
  | n + 1 => by
    obtain ⟨k, h1, h2, h3⟩ := mdk_cnt Hb b n
    rw [l_mdk, h2]
    by_cases e : r_dark Hb b n = true
    · rw [if_pos e]; exact ⟨k + 1, by omega, nI_1 k, fun q => absurd q (by omega)⟩
    · rw [if_neg e, Int32.add_zero]
      refine ⟨k, by omega, rfl, fun q p hp => ?_⟩
      by_cases e2 : p = n
      · subst e2; exact Bool.eq_false_iff.mpr e
      · exact h3 q p (by omega)
theorem mdk_0 {Hb : MH} {b : Fn} {n : Nat} (hn : n < 1000) (h : l_mdk Hb b n = 0) : ∀ p, p < n → r_dark Hb b p = false := by
  obtain ⟨k, h1, h2, h3⟩ := mdk_cnt Hb b n
  refine h3 ?_
  rcases Nat.eq_zero_or_pos k with e | e
  · exact e
  · exact absurd (h2.symm.trans h) (nI_ne0 e (by omega))
theorem mdk_w (Hb : MH) (b : Fn) (v : Int32) : ∀ n, l_mdk Hb (upd b 1 v) n = l_mdk Hb b n
  | 0 => rfl
  | n + 1 => by
    rw [l_mdk, l_mdk, mdk_w Hb b v n, r_dark, r_dark, d_out, d_out, pk_un (show 3 + 3 * n_so Hb n + 0 ≠ 1 by omega), pk_un (show 18 + 2 * n + 0 ≠ 1 by omega)]
section FOUR
variable {B : Nat} {g : FnB} {S : CS} {a : Fn} {G : HS} {Hb : MH}
theorem night_w {D : Nat} (hB : B < 2 ^ 30) (hD : D < 1000) (hR : RH G Hb) (h : IV B g (n_ns Hb) (n_nw Hb) S a) (hd : l_mdk Hb (r_night Hb a) (n_np Hb) = 0) :
    r_night Hb (upd a 1 (a 1 + nI D)) = upd (r_night Hb a) 1 (r_night Hb a 1 + nI D) := by
  have h16 := hR.1.2.2.2.2.1
  have h5 := hR.1.2.2.2.1
  have e : r_nightA Hb (upd a 1 (a 1 + nI D)) = upd (r_nightA Hb a) 1 (r_nightA Hb a 1 + nI D) := by rw [nightA_w, nightA_1]
  have hA := iv_nightA hR h
  have hb := BRn_loop (D := D) (B := B) h16 (fun p hp => RH_so hR hp) (fun i hi => by
    have h1 := (iv_burns' hB hR hA i (by omega)).1
    rw [Nat.min_eq_left hi] at h1
    exact IV_kwa h1) (by omega) (BRn_0 (nI D) Hb (r_nightA Hb a)) (n_np Hb) (Nat.le_refl _)
  rw [← e] at hb
  have hl := LRn_loop h16 (⟨hb.1, hb.2.1, hb.2.2.1⟩ : LRn (nI D) Hb _ _) (n_ns Hb) h5
  have hN : LRn (nI D) Hb (r_night Hb a) (r_night Hb (upd a 1 (a 1 + nI D))) := by
    rw [r_night, r_night, r_nightC, r_nightC, hl.1 0 (by omega) (fun p hp => by omega)]
    exact LRn_un hl (by omega) (fun p hp => by omega) (fun s hs => by omega) _
  have hC : ∀ p, p < 16 → r_night Hb (upd a 1 (a 1 + nI D)) (18 + 2 * p + 0) = r_night Hb a (18 + 2 * p + 0) := fun p hp => by
    rcases hN.2.1 p hp with r | ⟨r1, r2, r3, r4⟩
    · exact r
    · have := mdk_0 (by omega) hd p r1
      rw [r_dark, if_pos r4, if_pos r3] at this
      exact absurd this (by decide)
  have e1 := sumC_eq _ _ 16 hC
  rw [hN.2.2] at e1
  have e2 : r_night Hb (upd a 1 (a 1 + nI D)) 1 = r_night Hb a 1 + nI D := by grind
  funext k
  by_cases k1 : k = 1
  · subst k1; rw [pk_us]; exact e2
  · rw [pk_un k1]
    by_cases k2 : ∃ p, p < 16 ∧ k = 18 + 2 * p + 0
    · obtain ⟨p, hp, k3⟩ := k2
      rw [k3]; exact hC p hp
    · exact hN.1 k k1 (fun p hp r => k2 ⟨p, hp, r⟩)
theorem lit_dk {n i : Nat} (h : l_mlit Hb a n = true) (hi : i < n) : l_mdk Hb (l_mpass Hb a (i + 1)) (n_np Hb) = 0 := by
  have h1 := l_mlit_yes Hb a n h (i + 1) (by omega)
  rw [l_mlit, if_pos (l_mlit_yes Hb a n h i (by omega))] at h1
  by_cases e : l_mdk Hb (l_mpass Hb a (i + 1)) (n_np Hb) = 0
  · exact e
  · rw [if_neg e] at h1; exact absurd h1 (by decide)
theorem pass_w {D n : Nat} (hB : B + 960 * n < 2 ^ 30) (hD : D < 1000) (hR : RH G Hb) (hG : RG G) (h : IV B (g_gi G) (n_ns Hb) (n_nw Hb) S a) (hl : l_mlit Hb a n = true) :
    ∀ i, i ≤ n → l_mpass Hb (upd a 1 (a 1 + nI D)) i = upd (l_mpass Hb a i) 1 (l_mpass Hb a i 1 + nI D)
  | 0, _ => rfl
  | i + 1, q => by
    rw [l_mpass, pass_w hB hD hR hG h hl i (by omega), l_mpass]
    exact night_w (by omega) hD hR (iv_pass hR hG h i (by omega)).1 (lit_dk hl (i := i) (by omega))
theorem mlit_w {D : Nat} (hD : D < 1000) (hR : RH G Hb) (hG : RG G) (h : IV B (g_gi G) (n_ns Hb) (n_nw Hb) S a) : ∀ n, B + 960 * n < 2 ^ 30 → l_mlit Hb a n = true → l_mlit Hb (upd a 1 (a 1 + nI D)) n = true
  | 0, _, _ => rfl
  | n + 1, q, hl => by
    rw [l_mlit, if_pos (mlit_w hD hR hG h n (by omega) (l_mlit_yes Hb a _ hl n (by omega))), pass_w q hD hR hG h hl (n + 1) (by omega), mdk_w, if_pos (lit_dk hl (i := n) (by omega))]
theorem IV_wax (h : IV B g (n_ns Hb) (n_nw Hb) S a) (x : Nat) : IV (B + x) g (n_ns Hb) (n_nw Hb) (p_wa S (c_wa S + nI x)) (upd a 1 (a 1 + nI x)) := by
  obtain ⟨W, hW, eW⟩ := IV_kwa h
  rw [IV_xwa h, eW, nI_add]
  exact IV_wa h (by omega)
theorem enough_mono {x D n : Nat} (hB : B + x + 960 * n < 2 ^ 30) (hD : D < 1000) (hR : RH G Hb) (hG : RG G) (h : IV B (g_gi G) (n_ns Hb) (n_nw Hb) S a) (hl : r_enough Hb a (nI x) n = true) : r_enough Hb a (nI (x + D)) n = true := by
  have h1 := mlit_w hD hR hG (IV_wax h x) n (by omega) hl
  rw [pk_us, upd_upd, Int32.add_assoc, nI_add] at h1
  exact h1
theorem stayLit_eq {x n : Nat} (hB : B + x + 960 * n < 2 ^ 30) (hR : RH G Hb) (hG : RG G) (h : IV B (g_gi G) (n_ns Hb) (n_nw Hb) S a) : f_stayLit G S (nI x) n = r_enough Hb a (nI x) n := by
  have key : ∀ m, m ≤ n → l_lit G (p_wa S (c_wa S + nI x)) m = l_mlit Hb (upd a 1 (a 1 + nI x)) m := by
    intro m
    induction m with
    | zero => intro _; rfl
    | succ m ih =>
      intro q
      have h1 := iv_darks hR (iv_pass hR hG (IV_wax h x) (m + 1) (by omega)).1
      obtain ⟨k, hk, e1, -⟩ := mdk_cnt Hb (l_mpass Hb (upd a 1 (a 1 + nI x)) (m + 1)) (n_np Hb)
      have h16 := hR.1.2.2.2.2.1
      rw [l_lit, l_mlit, ih (by omega), f_isDk, h1, e1]
      rcases Nat.eq_zero_or_pos k with r | r
      · subst r; rfl
      · rw [if_neg (c := nI k = 0) (nI_ne0 r (by omega)), decide_eq_true (show (0 : Int32) < nI k from nI_lt (a := 0) r (by omega))]; rfl
  exact key n (Nat.le_refl _)
end FOUR
