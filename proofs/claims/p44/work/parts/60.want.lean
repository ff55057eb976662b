/-! ===== theory of the class alone: what is wanted is enough; the first dark night ===== -/
theorem pw_two : ∀ i, i < 9 → 512 / 2 ^ i = 2 * (256 / 2 ^ i) ∧ 0 < 256 / 2 ^ i ∧ 512 / 2 ^ (i + 1) = 256 / 2 ^ i := by decide
theorem nI_pre {j : Nat} : nI (j + 1) - 1 = nI j := by
  rw [← nI_add j 1]
  show nI j + 1 - 1 = nI j
  exact Int32.add_sub_cancel _ _
theorem want_inv (P : Int32 → Bool) : ∀ i, i ≤ 9 → l_want P i + 512 / 2 ^ i ≤ 512 ∧ (l_want P i + 512 / 2 ^ i = 512 ∨ P (nI (l_want P i + 512 / 2 ^ i - 1)) = true)
  | 0, _ => ⟨by rw [l_want]; omega, Or.inl (by rw [l_want])⟩
  | i + 1, h => by
    obtain ⟨h1, h2⟩ := want_inv P i (by omega)
    obtain ⟨a1, a2, a3⟩ := pw_two i (by omega)
    rw [l_want, a3]
    by_cases c : P (nI (l_want P i + 256 / 2 ^ i) - 1) = true
    · rw [if_pos c]
      refine ⟨by omega, Or.inr ?_⟩
      obtain ⟨j, hj⟩ : ∃ j, l_want P i + 256 / 2 ^ i = j + 1 := ⟨l_want P i + 256 / 2 ^ i - 1, by omega⟩
      rw [hj] at c ⊢
      rw [nI_pre] at c
      exact c
    · rw [if_neg c]
      refine ⟨by omega, ?_⟩
      rw [a1] at h2
      rcases h2 with q | q
      · exact Or.inl (by omega)
      · exact Or.inr (by rw [show l_want P i + 256 / 2 ^ i + 256 / 2 ^ i - 1 = l_want P i + 2 * (256 / 2 ^ i) - 1 by omega]; exact q)
theorem want_ok (G : HS) (S : CS) (n : Nat) : f_want G S n = -1 ∨ ∃ K, K ≤ 500 ∧ f_want G S n = nI K ∧ f_stayLit G S (nI K) n = true := by
  obtain ⟨h1, h2⟩ := want_inv (fun b => f_stayLit G S b n) 9 (by omega)
  have e : 512 / 2 ^ 9 = 1 := by decide
  rw [e] at h1 h2
  rw [f_want]
  by_cases c : nI (l_want (fun b => f_stayLit G S b n) 9) ≤ 500
  · rw [if_pos c]
    have c2 : l_want (fun b => f_stayLit G S b n) 9 ≤ 500 := (nI_leI (b := 500) (by omega) (by omega)).mp c
    refine Or.inr ⟨_, c2, rfl, ?_⟩
    rcases h2 with q | q
    · omega
    · exact q
  · rw [if_neg c]; exact Or.inl rfl
theorem lit_all {G : HS} {S : CS} : ∀ {n : Nat}, l_lit G S n = true → ∀ k, 1 ≤ k → k ≤ n → f_isDk G S k = false
  | 0, _, k, h1, h2 => by omega
  | n + 1, h, k, h1, h2 => by
    rw [l_lit] at h
    by_cases c : l_lit G S n = true
    · rw [if_pos c] at h
      rcases Nat.lt_or_ge k (n + 1) with q | q
      · exact lit_all c k h1 (by omega)
      · have e : k = n + 1 := by omega
        subst e
        cases hd : f_isDk G S (n + 1) with
        | false => rfl
        | true => rw [hd] at h; exact absurd h (by decide)
    · rw [if_neg c] at h; exact absurd h (by decide)
theorem pass_one (G : HS) (S : CS) (k : Nat) : l_passS G (l_passS G S k) 1 = l_passS G S (k + 1) := rfl
theorem one_clamp : (1 : Int32).toNatClampNeg = 1 := by decide
theorem first_spec (P : Nat → Bool) : ∀ n, l_first P n < n → P (l_first P n) = true ∧ ∀ j, j < l_first P n → P j = false
  | 0, h => absurd h (by omega)
  | n + 1, h => by
    rw [l_first] at h ⊢
    by_cases c : l_first P n < n
    · rw [if_pos c]
      exact first_spec P n c
    · rw [if_neg c] at h ⊢
      have hn : l_first P n = n := by have := l_first_le P n; omega
      have hno : ∀ j, j < n → P j = false := first_no P n hn
      by_cases d : P n = true
      · rw [if_pos d]
        exact ⟨d, hno⟩
      · rw [if_neg d] at h
        omega
where
  first_no (P : Nat → Bool) : ∀ n, l_first P n = n → ∀ j, j < n → P j = false
  | 0, _, j, hj => absurd hj (by omega)
  | n + 1, h, j, hj => by
    rw [l_first] at h
    by_cases c : l_first P n < n
    · rw [if_pos c] at h; omega
    · rw [if_neg c] at h
      have hn : l_first P n = n := by have := l_first_le P n; omega
      by_cases d : P n = true
      · rw [if_pos d] at h; omega
      · rcases Nat.lt_or_ge j n with q | q
        · exact first_no P n hn j q
        · have e : j = n := by omega
          subst e
          cases hd : P j with
          | false => rfl
          | true => exact absurd hd d
/-- the first dark night: none, or N, the first N with a dark candle behind N nights -/
theorem until_ok (G : HS) (S : CS) : f_untilD G S = -1 ∨ ∃ N, N ≤ 200 ∧ f_untilD G S = nI N ∧ f_isDk G S N = true ∧ ∀ j, j < N → f_isDk G S j = false := by
  rw [f_untilD]
  by_cases c : l_first (f_isDk G S) 201 < 201
  · rw [if_pos c]
    obtain ⟨h1, h2⟩ := first_spec (f_isDk G S) 201 c
    exact Or.inr ⟨_, by omega, rfl, h1, h2⟩
  · rw [if_neg c]; exact Or.inl rfl
theorem isDk_pos {G : HS} {S : CS} {j : Nat} : f_isDk G S j = true ↔ 0 < l_dark G (l_passS G S j) 16 := by
  rw [f_isDk]; exact decide_eq_true_iff
theorem isDk_zero {G : HS} {S : CS} {j : Nat} : f_isDk G S j = false ↔ l_dark G (l_passS G S j) 16 ≤ 0 := by
  rw [f_isDk, decide_eq_false_iff_not, Int32.not_lt]
