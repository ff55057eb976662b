/-! ===== the class's state and the model's: what is the same, and what is kept ===== -/
/-- S and a say the same; g is who is given up; B bounds the wax -/
def IV (B : Nat) (g : FnB) (ns nw : Nat) (S : CS) (a : Fn) : Prop :=
  (∀ s, s < 5 → c_st S s = a (3 + 3 * s + 0)) ∧
  (∀ s, s < 5 → c_ou S s = a (3 + 3 * s + 1)) ∧
  (∀ s, s < 5 → bI (c_ru S s) = a (3 + 3 * s + 2)) ∧
  (∀ p, p < 16 → c_ca S p = a (18 + 2 * p + 0)) ∧
  (∀ p, p < 16 → bI (g p) = a (18 + 2 * p + 1)) ∧
  (∀ w, w < 4 → c_tr S w = a (50 + w)) ∧
  (∀ i, i < 20 → c_ag S i = a (54 + i)) ∧
  c_ni S = a 0 ∧ c_wa S = a 1 ∧ c_un S = a 2 ∧
  (∀ w s, w < 4 → s < 5 → (nw ≤ w ∨ ns ≤ s) → a (54 + (5 * w + s)) = -1) ∧
  (∀ s, ns ≤ s → s < 5 → a (3 + 3 * s + 0) = 0 ∧ a (3 + 3 * s + 2) = 0) ∧
  (∀ i, i < 20 → a (54 + i) = -1 ∨ ∃ n, n < 3 ∧ a (54 + i) = nI n) ∧
  (∀ w, w < 4 → ∃ t, t ≤ 9 ∧ a (50 + w) = nI t) ∧
  (∀ p, p < 16 → ∃ c, c ≤ 12 ∧ a (18 + 2 * p + 0) = nI c) ∧
  (∃ W, W ≤ B ∧ a 1 = nI W)
theorem upd_upd (f : Fn) (k : Nat) (x y : Int32) : upd (upd f k x) k y = upd f k y := by
  funext j
  by_cases e : j = k
  · subst e; rw [pk_us, pk_us]
  · rw [pk_un e, pk_un e, pk_un e]
theorem upd_comm (f : Fn) {k l : Nat} (h : k ≠ l) (x y : Int32) : upd (upd f k x) l y = upd (upd f l y) k x := by
  funext j
  by_cases e : j = k
  · subst e; rw [pk_us, pk_un h, pk_us]
  · by_cases e2 : j = l
    · subst e2; rw [pk_us, pk_un e, pk_us]
    · rw [pk_un e2, pk_un e, pk_un e, pk_un e2]
theorem upd_self (f : Fn) (k : Nat) : upd f k (f k) = f := by
  funext j
  by_cases e : j = k
  · subst e; rw [pk_us]
  · rw [pk_un e]
theorem updB_s {f : FnB} {k : Nat} {x : Bool} : updB f k x k = x := if_pos rfl
theorem updB_n {f : FnB} {k j : Nat} {x : Bool} (h : j ≠ k) : updB f k x j = f j := if_neg h
section IVS
variable {B : Nat} {g : FnB} {ns nw : Nat} {S : CS} {a : Fn}
theorem IV_st (h : IV B g ns nw S a) {s : Nat} (hs : s < ns) (hn5 : ns ≤ 5) (v : Int32) : IV B g ns nw (p_st S (upd (c_st S) s v)) (upd a (3 + 3 * s + 0) v) := by
  obtain ⟨h1, h2, h3, h4, h5, h6, h7, h8, h9, h10, h11, h12, h13, h14, h15, h16⟩ := h
  refine ⟨fun j hj => ?_, fun j hj => ?_, fun j hj => ?_, fun j hj => ?_, fun j hj => ?_, fun j hj => ?_, fun j hj => ?_, ?_, ?_, ?_, fun w0 s0 hw0 hs0 hq => ?_, fun j hn hj => ?_, fun j hj => ?_, fun j hj => ?_, fun j hj => ?_, ?_⟩
  · show upd (c_st S) s v j = _
    by_cases e : j = s
    · subst e; rw [pk_us, pk_us]
    · exact (pk_un e).trans ((h1 j hj).trans (pk_un (by omega)).symm)
  · exact (h2 j hj).trans (pk_un (by omega)).symm
  · exact (h3 j hj).trans (pk_un (by omega)).symm
  · exact (h4 j hj).trans (pk_un (by omega)).symm
  · exact (h5 j hj).trans (pk_un (by omega)).symm
  · exact (h6 j hj).trans (pk_un (by omega)).symm
  · exact (h7 j hj).trans (pk_un (by omega)).symm
  · exact h8.trans (pk_un (by omega)).symm
  · exact h9.trans (pk_un (by omega)).symm
  · exact h10.trans (pk_un (by omega)).symm
  · exact (pk_un (by omega)).trans (h11 w0 s0 hw0 hs0 hq)
  · exact ⟨(pk_un (by omega)).trans (h12 j hn hj).1, (pk_un (by omega)).trans (h12 j hn hj).2⟩
  · rw [show (upd a (3 + 3 * s + 0) v) (54 + j) = a (54 + j) from pk_un (by omega)]; exact h13 j hj
  · rw [show (upd a (3 + 3 * s + 0) v) (50 + j) = a (50 + j) from pk_un (by omega)]; exact h14 j hj
  · rw [show (upd a (3 + 3 * s + 0) v) (18 + 2 * j + 0) = a (18 + 2 * j + 0) from pk_un (by omega)]; exact h15 j hj
  · rw [show (upd a (3 + 3 * s + 0) v) 1 = a 1 from pk_un (by omega)]; exact h16
theorem IV_ou (h : IV B g ns nw S a) {s : Nat} (hs : s < 5) (v : Int32) : IV B g ns nw (p_ou S (upd (c_ou S) s v)) (upd a (3 + 3 * s + 1) v) := by
  obtain ⟨h1, h2, h3, h4, h5, h6, h7, h8, h9, h10, h11, h12, h13, h14, h15, h16⟩ := h
  refine ⟨fun j hj => ?_, fun j hj => ?_, fun j hj => ?_, fun j hj => ?_, fun j hj => ?_, fun j hj => ?_, fun j hj => ?_, ?_, ?_, ?_, fun w0 s0 hw0 hs0 hq => ?_, fun j hn hj => ?_, fun j hj => ?_, fun j hj => ?_, fun j hj => ?_, ?_⟩
  · exact (h1 j hj).trans (pk_un (by omega)).symm
  · show upd (c_ou S) s v j = _
    by_cases e : j = s
    · subst e; rw [pk_us, pk_us]
    · exact (pk_un e).trans ((h2 j hj).trans (pk_un (by omega)).symm)
  · exact (h3 j hj).trans (pk_un (by omega)).symm
  · exact (h4 j hj).trans (pk_un (by omega)).symm
  · exact (h5 j hj).trans (pk_un (by omega)).symm
  · exact (h6 j hj).trans (pk_un (by omega)).symm
  · exact (h7 j hj).trans (pk_un (by omega)).symm
  · exact h8.trans (pk_un (by omega)).symm
  · exact h9.trans (pk_un (by omega)).symm
  · exact h10.trans (pk_un (by omega)).symm
  · exact (pk_un (by omega)).trans (h11 w0 s0 hw0 hs0 hq)
  · exact ⟨(pk_un (by omega)).trans (h12 j hn hj).1, (pk_un (by omega)).trans (h12 j hn hj).2⟩
  · rw [show (upd a (3 + 3 * s + 1) v) (54 + j) = a (54 + j) from pk_un (by omega)]; exact h13 j hj
  · rw [show (upd a (3 + 3 * s + 1) v) (50 + j) = a (50 + j) from pk_un (by omega)]; exact h14 j hj
  · rw [show (upd a (3 + 3 * s + 1) v) (18 + 2 * j + 0) = a (18 + 2 * j + 0) from pk_un (by omega)]; exact h15 j hj
  · rw [show (upd a (3 + 3 * s + 1) v) 1 = a 1 from pk_un (by omega)]; exact h16
theorem IV_ru (h : IV B g ns nw S a) {s : Nat} (hs : s < ns) (hn5 : ns ≤ 5) (v : Bool) : IV B g ns nw (p_ru S (updB (c_ru S) s v)) (upd a (3 + 3 * s + 2) (bI v)) := by
  obtain ⟨h1, h2, h3, h4, h5, h6, h7, h8, h9, h10, h11, h12, h13, h14, h15, h16⟩ := h
  refine ⟨fun j hj => ?_, fun j hj => ?_, fun j hj => ?_, fun j hj => ?_, fun j hj => ?_, fun j hj => ?_, fun j hj => ?_, ?_, ?_, ?_, fun w0 s0 hw0 hs0 hq => ?_, fun j hn hj => ?_, fun j hj => ?_, fun j hj => ?_, fun j hj => ?_, ?_⟩
  · exact (h1 j hj).trans (pk_un (by omega)).symm
  · exact (h2 j hj).trans (pk_un (by omega)).symm
  · show bI (updB (c_ru S) s v j) = _
    by_cases e : j = s
    · subst e; rw [updB_s, pk_us]
    · rw [updB_n e]; exact (h3 j hj).trans (pk_un (by omega)).symm
  · exact (h4 j hj).trans (pk_un (by omega)).symm
  · exact (h5 j hj).trans (pk_un (by omega)).symm
  · exact (h6 j hj).trans (pk_un (by omega)).symm
  · exact (h7 j hj).trans (pk_un (by omega)).symm
  · exact h8.trans (pk_un (by omega)).symm
  · exact h9.trans (pk_un (by omega)).symm
  · exact h10.trans (pk_un (by omega)).symm
  · exact (pk_un (by omega)).trans (h11 w0 s0 hw0 hs0 hq)
  · exact ⟨(pk_un (by omega)).trans (h12 j hn hj).1, (pk_un (by omega)).trans (h12 j hn hj).2⟩
  · rw [show (upd a (3 + 3 * s + 2) (bI v)) (54 + j) = a (54 + j) from pk_un (by omega)]; exact h13 j hj
  · rw [show (upd a (3 + 3 * s + 2) (bI v)) (50 + j) = a (50 + j) from pk_un (by omega)]; exact h14 j hj
  · rw [show (upd a (3 + 3 * s + 2) (bI v)) (18 + 2 * j + 0) = a (18 + 2 * j + 0) from pk_un (by omega)]; exact h15 j hj
  · rw [show (upd a (3 + 3 * s + 2) (bI v)) 1 = a 1 from pk_un (by omega)]; exact h16
theorem IV_ca (h : IV B g ns nw S a) {p : Nat} (hp : p < 16) {c : Nat} (hc : c ≤ 12) : IV B g ns nw (p_ca S (upd (c_ca S) p (nI c))) (upd a (18 + 2 * p + 0) (nI c)) := by
  obtain ⟨h1, h2, h3, h4, h5, h6, h7, h8, h9, h10, h11, h12, h13, h14, h15, h16⟩ := h
  refine ⟨fun j hj => ?_, fun j hj => ?_, fun j hj => ?_, fun j hj => ?_, fun j hj => ?_, fun j hj => ?_, fun j hj => ?_, ?_, ?_, ?_, fun w0 s0 hw0 hs0 hq => ?_, fun j hn hj => ?_, fun j hj => ?_, fun j hj => ?_, fun j hj => ?_, ?_⟩
  · exact (h1 j hj).trans (pk_un (by omega)).symm
  · exact (h2 j hj).trans (pk_un (by omega)).symm
  · exact (h3 j hj).trans (pk_un (by omega)).symm
  · show upd (c_ca S) p (nI c) j = _
    by_cases e : j = p
    · subst e; rw [pk_us, pk_us]
    · exact (pk_un e).trans ((h4 j hj).trans (pk_un (by omega)).symm)
  · exact (h5 j hj).trans (pk_un (by omega)).symm
  · exact (h6 j hj).trans (pk_un (by omega)).symm
  · exact (h7 j hj).trans (pk_un (by omega)).symm
  · exact h8.trans (pk_un (by omega)).symm
  · exact h9.trans (pk_un (by omega)).symm
  · exact h10.trans (pk_un (by omega)).symm
  · exact (pk_un (by omega)).trans (h11 w0 s0 hw0 hs0 hq)
  · exact ⟨(pk_un (by omega)).trans (h12 j hn hj).1, (pk_un (by omega)).trans (h12 j hn hj).2⟩
  · rw [show (upd a (18 + 2 * p + 0) (nI c)) (54 + j) = a (54 + j) from pk_un (by omega)]; exact h13 j hj
  · rw [show (upd a (18 + 2 * p + 0) (nI c)) (50 + j) = a (50 + j) from pk_un (by omega)]; exact h14 j hj
  · by_cases e : j = p
    · subst e; rw [pk_us]; exact ⟨c, hc, rfl⟩
    · rw [show ((upd a (18 + 2 * p + 0) (nI c)) (18 + 2 * j + 0)) = a (18 + 2 * j + 0) from pk_un (by omega)]; exact h15 j hj
  · rw [show (upd a (18 + 2 * p + 0) (nI c)) 1 = a 1 from pk_un (by omega)]; exact h16
theorem IV_gi (h : IV B g ns nw S a) {p : Nat} (hp : p < 16) (v : Bool) : IV B (updB g p v) ns nw (S) (upd a (18 + 2 * p + 1) (bI v)) := by
  obtain ⟨h1, h2, h3, h4, h5, h6, h7, h8, h9, h10, h11, h12, h13, h14, h15, h16⟩ := h
  refine ⟨fun j hj => ?_, fun j hj => ?_, fun j hj => ?_, fun j hj => ?_, fun j hj => ?_, fun j hj => ?_, fun j hj => ?_, ?_, ?_, ?_, fun w0 s0 hw0 hs0 hq => ?_, fun j hn hj => ?_, fun j hj => ?_, fun j hj => ?_, fun j hj => ?_, ?_⟩
  · exact (h1 j hj).trans (pk_un (by omega)).symm
  · exact (h2 j hj).trans (pk_un (by omega)).symm
  · exact (h3 j hj).trans (pk_un (by omega)).symm
  · exact (h4 j hj).trans (pk_un (by omega)).symm
  · by_cases e : j = p
    · subst e; rw [updB_s, pk_us]
    · rw [updB_n e]; exact (h5 j hj).trans (pk_un (by omega)).symm
  · exact (h6 j hj).trans (pk_un (by omega)).symm
  · exact (h7 j hj).trans (pk_un (by omega)).symm
  · exact h8.trans (pk_un (by omega)).symm
  · exact h9.trans (pk_un (by omega)).symm
  · exact h10.trans (pk_un (by omega)).symm
  · exact (pk_un (by omega)).trans (h11 w0 s0 hw0 hs0 hq)
  · exact ⟨(pk_un (by omega)).trans (h12 j hn hj).1, (pk_un (by omega)).trans (h12 j hn hj).2⟩
  · rw [show (upd a (18 + 2 * p + 1) (bI v)) (54 + j) = a (54 + j) from pk_un (by omega)]; exact h13 j hj
  · rw [show (upd a (18 + 2 * p + 1) (bI v)) (50 + j) = a (50 + j) from pk_un (by omega)]; exact h14 j hj
  · rw [show (upd a (18 + 2 * p + 1) (bI v)) (18 + 2 * j + 0) = a (18 + 2 * j + 0) from pk_un (by omega)]; exact h15 j hj
  · rw [show (upd a (18 + 2 * p + 1) (bI v)) 1 = a 1 from pk_un (by omega)]; exact h16
theorem IV_tr (h : IV B g ns nw S a) {w : Nat} (hw : w < 4) {t : Nat} (ht : t ≤ 9) : IV B g ns nw (p_tr S (upd (c_tr S) w (nI t))) (upd a (50 + w) (nI t)) := by
  obtain ⟨h1, h2, h3, h4, h5, h6, h7, h8, h9, h10, h11, h12, h13, h14, h15, h16⟩ := h
  refine ⟨fun j hj => ?_, fun j hj => ?_, fun j hj => ?_, fun j hj => ?_, fun j hj => ?_, fun j hj => ?_, fun j hj => ?_, ?_, ?_, ?_, fun w0 s0 hw0 hs0 hq => ?_, fun j hn hj => ?_, fun j hj => ?_, fun j hj => ?_, fun j hj => ?_, ?_⟩
  · exact (h1 j hj).trans (pk_un (by omega)).symm
  · exact (h2 j hj).trans (pk_un (by omega)).symm
  · exact (h3 j hj).trans (pk_un (by omega)).symm
  · exact (h4 j hj).trans (pk_un (by omega)).symm
  · exact (h5 j hj).trans (pk_un (by omega)).symm
  · show upd (c_tr S) w (nI t) j = _
    by_cases e : j = w
    · subst e; rw [pk_us, pk_us]
    · exact (pk_un e).trans ((h6 j hj).trans (pk_un (by omega)).symm)
  · exact (h7 j hj).trans (pk_un (by omega)).symm
  · exact h8.trans (pk_un (by omega)).symm
  · exact h9.trans (pk_un (by omega)).symm
  · exact h10.trans (pk_un (by omega)).symm
  · exact (pk_un (by omega)).trans (h11 w0 s0 hw0 hs0 hq)
  · exact ⟨(pk_un (by omega)).trans (h12 j hn hj).1, (pk_un (by omega)).trans (h12 j hn hj).2⟩
  · rw [show (upd a (50 + w) (nI t)) (54 + j) = a (54 + j) from pk_un (by omega)]; exact h13 j hj
  · by_cases e : j = w
    · subst e; rw [pk_us]; exact ⟨t, ht, rfl⟩
    · rw [show ((upd a (50 + w) (nI t)) (50 + j)) = a (50 + j) from pk_un (by omega)]; exact h14 j hj
  · rw [show (upd a (50 + w) (nI t)) (18 + 2 * j + 0) = a (18 + 2 * j + 0) from pk_un (by omega)]; exact h15 j hj
  · rw [show (upd a (50 + w) (nI t)) 1 = a 1 from pk_un (by omega)]; exact h16
theorem IV_ag (h : IV B g ns nw S a) {w s : Nat} (hw : w < nw) (hs : s < ns) (hw4 : nw ≤ 4) (hs5 : ns ≤ 5) {v : Int32} (hv : v = -1 ∨ ∃ n, n < 3 ∧ v = nI n) : IV B g ns nw (p_ag S (upd (c_ag S) (5 * w + s) v)) (upd a (54 + (5 * w + s)) v) := by
  obtain ⟨h1, h2, h3, h4, h5, h6, h7, h8, h9, h10, h11, h12, h13, h14, h15, h16⟩ := h
  refine ⟨fun j hj => ?_, fun j hj => ?_, fun j hj => ?_, fun j hj => ?_, fun j hj => ?_, fun j hj => ?_, fun j hj => ?_, ?_, ?_, ?_, fun w0 s0 hw0 hs0 hq => ?_, fun j hn hj => ?_, fun j hj => ?_, fun j hj => ?_, fun j hj => ?_, ?_⟩
  · exact (h1 j hj).trans (pk_un (by omega)).symm
  · exact (h2 j hj).trans (pk_un (by omega)).symm
  · exact (h3 j hj).trans (pk_un (by omega)).symm
  · exact (h4 j hj).trans (pk_un (by omega)).symm
  · exact (h5 j hj).trans (pk_un (by omega)).symm
  · exact (h6 j hj).trans (pk_un (by omega)).symm
  · show upd (c_ag S) (5 * w + s) v j = _
    by_cases e : j = 5 * w + s
    · subst e; rw [pk_us, pk_us]
    · exact (pk_un e).trans ((h7 j hj).trans (pk_un (by omega)).symm)
  · exact h8.trans (pk_un (by omega)).symm
  · exact h9.trans (pk_un (by omega)).symm
  · exact h10.trans (pk_un (by omega)).symm
  · exact (pk_un (by omega)).trans (h11 w0 s0 hw0 hs0 hq)
  · exact ⟨(pk_un (by omega)).trans (h12 j hn hj).1, (pk_un (by omega)).trans (h12 j hn hj).2⟩
  · by_cases e : j = 5 * w + s
    · subst e; rw [pk_us]; exact hv
    · rw [show ((upd a (54 + (5 * w + s)) v) (54 + j)) = a (54 + j) from pk_un (by omega)]; exact h13 j hj
  · rw [show (upd a (54 + (5 * w + s)) v) (50 + j) = a (50 + j) from pk_un (by omega)]; exact h14 j hj
  · rw [show (upd a (54 + (5 * w + s)) v) (18 + 2 * j + 0) = a (18 + 2 * j + 0) from pk_un (by omega)]; exact h15 j hj
  · rw [show (upd a (54 + (5 * w + s)) v) 1 = a 1 from pk_un (by omega)]; exact h16
theorem IV_ni (h : IV B g ns nw S a) (v : Int32) : IV B g ns nw (p_ni S v) (upd a (0) v) := by
  obtain ⟨h1, h2, h3, h4, h5, h6, h7, h8, h9, h10, h11, h12, h13, h14, h15, h16⟩ := h
  refine ⟨fun j hj => ?_, fun j hj => ?_, fun j hj => ?_, fun j hj => ?_, fun j hj => ?_, fun j hj => ?_, fun j hj => ?_, ?_, ?_, ?_, fun w0 s0 hw0 hs0 hq => ?_, fun j hn hj => ?_, fun j hj => ?_, fun j hj => ?_, fun j hj => ?_, ?_⟩
  · exact (h1 j hj).trans (pk_un (by omega)).symm
  · exact (h2 j hj).trans (pk_un (by omega)).symm
  · exact (h3 j hj).trans (pk_un (by omega)).symm
  · exact (h4 j hj).trans (pk_un (by omega)).symm
  · exact (h5 j hj).trans (pk_un (by omega)).symm
  · exact (h6 j hj).trans (pk_un (by omega)).symm
  · exact (h7 j hj).trans (pk_un (by omega)).symm
  · rw [pk_us]; rfl
  · exact h9.trans (pk_un (by omega)).symm
  · exact h10.trans (pk_un (by omega)).symm
  · exact (pk_un (by omega)).trans (h11 w0 s0 hw0 hs0 hq)
  · exact ⟨(pk_un (by omega)).trans (h12 j hn hj).1, (pk_un (by omega)).trans (h12 j hn hj).2⟩
  · rw [show (upd a (0) v) (54 + j) = a (54 + j) from pk_un (by omega)]; exact h13 j hj
  · rw [show (upd a (0) v) (50 + j) = a (50 + j) from pk_un (by omega)]; exact h14 j hj
  · rw [show (upd a (0) v) (18 + 2 * j + 0) = a (18 + 2 * j + 0) from pk_un (by omega)]; exact h15 j hj
  · rw [show (upd a (0) v) 1 = a 1 from pk_un (by omega)]; exact h16
theorem IV_wa (h : IV B g ns nw S a) {W B2 : Nat} (hW : W ≤ B2) : IV B2 g ns nw (p_wa S (nI W)) (upd a (1) (nI W)) := by
  obtain ⟨h1, h2, h3, h4, h5, h6, h7, h8, h9, h10, h11, h12, h13, h14, h15, h16⟩ := h
  refine ⟨fun j hj => ?_, fun j hj => ?_, fun j hj => ?_, fun j hj => ?_, fun j hj => ?_, fun j hj => ?_, fun j hj => ?_, ?_, ?_, ?_, fun w0 s0 hw0 hs0 hq => ?_, fun j hn hj => ?_, fun j hj => ?_, fun j hj => ?_, fun j hj => ?_, ?_⟩
  · exact (h1 j hj).trans (pk_un (by omega)).symm
  · exact (h2 j hj).trans (pk_un (by omega)).symm
  · exact (h3 j hj).trans (pk_un (by omega)).symm
  · exact (h4 j hj).trans (pk_un (by omega)).symm
  · exact (h5 j hj).trans (pk_un (by omega)).symm
  · exact (h6 j hj).trans (pk_un (by omega)).symm
  · exact (h7 j hj).trans (pk_un (by omega)).symm
  · exact h8.trans (pk_un (by omega)).symm
  · rw [pk_us]; rfl
  · exact h10.trans (pk_un (by omega)).symm
  · exact (pk_un (by omega)).trans (h11 w0 s0 hw0 hs0 hq)
  · exact ⟨(pk_un (by omega)).trans (h12 j hn hj).1, (pk_un (by omega)).trans (h12 j hn hj).2⟩
  · rw [show (upd a (1) (nI W)) (54 + j) = a (54 + j) from pk_un (by omega)]; exact h13 j hj
  · rw [show (upd a (1) (nI W)) (50 + j) = a (50 + j) from pk_un (by omega)]; exact h14 j hj
  · rw [show (upd a (1) (nI W)) (18 + 2 * j + 0) = a (18 + 2 * j + 0) from pk_un (by omega)]; exact h15 j hj
  · exact ⟨W, hW, pk_us⟩
theorem IV_un (h : IV B g ns nw S a) (v : Int32) : IV B g ns nw (p_un S v) (upd a (2) v) := by
  obtain ⟨h1, h2, h3, h4, h5, h6, h7, h8, h9, h10, h11, h12, h13, h14, h15, h16⟩ := h
  refine ⟨fun j hj => ?_, fun j hj => ?_, fun j hj => ?_, fun j hj => ?_, fun j hj => ?_, fun j hj => ?_, fun j hj => ?_, ?_, ?_, ?_, fun w0 s0 hw0 hs0 hq => ?_, fun j hn hj => ?_, fun j hj => ?_, fun j hj => ?_, fun j hj => ?_, ?_⟩
  · exact (h1 j hj).trans (pk_un (by omega)).symm
  · exact (h2 j hj).trans (pk_un (by omega)).symm
  · exact (h3 j hj).trans (pk_un (by omega)).symm
  · exact (h4 j hj).trans (pk_un (by omega)).symm
  · exact (h5 j hj).trans (pk_un (by omega)).symm
  · exact (h6 j hj).trans (pk_un (by omega)).symm
  · exact (h7 j hj).trans (pk_un (by omega)).symm
  · exact h8.trans (pk_un (by omega)).symm
  · exact h9.trans (pk_un (by omega)).symm
  · rw [pk_us]; rfl
  · exact (pk_un (by omega)).trans (h11 w0 s0 hw0 hs0 hq)
  · exact ⟨(pk_un (by omega)).trans (h12 j hn hj).1, (pk_un (by omega)).trans (h12 j hn hj).2⟩
  · rw [show (upd a (2) v) (54 + j) = a (54 + j) from pk_un (by omega)]; exact h13 j hj
  · rw [show (upd a (2) v) (50 + j) = a (50 + j) from pk_un (by omega)]; exact h14 j hj
  · rw [show (upd a (2) v) (18 + 2 * j + 0) = a (18 + 2 * j + 0) from pk_un (by omega)]; exact h15 j hj
  · rw [show (upd a (2) v) 1 = a 1 from pk_un (by omega)]; exact h16
/-- an age that is -1 already -/
theorem IV_agm (h : IV B g ns nw S a) {i : Nat} (hi : i < 20) (he : a (54 + i) = -1) : IV B g ns nw (p_ag S (upd (c_ag S) i (-1))) a := by
  obtain ⟨h1, h2, h3, h4, h5, h6, h7, h8, h9, h10, h11, h12, h13, h14, h15, h16⟩ := h
  refine ⟨h1, h2, h3, h4, h5, h6, fun j hj => ?_, h8, h9, h10, h11, h12, h13, h14, h15, h16⟩
  show upd (c_ag S) i (-1) j = _
  by_cases e : j = i
  · subst e; rw [pk_us]; exact he.symm
  · rw [pk_un e]; exact h7 j hj
theorem IV_le (h : IV B g ns nw S a) {B2 : Nat} (hB : B ≤ B2) : IV B2 g ns nw S a := by
  obtain ⟨h1, h2, h3, h4, h5, h6, h7, h8, h9, h10, h11, h12, h13, h14, h15, W, hW, h16⟩ := h
  exact ⟨h1, h2, h3, h4, h5, h6, h7, h8, h9, h10, h11, h12, h13, h14, h15, W, by omega, h16⟩
theorem IV_g (h : IV B g ns nw S a) {g2 : FnB} (hg : ∀ p, p < 16 → g2 p = g p) : IV B g2 ns nw S a := by
  obtain ⟨h1, h2, h3, h4, h5, h6, h7, h8, h9, h10, h11, h12, h13, h14, h15, h16⟩ := h
  exact ⟨h1, h2, h3, h4, fun p hp => by rw [hg p hp]; exact h5 p hp, h6, h7, h8, h9, h10, h11, h12, h13, h14, h15, h16⟩
theorem IV_more (h : IV B g ns nw S a) {ns2 nw2 : Nat} (h1 : ns ≤ ns2) (h2 : nw ≤ nw2) : IV B g ns2 nw2 S a := by
  obtain ⟨i1, i2, i3, i4, i5, i6, i7, i8, i9, i10, i11, i12, i13, i14, i15, i16⟩ := h
  exact ⟨i1, i2, i3, i4, i5, i6, i7, i8, i9, i10, fun w s hw hs q => i11 w s hw hs (by omega), fun s q hs => i12 s (by omega) hs, i13, i14, i15, i16⟩
theorem IV_xst (h : IV B g ns nw S a) : ∀ s, s < 5 → c_st S s = a (3 + 3 * s + 0) := h.1
theorem IV_xou (h : IV B g ns nw S a) : ∀ s, s < 5 → c_ou S s = a (3 + 3 * s + 1) := h.2.1
theorem IV_xru (h : IV B g ns nw S a) : ∀ s, s < 5 → bI (c_ru S s) = a (3 + 3 * s + 2) := h.2.2.1
theorem IV_xca (h : IV B g ns nw S a) : ∀ p, p < 16 → c_ca S p = a (18 + 2 * p + 0) := h.2.2.2.1
theorem IV_xgi (h : IV B g ns nw S a) : ∀ p, p < 16 → bI (g p) = a (18 + 2 * p + 1) := h.2.2.2.2.1
theorem IV_xtr (h : IV B g ns nw S a) : ∀ w, w < 4 → c_tr S w = a (50 + w) := h.2.2.2.2.2.1
theorem IV_xag (h : IV B g ns nw S a) : ∀ i, i < 20 → c_ag S i = a (54 + i) := h.2.2.2.2.2.2.1
theorem IV_xni (h : IV B g ns nw S a) : c_ni S = a 0 := h.2.2.2.2.2.2.2.1
theorem IV_xwa (h : IV B g ns nw S a) : c_wa S = a 1 := h.2.2.2.2.2.2.2.2.1
theorem IV_xun (h : IV B g ns nw S a) : c_un S = a 2 := h.2.2.2.2.2.2.2.2.2.1
theorem IV_kag (h : IV B g ns nw S a) : ∀ w s, w < 4 → s < 5 → (nw ≤ w ∨ ns ≤ s) → a (54 + (5 * w + s)) = -1 := h.2.2.2.2.2.2.2.2.2.2.1
theorem IV_kst (h : IV B g ns nw S a) : ∀ s, ns ≤ s → s < 5 → a (3 + 3 * s + 0) = 0 ∧ a (3 + 3 * s + 2) = 0 := h.2.2.2.2.2.2.2.2.2.2.2.1
theorem IV_kab (h : IV B g ns nw S a) : ∀ i, i < 20 → a (54 + i) = -1 ∨ ∃ n, n < 3 ∧ a (54 + i) = nI n := h.2.2.2.2.2.2.2.2.2.2.2.2.1
theorem IV_ktr (h : IV B g ns nw S a) : ∀ w, w < 4 → ∃ t, t ≤ 9 ∧ a (50 + w) = nI t := h.2.2.2.2.2.2.2.2.2.2.2.2.2.1
theorem IV_kca (h : IV B g ns nw S a) : ∀ p, p < 16 → ∃ c, c ≤ 12 ∧ a (18 + 2 * p + 0) = nI c := h.2.2.2.2.2.2.2.2.2.2.2.2.2.2.1
theorem IV_kwa (h : IV B g ns nw S a) : ∃ W, W ≤ B ∧ a 1 = nI W := h.2.2.2.2.2.2.2.2.2.2.2.2.2.2.2
end IVS
