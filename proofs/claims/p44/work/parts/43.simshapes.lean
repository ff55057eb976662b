theorem rp_73 {E : Ev} {a0 : Nat} {b0 : AP} {S0 : SM} : Rp (wS E a0 b0 S0) (wS E a0 b0 S0) (wS E a0 b0 S0) (wS E a0 b0 S0) := by
  refine ⟨([] : va_W), perm9 (fun a => ?_), perm9 (fun a => ?_), rfl⟩
  · simp only [cnt9_app, cnt9_cons, cnt9_nil] <;> omega
  · simp only [cnt9_app, cnt9_cons, cnt9_nil] <;> omega
theorem rp_74 {E : Ev} {a0 : Nat} {b0 : AP} {S0 V0 : SM} (hS0 : m_ns V0 = m_ns S0 ∧ m_np V0 = m_np S0 ∧ m_ng V0 = m_ng S0) : Rp (wS E a0 b0 S0) (wS E a0 b0 S0) (wS E a0 b0 V0) (wS E a0 b0 V0) := by
  refine ⟨([] : va_W), perm9 (fun a => ?_), perm9 (fun a => ?_), by simp only [List.map_append, wS_fst hS0]⟩
  · simp only [cnt9_app, cnt9_cons, cnt9_nil] <;> omega
  · simp only [cnt9_app, cnt9_cons, cnt9_nil] <;> omega
