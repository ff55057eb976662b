theorem rp_74 {E : Ev} {a0 : Nat → Nat} {S0 : MN} : Rp (wN E a0 S0) (([] : va_W)) (([] : va_W)) (wN E a0 S0) := by
  refine ⟨wN E a0 S0, perm9 (fun a => ?_), perm9 (fun a => ?_), rfl⟩
  · simp only [cnt9_app, cnt9_cons, cnt9_nil] <;> omega
  · simp only [cnt9_app, cnt9_cons, cnt9_nil] <;> omega
theorem rp_75 {E : Ev} {a0 : Nat → Nat} {S0 : MN} : Rp (wN E a0 S0) (wN E a0 S0) (wN E a0 S0) (wN E a0 S0) := by
  refine ⟨([] : va_W), perm9 (fun a => ?_), perm9 (fun a => ?_), rfl⟩
  · simp only [cnt9_app, cnt9_cons, cnt9_nil] <;> omega
  · simp only [cnt9_app, cnt9_cons, cnt9_nil] <;> omega
theorem rp_76 {E : Ev} {a0 : Nat → Nat} {S0 V0 : MN} : Rp (wN E a0 S0) (wN E a0 S0) (wN E a0 V0) (wN E a0 V0) := by
  refine ⟨([] : va_W), perm9 (fun a => ?_), perm9 (fun a => ?_), rfl⟩
  · simp only [cnt9_app, cnt9_cons, cnt9_nil] <;> omega
  · simp only [cnt9_app, cnt9_cons, cnt9_nil] <;> omega
