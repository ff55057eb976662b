section MORE
variable {p : Program} {l : Launch} {e : Env} {R : Room} {s : State} {m : MethodId} {args : Array Value} {below : List Frame} {meth : Method} {c : Code} {H : Heap} {locs : List Loc} {cells slots : Nat} {Q : State → Prop}
variable {cc : ByteArray} {pc : Nat} {ls : Array Slot} {rest : List Value}
theorem k_idivN (hx : p.tables.exec = Jvm.exec) (hb : c.code = cc) {a k : Nat} (ha : a < 2 ^ 31) (hk : 0 < k) (hk2 : k < 1000) (hdg : decode cc pc = .ok (.idiv, 1)) (kk : W p l e R s m args below meth c H locs cells slots Q (F0 m (pc + 1) ls (.int (nI (a / k)) :: rest))) : W p l e R s m args below meth c H locs cells slots Q (F0 m pc ls (.int (nI k) :: .int (nI a) :: rest)) :=
  lv_idiv hx hb hdg (nI_ne0 hk (by omega)) (by rw [pk_div ha hk (by omega)]; exact kk)
end MORE
theorem enough_on {Hb : MH} {b : Fn} {i : Nat} (hno : l_mlit Hb b i = true) (h : l_mdk Hb (r_night Hb (l_mpass Hb b i)) (n_np Hb) = 0) : l_mlit Hb b (i + 1) = true := by
  rw [l_mlit, if_pos hno, l_mpass, if_pos h]
theorem enough_v {Hb : MH} {b : Fn} {i : Nat} (hno : l_mlit Hb b i = true) (h : l_mdk Hb (r_night Hb (l_mpass Hb b i)) (n_np Hb) = 0) : bI (l_mlit Hb b (i + 1)) = 1 := by
  rw [enough_on hno h]; rfl
theorem enough_no {Hb : MH} {a : Fn} {x : Int32} {n i : Nat} (hi : i < n) (hno : l_mlit Hb (upd a 1 (a 1 + x)) i = true) (h : ¬ l_mdk Hb (r_night Hb (l_mpass Hb (upd a 1 (a 1 + x)) i)) (n_np Hb) = 0) : (0 : Int32) = bI (r_enough Hb a x n) := by
  have h1 : l_mlit Hb (upd a 1 (a 1 + x)) (i + 1) = false := by rw [l_mlit, if_pos hno, l_mpass, if_neg h]
  rw [r_enough, l_mlit_no Hb _ h1 n (by omega)]
  rfl
theorem l_bs_le (P : Nat → Bool) : ∀ i, (∀ j, j < i → (l_bs P j).1 < (l_bs P j).2) → (l_bs P i).1 ≤ 500 ∧ (l_bs P i).2 ≤ 500
  | 0, _ => by rw [l_bs]; exact ⟨by omega, by omega⟩
  | i + 1, h => by
    have h1 := l_bs_le P i (fun j hj => h j (by omega))
    have h2 := h i (by omega)
    rw [l_bs]
    split
    · exact ⟨h1.1, by show ((l_bs P i).1 + (l_bs P i).2) / 2 ≤ 500; omega⟩
    · exact ⟨by show ((l_bs P i).1 + (l_bs P i).2) / 2 + 1 ≤ 500; omega, h1.2⟩
theorem rp_77 {E : Ev} {a0 : Nat → Nat} {S0 : MN} {a1 : Nat} {S1 : Fn} : Rp (wN E a0 S0 ++ [(a1, aI E 9 S1)]) (wN E a0 S0) (wN E a0 S0) (wN E a0 S0 ++ [(a1, aI E 9 S1)]) := by
  refine ⟨[(a1, aI E 9 S1)], perm9 (fun a => ?_), perm9 (fun a => ?_), rfl⟩
  · simp only [cnt9_app, cnt9_cons, cnt9_nil] <;> omega
  · simp only [cnt9_app, cnt9_cons, cnt9_nil] <;> omega
theorem rp_78 {E : Ev} {a0 : Nat → Nat} {S0 : MN} {a1 : Nat} {S1 : Fn} : Rp (wN E a0 S0 ++ [(a1, aI E 5 S1)]) (([] : va_W)) (([] : va_W)) (wN E a0 S0 ++ [(a1, aI E 5 S1)]) := by
  refine ⟨wN E a0 S0 ++ [(a1, aI E 5 S1)], perm9 (fun a => ?_), perm9 (fun a => ?_), rfl⟩
  · simp only [cnt9_app, cnt9_cons, cnt9_nil] <;> omega
  · simp only [cnt9_app, cnt9_cons, cnt9_nil] <;> omega
theorem rp_79 {E : Ev} {a0 : Nat → Nat} {S0 : MN} {a1 : Nat} {S1 : Fn} : Rp (wN E a0 S0 ++ [(a1, aI E 8 S1)]) (([] : va_W)) (([] : va_W)) (wN E a0 S0 ++ [(a1, aI E 8 S1)]) := by
  refine ⟨wN E a0 S0 ++ [(a1, aI E 8 S1)], perm9 (fun a => ?_), perm9 (fun a => ?_), rfl⟩
  · simp only [cnt9_app, cnt9_cons, cnt9_nil] <;> omega
  · simp only [cnt9_app, cnt9_cons, cnt9_nil] <;> omega
theorem rp_80 {E : Ev} {a0 : Nat → Nat} {S0 : MN} {a1 : Nat} {S1 : Fn} : Rp (wN E a0 S0 ++ [(a1, aI E 8 S1)]) (wN E a0 S0) (wN E a0 S0) (wN E a0 S0 ++ [(a1, aI E 8 S1)]) := by
  refine ⟨[(a1, aI E 8 S1)], perm9 (fun a => ?_), perm9 (fun a => ?_), rfl⟩
  · simp only [cnt9_app, cnt9_cons, cnt9_nil] <;> omega
  · simp only [cnt9_app, cnt9_cons, cnt9_nil] <;> omega
