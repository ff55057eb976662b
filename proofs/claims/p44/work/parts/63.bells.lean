/-! ===== a night: bells, candles ===== -/
def Ist (ns : Nat) (c m : Fn) : Prop := (∀ s, s < ns → c s = m s ∧ (m s = 0 ∨ m s = 1 ∨ m s = 2)) ∧ ∀ s, ns ≤ s → s < 5 → c s = 0
def Iou (ns : Nat) (c m : Fn) : Prop := (∀ s, s < ns → c s = m s) ∧ ∀ s, ns ≤ s → s < 5 → c s = 0
def Iru (ns : Nat) (c : FnB) (m : Fn) : Prop := (∀ s, s < ns → bI (c s) = m s) ∧ ∀ s, ns ≤ s → s < 5 → c s = false
def Ica (np : Nat) (c m : Fn) : Prop := (∀ p, p < np → c p = m p) ∧ (∀ p, np ≤ p → p < 16 → c p = 0) ∧ ∀ p, p < 16 → ∃ k, k ≤ 12 ∧ c p = nI k
def Ino (B : Nat) (c m : Int32) : Prop := c = m ∧ ∃ W, W ≤ B ∧ c = nI W
theorem min_lo {i n : Nat} (h : i < n) : min (i + 1) n = i + 1 ∧ min i n = i := ⟨Nat.min_eq_left h, Nat.min_eq_left (Nat.le_of_lt h)⟩
theorem min_hi {i n : Nat} (h : ¬ i < n) : min (i + 1) n = n ∧ min i n = n := ⟨Nat.min_eq_right (by omega), Nat.min_eq_right (by omega)⟩
theorem le56 (x : Int32) : x ≤ 5 ↔ ¬ 6 ≤ x := by
  rw [Int32.le_iff_toInt_le, Int32.le_iff_toInt_le]
  show x.toInt ≤ 5 ↔ ¬ (6 : Int) ≤ x.toInt
  omega
theorem Iru_up {ns : Nat} {c : FnB} {m : Fn} (h : Iru ns c m) {s : Nat} (hs : s < ns) (v : Bool) : Iru ns (updB c s v) (upd m s (bI v)) := by
  refine ⟨fun j hj => ?_, fun j h1 h2 => ?_⟩
  · by_cases e : j = s
    · subst e; rw [updB_s, pk_us]
    · rw [updB_n e, pk_un e]; exact h.1 j hj
  · rw [updB_n (by omega)]; exact h.2 j h1 h2
theorem Ist_up {ns : Nat} {c m : Fn} (h : Ist ns c m) {s : Nat} (hs : s < ns) {v : Int32} (hv : v = 0 ∨ v = 1 ∨ v = 2) : Ist ns (upd c s v) (upd m s v) := by
  refine ⟨fun j hj => ?_, fun j h1 h2 => ?_⟩
  · by_cases e : j = s
    · subst e; rw [pk_us, pk_us]; exact ⟨rfl, hv⟩
    · rw [pk_un e, pk_un e]; exact h.1 j hj
  · rw [pk_un (by omega)]; exact h.2 j h1 h2
theorem Iou_up {ns : Nat} {c m : Fn} (h : Iou ns c m) {s : Nat} (hs : s < ns) (v : Int32) : Iou ns (upd c s v) (upd m s v) := by
  refine ⟨fun j hj => ?_, fun j h1 h2 => ?_⟩
  · by_cases e : j = s
    · subst e; rw [pk_us, pk_us]
    · rw [pk_un e, pk_un e]; exact h.1 j hj
  · rw [pk_un (by omega)]; exact h.2 j h1 h2
theorem Ica_up {np : Nat} {c m : Fn} (h : Ica np c m) {p k : Nat} (hp : p < np) (hk : k ≤ 12) : Ica np (upd c p (nI k)) (upd m p (nI k)) := by
  refine ⟨fun j hj => ?_, fun j h1 h2 => ?_, fun j hj => ?_⟩
  · by_cases e : j = p
    · subst e; rw [pk_us, pk_us]
    · rw [pk_un e, pk_un e]; exact h.1 j hj
  · rw [pk_un (by omega)]; exact h.2.1 j h1 h2
  · by_cases e : j = p
    · subst e; rw [pk_us]; exact ⟨k, hk, rfl⟩
    · rw [pk_un e]; exact h.2.2 j hj
theorem unr_ok {ns ng U : Nat} {S : CS} {sw ss : FnN} {tr ru : Fn} {un : Int32} (h5 : ns ≤ 5) (hT : ∀ s, s < ns → l_tin ss sw tr s ng = t_su (c_ag S) (c_tr S) s 4) (hr : Iru ns (c_ru S) ru) (hu : Ino U (c_un S) un) :
    ∀ i, i ≤ 5 → ∃ r u, l_unr S i = p_un (p_ru S r) u ∧ Iru ns r (l_ub ss sw tr ng ru un (min i ns)).1 ∧ Ino (U + i) u (l_ub ss sw tr ng ru un (min i ns)).2 ∧ (∀ s, r s = if s < i then (c_ru S s && decide (6 ≤ t_su (c_ag S) (c_tr S) s 4)) else c_ru S s) ∧ u = c_un S + l_sb (fun s => c_ru S s && !decide (6 ≤ t_su (c_ag S) (c_tr S) s 4)) i
  | 0, _ => by
    refine ⟨c_ru S, c_un S, rfl, ?_, ?_, fun s => by rw [if_neg (by omega)], ?_⟩
    · rw [Nat.zero_min]; exact hr
    · rw [Nat.zero_min]; exact hu
    · rw [l_sb]; exact (Int32.add_zero _).symm
  | i + 1, q => by
    obtain ⟨r, u, e, h1, h2, h3, h4⟩ := unr_ok h5 hT hr hu i (by omega)
    have hi5 : i < 5 := by omega
    have e0 : f_is 5 (c_ru (l_unr S i)) (nI i) = r i := by rw [e]; exact fis hi5 (by omega)
    have eT : f_trust (l_unr S i) (nI i) = t_su (c_ag S) (c_tr S) i 4 := by rw [e]; exact trust_su hi5
    have eM : f_mark 5 (c_ru (l_unr S i)) (nI i) false = updB r i false := by rw [e]; exact fmark hi5 (by omega)
    have eU : c_un (l_unr S i) = u := by rw [e]; rfl
    have hri : r i = c_ru S i := by rw [h3, if_neg (by omega)]
    rw [l_unr, e0, eT, eM, eU, e, hri, l_sb]
    have keep : (c_ru S i && decide (6 ≤ t_su (c_ag S) (c_tr S) i 4)) = c_ru S i → ∀ s, r s = if s < i + 1 then (c_ru S s && decide (6 ≤ t_su (c_ag S) (c_tr S) s 4)) else c_ru S s := fun k s => by
      rw [h3]
      rcases Nat.lt_trichotomy s i with a | a | a
      · rw [if_pos a, if_pos (by omega)]
      · subst a; rw [if_neg (by omega), if_pos (by omega), k]
      · rw [if_neg (by omega), if_neg (by omega)]
    by_cases c : c_ru S i = true
    · rw [if_pos c]
      have hin : i < ns := by
        rcases Nat.lt_or_ge i ns with a | a
        · exact a
        · exact absurd ((hr.2 i a hi5).symm.trans c) (by decide)
      rw [(min_lo hin).2] at h1 h2
      rw [(min_lo hin).1, l_ub]
      have hm : ¬ (l_ub ss sw tr ng ru un i).1 i = 0 := by
        rw [← h1.1 i hin, hri, c]; decide
      rw [if_neg hm, hT i hin]
      by_cases d : 6 ≤ t_su (c_ag S) (c_tr S) i 4
      · have d2 : (c_ru S i && decide (6 ≤ t_su (c_ag S) (c_tr S) i 4)) = c_ru S i := by rw [decide_eq_true d, Bool.and_true]
        have d3 : bI (c_ru S i && !decide (6 ≤ t_su (c_ag S) (c_tr S) i 4)) = 0 := by rw [decide_eq_true d]; simp [bI]
        rw [if_pos d, if_neg (fun k => (le56 _).mp k d)]
        refine ⟨r, u, rfl, h1, ⟨h2.1, ?_⟩, keep d2, by rw [d3, Int32.add_zero]; exact h4⟩
        obtain ⟨W, hW, e9⟩ := h2.2; exact ⟨W, by omega, e9⟩
      · rw [if_neg d, if_pos ((le56 _).mpr d)]
        have d3 : bI (c_ru S i && !decide (6 ≤ t_su (c_ag S) (c_tr S) i 4)) = 1 := by rw [decide_eq_false d, c]; rfl
        refine ⟨updB r i false, u + 1, rfl, Iru_up h1 hin false, ⟨?_, ?_⟩, fun s => ?_, by rw [d3, ← Int32.add_assoc, ← h4]⟩
        · rw [h2.1]
        · obtain ⟨W, hW, e9⟩ := h2.2
          exact ⟨W + 1, by omega, by rw [e9]; exact nI_1 W⟩
        · rcases Nat.lt_trichotomy s i with a | a | a
          · rw [updB_n (by omega), h3, if_pos a, if_pos (by omega)]
          · subst a; rw [updB_s, if_pos (by omega), decide_eq_false d, Bool.and_false]
          · rw [updB_n (by omega), h3, if_neg (by omega), if_neg (by omega)]
    · rw [if_neg c]
      have cf : c_ru S i = false := by revert c; cases c_ru S i <;> decide
      have d3 : bI (c_ru S i && !decide (6 ≤ t_su (c_ag S) (c_tr S) i 4)) = 0 := by rw [cf]; rfl
      have d2 : (c_ru S i && decide (6 ≤ t_su (c_ag S) (c_tr S) i 4)) = c_ru S i := by rw [cf]; rfl
      refine ⟨r, u, rfl, ?_, ?_, keep d2, by rw [d3, Int32.add_zero]; exact h4⟩
      · rcases Nat.lt_or_ge i ns with a | a
        · rw [(min_lo a).2] at h1
          rw [(min_lo a).1, l_ub, if_pos (by rw [← h1.1 i a, hri, cf]; rfl)]
          exact h1
        · rw [(min_hi (by omega)).2] at h1
          rw [(min_hi (by omega)).1]; exact h1
      · obtain ⟨h21, W, hW, e9⟩ := h2
        refine ⟨?_, W, by omega, e9⟩
        rw [h21]
        rcases Nat.lt_or_ge i ns with a | a
        · rw [(min_lo a).2] at h1 ⊢
          rw [(min_lo a).1, l_ub, if_pos (by rw [← h1.1 i a, hri, cf]; rfl)]
        · rw [(min_hi (by omega)).2, (min_hi (by omega)).1]
