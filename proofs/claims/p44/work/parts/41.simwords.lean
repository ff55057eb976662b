/-! ===== what the law's own harbour answers and does, in words ===== -/
def MOK (M : SM) : Prop := m_ns M ≤ 5 ∧ m_np M ≤ 16 ∧ m_nw M ≤ 4 ∧ m_ng M ≤ 20 ∧ (∀ p, p < m_np M → m_so M p < m_ns M) ∧ ∀ j, j < m_ng M → m_sw M j < m_nw M
def l_tin (ss sw : FnN) (tr : Fn) (s : Nat) : Nat → Int32 | 0 => 0 | i + 1 => if nI (ss i) = nI s then l_tin ss sw tr s i + tr (sw i) else l_tin ss sw tr s i
def l_sig (ss sw : FnN) (w s : Nat) : Nat → Bool | 0 => false | i + 1 => if nI (sw i) = nI w then (if nI (ss i) = nI s then true else l_sig ss sw w s i) else l_sig ss sw w s i
/-- how many are kept, and which -/
def d_n (ss : FnN) (sg : Fn) (s o : Int32) : Nat → Nat | 0 => 0 | i + 1 => if nI (ss i) = s then d_n ss sg s o i else if o ≤ sg i then d_n ss sg s o i else d_n ss sg s o i + 1
def d_ix (ss : FnN) (sg : Fn) (s o : Int32) : Nat → FnN | 0 => fun _ => 0 | i + 1 => if nI (ss i) = s then d_ix ss sg s o i else if o ≤ sg i then d_ix ss sg s o i else updN (d_ix ss sg s o i) (d_n ss sg s o i) i
def f_dropI (M : SM) (s o : Int32) : FnN := d_ix (m_ss M) (m_sg M) s o (m_ng M)
def f_drop (M : SM) (s o : Int32) : SM := q_sg (q_ss (q_sw (q_ng M (d_n (m_ss M) (m_sg M) s o (m_ng M))) (fun j => m_sw M (f_dropI M s o j))) (fun j => m_ss M (f_dropI M s o j))) (fun j => m_sg M (f_dropI M s o j))
def l_vot (so : FnN) (vo gi : Fn) (s : Nat) (g : Bool) : Nat → Int32 | 0 => 0 | i + 1 => if nI (so i) = nI s then (if vo i = 1 then (if gi i = 1 then l_vot so vo gi s g i + 1 else if g = true then l_vot so vo gi s g i else l_vot so vo gi s g i + 1) else l_vot so vo gi s g i) else l_vot so vo gi s g i
def f_sdark (st : Fn) (so : FnN) (ca : Fn) (p : Nat) : Bool := if st (so p) = 1 then (if ca p = 0 then true else false) else false
def l_sdk (st : Fn) (so : FnN) (ca : Fn) : Nat → Int32 | 0 => 0 | i + 1 => if f_sdark st so ca i = true then l_sdk st so ca i + 1 else l_sdk st so ca i + 0
def f_lB (wa : Int32) : Bool := if 12 ≤ wa then true else false
def f_lca (ca : Fn) (wa : Int32) (p : Nat) : Fn := if 12 ≤ wa then upd ca p 12 else ca
def f_lwa (wa : Int32) : Int32 := if 12 ≤ wa then wa - 12 else wa
def l_en (so : FnN) (s : Nat) (ca : Fn) (wa : Int32) : Nat → Fn × Int32 | 0 => (ca, wa) | i + 1 => if nI (so i) = nI s then (upd (l_en so s ca wa i).1 i 0, (l_en so s ca wa i).2 + (l_en so s ca wa i).1 i) else l_en so s ca wa i
def f_ends (M : SM) (s : Nat) : SM := q_wa (q_ca (q_ru (f_drop M (nI s) 99) (upd (m_ru M) s 0)) (l_en (m_so M) s (m_ca M) (m_wa M) (m_np M)).1) (l_en (m_so M) s (m_ca M) (m_wa M) (m_np M)).2
/-- a night: sightings age, watchers are doubted -/
def l_ag (sw : FnN) (tr sg : Fn) : Nat → Fn × Fn | 0 => (tr, sg) | i + 1 => if (l_ag sw tr sg i).2 i + 1 = 3 then (upd (l_ag sw tr sg i).1 (sw i) (if 2 ≤ (l_ag sw tr sg i).1 (sw i) then (l_ag sw tr sg i).1 (sw i) - 2 else 0), upd (l_ag sw tr sg i).2 i ((l_ag sw tr sg i).2 i + 1)) else ((l_ag sw tr sg i).1, upd (l_ag sw tr sg i).2 i ((l_ag sw tr sg i).2 i + 1))
def f_ngA (M : SM) : SM := f_drop (q_sg (q_tr M (l_ag (m_sw M) (m_tr M) (m_sg M) (m_ng M)).1) (l_ag (m_sw M) (m_tr M) (m_sg M) (m_ng M)).2) (-1) 3
/-- bells -/
def l_ub (ss sw : FnN) (tr : Fn) (ng : Nat) (ru : Fn) (un : Int32) : Nat → Fn × Int32 | 0 => (ru, un) | i + 1 => if (l_ub ss sw tr ng ru un i).1 i = 0 then l_ub ss sw tr ng ru un i else if l_tin ss sw tr i ng ≤ 5 then (upd (l_ub ss sw tr ng ru un i).1 i 0, (l_ub ss sw tr ng ru un i).2 + 1) else l_ub ss sw tr ng ru un i
def f_ngB (M : SM) : SM := q_un (q_ru M (l_ub (m_ss M) (m_sw M) (m_tr M) (m_ng M) (m_ru M) (m_un M) (m_ns M)).1) (l_ub (m_ss M) (m_sw M) (m_tr M) (m_ng M) (m_ru M) (m_un M) (m_ns M)).2
/-- candles -/
def f_cd (ca mt : Fn) (i : Nat) : Int32 := if ca i ≤ mt i + 1 then 0 else ca i - mt i - 1
def l_cd (st ru mt : Fn) (so : FnN) (ca : Fn) (wa : Int32) : Nat → Fn × Int32 × Int32 | 0 => (ca, wa, 0) | i + 1 => if st (so i) = 1 then (if ru (so i) = 1 then l_cd st ru mt so ca wa i else if f_cd (l_cd st ru mt so ca wa i).1 mt i = 0 then (f_lca (upd (l_cd st ru mt so ca wa i).1 i (f_cd (l_cd st ru mt so ca wa i).1 mt i)) (l_cd st ru mt so ca wa i).2.1 i, f_lwa (l_cd st ru mt so ca wa i).2.1, if f_lB (l_cd st ru mt so ca wa i).2.1 = true then (l_cd st ru mt so ca wa i).2.2 + 1 else (l_cd st ru mt so ca wa i).2.2) else (upd (l_cd st ru mt so ca wa i).1 i (f_cd (l_cd st ru mt so ca wa i).1 mt i), (l_cd st ru mt so ca wa i).2.1, (l_cd st ru mt so ca wa i).2.2)) else l_cd st ru mt so ca wa i
def f_ngC (M : SM) : SM := q_wa (q_ca M (l_cd (m_st M) (m_ru M) (m_mt M) (m_so M) (m_ca M) (m_wa M) (m_np M)).1) (l_cd (m_st M) (m_ru M) (m_mt M) (m_so M) (m_ca M) (m_wa M) (m_np M)).2.1
/-- nights out, losses -/
def mix9 (M Y : SM) : SM := q_sg (q_ss (q_sw (q_ng (q_wa (q_ca (q_ru (q_ou (q_st M (m_st Y)) (m_ou Y)) (m_ru Y)) (m_ca Y)) (m_wa Y)) (m_ng Y)) (m_sw Y)) (m_ss Y)) (m_sg Y)
def f_lo1 (X : SM) (i : Nat) : SM := if m_st X i = 1 then (if m_ou X i + 1 < 21 then q_ou X (upd (m_ou X) i (m_ou X i + 1)) else if l_vot (m_so X) (m_vo X) (m_gi X) i false (m_np X) < l_vot (m_so X) (m_vo X) (m_gi X) i true (m_np X) * 2 then f_ends (q_st (q_ou X (upd (m_ou X) i (m_ou X i + 1))) (upd (m_st X) i 2)) i else q_ou X (upd (m_ou X) i (m_ou X i + 1))) else X
def l_lo (M : SM) : Nat → SM | 0 => M | i + 1 => f_lo1 (mix9 M (l_lo M i)) i
def f_ngD (M : SM) : SM := mix9 M (l_lo M (m_ns M))
def f_ngN (M : SM) : Int32 := (l_cd (m_st M) (m_ru M) (m_mt M) (m_so M) (m_ca M) (m_wa M) (m_np M)).2.2
def f_spN (M : SM) : Int32 := f_ngN (f_ngB (f_ngA M))
def f_spass (M : SM) : SM := q_ni (f_ngD (f_ngC (f_ngB (f_ngA M)))) (m_ni M + 1)
theorem d_n_le (ss : FnN) (sg : Fn) (s o : Int32) : ∀ i, d_n ss sg s o i ≤ i
  | 0 => Nat.le_refl _
  | i + 1 => by
    have := d_n_le ss sg s o i
    rw [d_n]
    split
    · omega
    · split <;> omega
theorem d_ix_lt (ss : FnN) (sg : Fn) (s o : Int32) : ∀ i j, j < d_n ss sg s o i → d_ix ss sg s o i j < i
  | 0, j, h => absurd h (by rw [d_n]; omega)
  | i + 1, j, h => by
    have ih := d_ix_lt ss sg s o i
    rw [d_n] at h
    rw [d_ix]
    by_cases h1 : nI (ss i) = s
    · rw [if_pos h1] at h ⊢
      have := ih j h; omega
    · rw [if_neg h1] at h ⊢
      by_cases h2 : o ≤ sg i
      · rw [if_pos h2] at h ⊢
        have := ih j h; omega
      · rw [if_neg h2] at h ⊢
        by_cases e : j = d_n ss sg s o i
        · rw [updN, if_pos e]; omega
        · rw [updN, if_neg e]
          have := ih j (by omega); omega
theorem MOK_drop {M : SM} (h : MOK M) (s o : Int32) : MOK (f_drop M s o) := by
  obtain ⟨h1, h2, h3, h4, h5, h6⟩ := h
  refine ⟨h1, h2, h3, Nat.le_trans (d_n_le _ _ _ _ _) h4, h5, fun j hj => ?_⟩
  exact h6 _ (d_ix_lt _ _ _ _ _ j hj)
theorem MOK_ends {M : SM} (h : MOK M) (s : Nat) : MOK (f_ends M s) := MOK_drop h (nI s) 99
theorem MOK_lo1 {M X : SM} (h : MOK (mix9 M X)) (i : Nat) : MOK (mix9 M (f_lo1 (mix9 M X) i)) ∧ mix9 M (f_lo1 (mix9 M X) i) = f_lo1 (mix9 M X) i := by
  rw [f_lo1]
  by_cases h1 : m_st (mix9 M X) i = 1
  · rw [if_pos h1]
    by_cases h2 : m_ou (mix9 M X) i + 1 < 21
    · rw [if_pos h2]; exact ⟨h, rfl⟩
    · rw [if_neg h2]
      by_cases h3 : l_vot (m_so (mix9 M X)) (m_vo (mix9 M X)) (m_gi (mix9 M X)) i false (m_np (mix9 M X)) < l_vot (m_so (mix9 M X)) (m_vo (mix9 M X)) (m_gi (mix9 M X)) i true (m_np (mix9 M X)) * 2
      · rw [if_pos h3]
        exact ⟨MOK_ends (M := q_st (q_ou (mix9 M X) (upd (m_ou (mix9 M X)) i (m_ou (mix9 M X) i + 1))) (upd (m_st (mix9 M X)) i 2)) h i, rfl⟩
      · rw [if_neg h3]; exact ⟨h, rfl⟩
  · rw [if_neg h1]; exact ⟨h, rfl⟩
theorem mix9_self (M : SM) : mix9 M M = M := rfl
theorem MOK_lo {M : SM} (h : MOK M) : ∀ i, MOK (mix9 M (l_lo M i))
  | 0 => h
  | i + 1 => by rw [l_lo]; exact (MOK_lo1 (MOK_lo h i) i).1
theorem mix_lo {M : SM} (h : MOK M) (i : Nat) : mix9 M (l_lo M (i + 1)) = f_lo1 (mix9 M (l_lo M i)) i := by rw [l_lo]; exact (MOK_lo1 (MOK_lo h i) i).2
theorem MOK_ngA {M : SM} (h : MOK M) : MOK (f_ngA M) := MOK_drop (M := q_sg (q_tr M (l_ag (m_sw M) (m_tr M) (m_sg M) (m_ng M)).1) (l_ag (m_sw M) (m_tr M) (m_sg M) (m_ng M)).2) h (-1) 3
theorem MOK_spass {M : SM} (h : MOK M) : MOK (f_spass M) := MOK_lo (M := f_ngC (f_ngB (f_ngA M))) (MOK_ngA h) _
/-- what is kept of the sightings' rows lies among them -/
theorem drop_part {E : Ev} {w : Nat} {r : Nat → Nat} {f : Nat → Fn} (ss : FnN) (sg : Fn) (s o : Int32) : ∀ i, ∃ wr, (rowsW E w r f i).Perm (rowsW E w (fun j => r (d_ix ss sg s o i j)) (fun j => f (d_ix ss sg s o i j)) (d_n ss sg s o i) ++ wr)
  | 0 => ⟨[], List.Perm.refl _⟩
  | i + 1 => by
    obtain ⟨wr, h⟩ := drop_part (E := E) (w := w) (r := r) (f := f) ss sg s o i
    rw [d_ix, d_n, rowsW]
    by_cases h1 : nI (ss i) = s
    · rw [if_pos h1, if_pos h1]
      exact ⟨(r i, aI E w (f i)) :: wr, (List.Perm.cons _ h).trans List.perm_middle.symm⟩
    · rw [if_neg h1, if_neg h1]
      by_cases h2 : o ≤ sg i
      · rw [if_pos h2, if_pos h2]
        exact ⟨(r i, aI E w (f i)) :: wr, (List.Perm.cons _ h).trans List.perm_middle.symm⟩
      · rw [if_neg h2, if_neg h2]
        refine ⟨wr, ?_⟩
        rw [rowsW]
        have e1 : updN (d_ix ss sg s o i) (d_n ss sg s o i) i (d_n ss sg s o i) = i := if_pos rfl
        have e2 : rowsW E w (fun j => r (updN (d_ix ss sg s o i) (d_n ss sg s o i) i j)) (fun j => f (updN (d_ix ss sg s o i) (d_n ss sg s o i) i j)) (d_n ss sg s o i) = rowsW E w (fun j => r (d_ix ss sg s o i j)) (fun j => f (d_ix ss sg s o i j)) (d_n ss sg s o i) := rows_congr (fun j hj => by
          have e3 : updN (d_ix ss sg s o i) (d_n ss sg s o i) i j = d_ix ss sg s o i j := if_neg (by omega)
          rw [e3]; exact ⟨rfl, rfl⟩)
        rw [e2, e1]
        exact List.Perm.cons _ h
/-- the sightings' outer row has been made anew, out of some of the old one's -/
theorem drop_S {E : Ev} {A : Nat → Prop} {H0 H : Heap} {locs : List Loc} {q u : Nat} {P : AP} {M : SM} {s o : Int32} (hw : Wd E A H0 (wSo E q P M [.int (m_ni M), .int (m_wa M), .int (m_un M), .ref (P.1 1), .ref (P.1 2), .ref (P.1 3), .ref u] ++ [(u, aQ E (d_n (m_ss M) (m_sg M) s o (m_ng M)) (fun j => some (P.2.2.2 (d_ix (m_ss M) (m_sg M) s o (m_ng M) j))))]) H locs) :
    Wd E A H0 (wS E q (updN P.1 4 u, P.2.1, P.2.2.1, fun j => P.2.2.2 (f_dropI M s o j)) (f_drop M s o)) H locs := by
  obtain ⟨wr, h⟩ := drop_part (E := E) (w := 3) (r := P.2.2.2) (f := row3 M) (m_ss M) (m_sg M) s o (m_ng M)
  refine hw.part (wr := (P.1 4, aQ E (m_ng M) (fun j => some (P.2.2.2 j))) :: wr) (perm9 (fun a => ?_))
  have h' := cnt9_perm (a := a) h
  rw [cnt9_app] at h'
  show cnt9 a ((q, _) :: (P.1 1, _) :: (P.1 2, _) :: (P.1 3, _) :: (P.1 4, _) :: (rowsW E 4 P.2.1 (row4 M) (m_ns M) ++ (rowsW E 5 P.2.2.1 (row5 M) (m_np M) ++ rowsW E 3 P.2.2.2 (row3 M) (m_ng M))) ++ [(u, _)]) = cnt9 a (((q, _) :: (P.1 1, _) :: (P.1 2, _) :: (P.1 3, _) :: (u, _) :: (rowsW E 4 P.2.1 (row4 M) (m_ns M) ++ (rowsW E 5 P.2.2.1 (row5 M) (m_np M) ++ rowsW E 3 (fun j => P.2.2.2 (f_dropI M s o j)) (fun j => row3 M (f_dropI M s o j)) (d_n (m_ss M) (m_sg M) s o (m_ng M))))) ++ _)
  simp only [cnt9_app, cnt9_cons, cnt9_nil]
  have h2 : cnt9 a (rowsW E 3 P.2.2.2 (row3 M) (m_ng M)) = cnt9 a (rowsW E 3 (fun j => P.2.2.2 (f_dropI M s o j)) (fun j => row3 M (f_dropI M s o j)) (d_n (m_ss M) (m_sg M) s o (m_ng M))) + cnt9 a wr := h'
  rw [h2]
  show _ + d9 a (q, _) + d9 a (u, _) = _
  omega
theorem nQ_ext {r : Nat → Nat} {ix : FnN} {n i : Nat} : (fun j => if j = n then some (r i) else some (r (ix j))) = fun j => some (r (updN ix n i j)) := by
  funext j
  by_cases e : j = n
  · rw [if_pos e, updN, if_pos e]
  · rw [if_neg e, updN, if_neg e]
theorem lo1_a {X : SM} {i : Nat} (h : ¬ m_st X i = 1) : X = f_lo1 X i := by rw [f_lo1, if_neg h]
theorem lo1_b {X : SM} {i : Nat} (h : m_st X i = 1) (h2 : m_ou X i + 1 < 21) : q_ou X (upd (m_ou X) i (m_ou X i + 1)) = f_lo1 X i := by rw [f_lo1, if_pos h, if_pos h2]
theorem lo1_c {X : SM} {i : Nat} (h : m_st X i = 1) (h2 : ¬ m_ou X i + 1 < 21) (h3 : ¬ l_vot (m_so X) (m_vo X) (m_gi X) i false (m_np X) < l_vot (m_so X) (m_vo X) (m_gi X) i true (m_np X) * 2) : q_ou X (upd (m_ou X) i (m_ou X i + 1)) = f_lo1 X i := by rw [f_lo1, if_pos h, if_neg h2, if_neg h3]
theorem lo1_d {X : SM} {i : Nat} (h : m_st X i = 1) (h2 : ¬ m_ou X i + 1 < 21) (h3 : l_vot (m_so X) (m_vo X) (m_gi X) i false (m_np X) < l_vot (m_so X) (m_vo X) (m_gi X) i true (m_np X) * 2) : f_ends (q_st (q_ou X (upd (m_ou X) i (m_ou X i + 1))) (upd (m_st X) i 2)) i = f_lo1 X i := by rw [f_lo1, if_pos h, if_neg h2, if_pos h3]
theorem wS_eq {E : Ev} {q : Nat} {P : AP} {M M' : SM} (h : M = M') : wS E q P M = wS E q P M' := by rw [h]
section KIOR
variable {p : Program} {l : Launch} {e : Env} {R : Room} {s : State} {m : MethodId} {args : Array Value} {below : List Frame} {meth : Method} {c : Code} {H : Heap} {locs : List Loc} {cells slots : Nat} {Q : State → Prop}
variable {cc : ByteArray} {pc : Nat} {ls : Array Slot} {rest : List Value}
theorem k_iorT (hx : p.tables.exec = Jvm.exec) (hb : c.code = cc) {b : Bool} (hdg : decode cc pc = .ok (.ior, 1)) (kk : W p l e R s m args below meth c H locs cells slots Q (F0 m (pc + 1) ls (.int (bI true) :: rest))) : W p l e R s m args below meth c H locs cells slots Q (F0 m pc ls (.int 1 :: .int (bI b) :: rest)) :=
  lv_ior hx hb hdg (by rw [show bI b ||| 1 = bI true from by cases b <;> decide]; exact kk)
theorem k_iorF (hx : p.tables.exec = Jvm.exec) (hb : c.code = cc) {b : Bool} (hdg : decode cc pc = .ok (.ior, 1)) (kk : W p l e R s m args below meth c H locs cells slots Q (F0 m (pc + 1) ls (.int (bI b) :: rest))) : W p l e R s m args below meth c H locs cells slots Q (F0 m pc ls (.int 0 :: .int (bI b) :: rest)) :=
  lv_ior hx hb hdg (by rw [show bI b ||| 0 = bI b from by cases b <;> decide]; exact kk)
end KIOR
