abbrev rm_X3_more : Room := { frames := 0, cells := 1, slots := 21, locals := 0 }
theorem Wd.nilr {E : Ev} {A : Nat → Prop} {H0 H : Heap} {ws : va_W} {locs : List Loc} (hw : Wd E A H0 (ws ++ []) H locs) : Wd E A H0 ws H locs := by rw [List.append_nil] at hw; exact hw
set_option maxHeartbeats 4000000 in
set_option maxRecDepth 100000 in
/-- a longer outer row: the old one's rows, and one more -/
theorem c_X3_more (l : Launch) (E : Ev) (a n x : Nat) (f : Nat → Option Nat) (wp : va_W) (hn : n ≤ 20) (hf : ∀ j, j < n → ∃ y w g, f j = some y ∧ (y, aI E w g) ∈ wp) (hxr : ∃ w g, (x, aI E w g) ∈ wp) : MR (α := Unit) l E yX3_more wsX3_more rm_X3_more [.ref a, .ref x] ([(a, aQ E n f)] ++ wp) (fun _ u => [(u, aQ E (n + 1) (fun j => if j = n then some x else f j))] ++ wp) := by
  refine k_bR (cc := cX3_more) (maxL := 4) (ret := (some (.array (.array .int)))) (by decide) rfl (Nat.le_of_ble_eq_true rfl) ?_
  intro p9 e s9 m args below meth c A9 ls hC hl hw
  obtain ⟨hx, hb, hml, hr, hown, hts, hlocks, hK, hG, hA⟩ := hC
  have hl : lv_has ls 4 [(0, .ref a), (1, .ref x)] := hl
  have hcl := hts (.classLink RX3 7 "[I") (List.mem_of_getElem? (i := 1) rfl)
  refine lv_aload_n hx hb dX3_more_0 rfl (lv_at hl 0 rfl) ?_
  refine k_lenQ (n := n) hx hb hK hw 0 rfl dX3_more_1 ?_
  refine lv_iconst (v := 1) hx hb dX3_more_2 (by decide) ?_
  refine k_iaddN (a := n) (b := 1) hx hb dX3_more_3 ?_
  refine k_newQ hx hb hown hcl hK hG hw hA (by omega) (Nat.le_of_ble_eq_true rfl) (show 0 + (n + 1) ≤ 21 by omega) dX3_more_4 (fun q4 H hw => ?_)
  refine W.widen (k := 1) (n := 21) (by omega) (by omega) ?_
  have hw : Wd E A9 s9.heap ([(a, aQ E n f), (q4, aQ E (n + 1) (fun j => if j < 0 then f j else none))] ++ wp) H [] := by
    have h1 : Wd E A9 s9.heap ([(a, aQ E n f)] ++ (q4, aQ E (n + 1) (fun _ => none)) :: wp) H [] := Wd.perm hw (perm9 (fun b => by simp only [cnt9_app, cnt9_cons, cnt9_nil] <;> omega))
    exact Wd.setQ (w1 := [(a, aQ E n f)]) (w2 := wp) h1 (fun j _ => by rw [if_neg (by omega)])
  refine lv_astore_n (lv' := [(2, .ref q4), (0, .ref a), (1, .ref x)]) hx hb dX3_more_7 rfl hl (by decide) rfl (fun ls hl => ?_)
  refine lv_iconst (v := 0) hx hb dX3_more_8 (by decide) ?_
  refine lv_istore_n (lv' := [(3, .int 0), (2, .ref q4), (0, .ref a), (1, .ref x)]) hx hb dX3_more_9 rfl hl (by decide) rfl (fun ls hl => ?_)
  have L_10 : ∀ (k9 i : Nat) (H : Heap) (locs : List Loc) (ls : Array Slot), i + k9 = n → Wd E A9 s9.heap ([(a, aQ E n f), (q4, aQ E (n + 1) (fun j => if j < i then f j else none))] ++ wp) H locs → lv_has ls 4 [(3, .int (nI i)), (2, .ref q4), (0, .ref a), (1, .ref x)] → W p9 l e rm_X3_more s9 m args below meth c H locs 1 21 (EndR E A9 (fun (_ : Unit) u => [(u, aQ E (n + 1) (fun j => if j = n then some x else f j))] ++ wp) below args s9 (rm_X3_more).cells (rm_X3_more).slots) (F0 m 10 ls []) := by
    intro k9
    induction k9 with
    | zero =>
      intro i H locs ls hi hw hl
      have hz : i = n := by omega
      subst hz
      refine lv_iload_n hx hb dX3_more_10 rfl (lv_at hl 0 rfl) ?_
      refine lv_aload_n hx hb dX3_more_11 rfl (lv_at hl 2 rfl) ?_
      refine k_lenQ (n := i) hx hb hK hw 0 rfl dX3_more_12 ?_
      refine lv_icmp_ge (tgt := 28) hx hb dX3_more_13 (by decide) (fun _ => ?_) (fun q8 => absurd (Int32.le_refl _) q8)
      refine lv_aload_n hx hb dX3_more_28 rfl (lv_at hl 1 rfl) ?_
      refine lv_aload_n hx hb dX3_more_29 rfl (lv_at hl 2 rfl) ?_
      refine k_lenQ (n := i) hx hb hK hw 0 rfl dX3_more_30 ?_
      refine lv_aload_n hx hb dX3_more_31 rfl (lv_at hl 3 rfl) ?_
      obtain ⟨w, g, hm⟩ := hxr
      refine k_qst (ws' := [(a, aQ E i f), (q4, aQ E (i + 1) (va_up (fun j => if j < i then f j else none) i (some x)))] ++ wp) hx hb hK hG hw 1 rfl (i := i) (by omega) (by omega) (List.mem_append_right _ hm) dX3_more_32 rfl (fun H locs hw => ?_)
      refine lv_aload_n hx hb dX3_more_33 rfl (lv_at hl 1 rfl) ?_
      have hw : Wd E A9 s9.heap ([(q4, aQ E (i + 1) (fun j => if j = i then some x else f j))] ++ wp) H locs := by
        have h1 := Wd.setQ (w1 := [(a, aQ E i f)]) (w2 := wp) (g := fun j => if j = i then some x else f j) hw (fun j hj => by
          by_cases e : j = i
          · subst e; rw [if_pos rfl]; exact if_pos rfl
          · rw [if_neg e]
            exact (if_neg e).trans (if_pos (by omega)))
        exact h1.part (wr := [(a, aQ E i f)]) (perm9 (fun b => by simp only [cnt9_app, cnt9_cons, cnt9_nil] <;> omega))
      exact k_rret9 () hx hb hr (Or.inr ⟨_, rfl⟩) hlocks hK hw dX3_more_34 rfl
    | succ k9 ih =>
      intro i H locs ls hi hw hl
      refine lv_iload_n hx hb dX3_more_10 rfl (lv_at hl 0 rfl) ?_
      refine lv_aload_n hx hb dX3_more_11 rfl (lv_at hl 2 rfl) ?_
      refine k_lenQ (n := n) hx hb hK hw 0 rfl dX3_more_12 ?_
      refine lv_icmp_ge (tgt := 28) hx hb dX3_more_13 (by decide) (fun q8 => absurd q8 (nI_ge (a := i) (b := n) (by omega) (by omega))) (fun _ => ?_)
      refine lv_aload_n hx hb dX3_more_16 rfl (lv_at hl 1 rfl) ?_
      refine lv_iload_n hx hb dX3_more_17 rfl (lv_at hl 0 rfl) ?_
      refine lv_aload_n hx hb dX3_more_18 rfl (lv_at hl 2 rfl) ?_
      refine lv_iload_n hx hb dX3_more_19 rfl (lv_at hl 0 rfl) ?_
      obtain ⟨y, w, g, hy, hm⟩ := hf i (by omega)
      refine k_qld (i := i) (y := y) (n := n) hx hb hK hw 0 rfl (by omega) (by omega) hy dX3_more_20 ?_
      refine k_qst (ws' := [(a, aQ E n f), (q4, aQ E (n + 1) (va_up (fun j => if j < i then f j else none) i (some y)))] ++ wp) hx hb hK hG hw 1 rfl (i := i) (by omega) (by omega) (List.mem_append_right _ hm) dX3_more_21 rfl (fun H locs hw => ?_)
      have hw : Wd E A9 s9.heap ([(a, aQ E n f), (q4, aQ E (n + 1) (fun j => if j < i + 1 then f j else none))] ++ wp) H _ := Wd.setQ (w1 := [(a, aQ E n f)]) (w2 := wp) hw (fun j hj => by
          by_cases e : j = i
          · subst e; exact (if_pos rfl).trans (hy.symm.trans (if_pos (by omega)).symm)
          · by_cases e2 : j < i
            · exact (if_neg e).trans ((if_pos e2).trans (if_pos (by omega)).symm)
            · exact (if_neg e).trans ((if_neg e2).trans (if_neg (by omega)).symm))
      refine lv_iinc (v := nI (i + 1)) (lv' := [(3, .int (nI (i + 1))), (2, .ref q4), (0, .ref a), (1, .ref x)]) hx hb dX3_more_22 hl (k := 0) rfl (nI_add i 1) (by decide) rfl (fun ls hl => ?_)
      refine lv_goto (tgt := 10) hx hb dX3_more_25 (by decide) ?_
      exact ih (i + 1) _ _ _ (by omega) hw hl
  exact L_10 n 0 _ _ _ (by omega) hw hl
/-! a new ship, sailor, sighting -/
theorem mk3 {a b c : Int32} : upd (upd (upd (fun _ => 0) 0 a) 1 b) 2 c = rw3 a b c := by
  funext j
  match j with
  | 0 => rfl
  | 1 => rfl
  | 2 => rfl
  | j + 3 => rfl
theorem mk4 {a b c d : Int32} : upd (upd (upd (upd (fun _ => 0) 0 a) 1 b) 2 c) 3 d = rw4 a b c d := by
  funext j
  match j with
  | 0 => rfl
  | 1 => rfl
  | 2 => rfl
  | 3 => rfl
  | j + 4 => rfl
theorem mk5 {a b c d e : Int32} : upd (upd (upd (upd (upd (fun _ => 0) 0 a) 1 b) 2 c) 3 d) 4 e = rw5 a b c d e := by
  funext j
  match j with
  | 0 => rfl
  | 1 => rfl
  | 2 => rfl
  | 3 => rfl
  | 4 => rfl
  | j + 5 => rfl
def f_adds (M : SM) (a : Int32) : SM := mkS (m_ni M) (m_wa M) (m_un M) (m_ns M + 1) (m_np M) (m_nw M) (m_ng M) (upd (m_ma M) (m_ns M) a) (upd (m_st M) (m_ns M) 0) (upd (m_ou M) (m_ns M) 0) (upd (m_ru M) (m_ns M) 0) (m_so M) (m_mt M) (m_vo M) (m_gi M) (m_ca M) (m_tr M) (m_sw M) (m_ss M) (m_sg M)
def f_addp (M : SM) (s : Nat) (x v : Int32) : SM := mkS (m_ni M) (m_wa M) (m_un M) (m_ns M) (m_np M + 1) (m_nw M) (m_ng M) (m_ma M) (m_st M) (m_ou M) (m_ru M) (updN (m_so M) (m_np M) s) (upd (m_mt M) (m_np M) x) (upd (m_vo M) (m_np M) v) (upd (m_gi M) (m_np M) 0) (upd (m_ca M) (m_np M) 0) (m_tr M) (m_sw M) (m_ss M) (m_sg M)
def f_addg (M : SM) (w s : Nat) : SM := mkS (m_ni M) (m_wa M) (m_un M) (m_ns M) (m_np M) (m_nw M) (m_ng M + 1) (m_ma M) (m_st M) (m_ou M) (m_ru M) (m_so M) (m_mt M) (m_vo M) (m_gi M) (m_ca M) (m_tr M) (updN (m_sw M) (m_ng M) w) (updN (m_ss M) (m_ng M) s) (upd (m_sg M) (m_ng M) 0)
/-- the cells but the outer row k -/
def wS1 (E : Ev) (q : Nat) (P : AP) (M : SM) (fs : List Value) : va_W := (q, .inr (3, fs)) :: (P.1 2, aQ E (m_np M) (fun j => some (P.2.2.1 j))) :: (P.1 3, aI E (m_nw M) (m_tr M)) :: (P.1 4, aQ E (m_ng M) (fun j => some (P.2.2.2 j))) :: wSt E P M
def wS2 (E : Ev) (q : Nat) (P : AP) (M : SM) (fs : List Value) : va_W := (q, .inr (3, fs)) :: (P.1 1, aQ E (m_ns M) (fun j => some (P.2.1 j))) :: (P.1 3, aI E (m_nw M) (m_tr M)) :: (P.1 4, aQ E (m_ng M) (fun j => some (P.2.2.2 j))) :: wSt E P M
def wS4 (E : Ev) (q : Nat) (P : AP) (M : SM) (fs : List Value) : va_W := (q, .inr (3, fs)) :: (P.1 1, aQ E (m_ns M) (fun j => some (P.2.1 j))) :: (P.1 2, aQ E (m_np M) (fun j => some (P.2.2.1 j))) :: (P.1 3, aI E (m_nw M) (m_tr M)) :: wSt E P M
def fsS (P : AP) (M : SM) : List Value := [.int (m_ni M), .int (m_wa M), .int (m_un M), .ref (P.1 1), .ref (P.1 2), .ref (P.1 3), .ref (P.1 4)]
theorem wS_1 {E : Ev} {q : Nat} {P : AP} {M : SM} : (wS E q P M).Perm ([(P.1 1, aQ E (m_ns M) (fun j => some (P.2.1 j)))] ++ wS1 E q P M (fsS P M)) := perm9 (fun a => by
  show cnt9 a ((q, _) :: (P.1 1, _) :: (P.1 2, _) :: (P.1 3, _) :: (P.1 4, _) :: wSt E P M) = cnt9 a ([(P.1 1, _)] ++ (q, _) :: (P.1 2, _) :: (P.1 3, _) :: (P.1 4, _) :: wSt E P M)
  simp only [cnt9_app, cnt9_cons, cnt9_nil, fsS]; omega)
theorem wS_2 {E : Ev} {q : Nat} {P : AP} {M : SM} : (wS E q P M).Perm ([(P.1 2, aQ E (m_np M) (fun j => some (P.2.2.1 j)))] ++ wS2 E q P M (fsS P M)) := perm9 (fun a => by
  show cnt9 a ((q, _) :: (P.1 1, _) :: (P.1 2, _) :: (P.1 3, _) :: (P.1 4, _) :: wSt E P M) = cnt9 a ([(P.1 2, _)] ++ (q, _) :: (P.1 1, _) :: (P.1 3, _) :: (P.1 4, _) :: wSt E P M)
  simp only [cnt9_app, cnt9_cons, cnt9_nil, fsS]; omega)
theorem wS_4 {E : Ev} {q : Nat} {P : AP} {M : SM} : (wS E q P M).Perm ([(P.1 4, aQ E (m_ng M) (fun j => some (P.2.2.2 j)))] ++ wS4 E q P M (fsS P M)) := perm9 (fun a => by
  show cnt9 a ((q, _) :: (P.1 1, _) :: (P.1 2, _) :: (P.1 3, _) :: (P.1 4, _) :: wSt E P M) = cnt9 a ([(P.1 4, _)] ++ (q, _) :: (P.1 1, _) :: (P.1 2, _) :: (P.1 3, _) :: wSt E P M)
  simp only [cnt9_app, cnt9_cons, cnt9_nil, fsS]; omega)
theorem updN_s {f : FnN} {k x : Nat} : updN f k x k = x := if_pos rfl
theorem updN_n {f : FnN} {k j x : Nat} (h : j ≠ k) : updN f k x j = f j := if_neg h
theorem some_ext {r : Nat → Nat} {n x : Nat} : (fun j => if j = n then some x else some (r j)) = fun j => some (updN r n x j) := by
  funext j
  by_cases e : j = n
  · rw [if_pos e, updN, if_pos e]
  · rw [if_neg e, updN, if_neg e]
section ADDS
variable {E : Ev} {A : Nat → Prop} {H0 H : Heap} {locs : List Loc} {pre : va_W} {q b x : Nat} {P : AP} {M : SM} {fs : List Value}
theorem add_1 {a : Int32} (hw : Wd E A H0 (([(b, aQ E (m_ns M + 1) (fun j => if j = m_ns M then some x else some (P.2.1 j)))] ++ (pre ++ ((x, aI E 4 (rw4 a 0 0 0)) :: wS1 E q P M fs))) ++ []) H locs) :
    Wd E A H0 (pre ++ wSo E q (updN P.1 1 b, updN P.2.1 (m_ns M) x, P.2.2.1, P.2.2.2) (f_adds M a) fs) H locs := by
  refine Wd.perm hw (perm9 (fun c => ?_))
  have e1 : rowsW E 4 (updN P.2.1 (m_ns M) x) (row4 (f_adds M a)) (m_ns M) = rowsW E 4 P.2.1 (row4 M) (m_ns M) := rows_congr (fun j hj => ⟨updN_n (by omega), by
    show rw4 (upd (m_ma M) (m_ns M) a j) (upd (m_st M) (m_ns M) 0 j) (upd (m_ou M) (m_ns M) 0 j) (upd (m_ru M) (m_ns M) 0 j) = _
    rw [pk_un (by omega), pk_un (by omega), pk_un (by omega), pk_un (by omega)]; rfl⟩)
  have e2 : row4 (f_adds M a) (m_ns M) = rw4 a 0 0 0 := by
    show rw4 (upd (m_ma M) (m_ns M) a (m_ns M)) (upd (m_st M) (m_ns M) 0 (m_ns M)) (upd (m_ou M) (m_ns M) 0 (m_ns M)) (upd (m_ru M) (m_ns M) 0 (m_ns M)) = _
    rw [pk_us, pk_us, pk_us, pk_us]
  rw [some_ext]
  show _ = cnt9 c (pre ++ ((q, _) :: (b, aQ E (m_ns M + 1) (fun j => some (updN P.2.1 (m_ns M) x j))) :: (P.1 2, aQ E (m_np M) _) :: (P.1 3, aI E (m_nw M) (m_tr M)) :: (P.1 4, aQ E (m_ng M) _) :: (((updN P.2.1 (m_ns M) x (m_ns M), aI E 4 (row4 (f_adds M a) (m_ns M))) :: rowsW E 4 (updN P.2.1 (m_ns M) x) (row4 (f_adds M a)) (m_ns M)) ++ (rowsW E 5 P.2.2.1 (row5 M) (m_np M) ++ rowsW E 3 P.2.2.2 (row3 M) (m_ng M)))))
  rw [e1, e2, updN_s]
  simp only [cnt9_app, cnt9_cons, cnt9_nil, wS1, wSt]
  omega
theorem add_2 {s : Nat} {y v : Int32} (hw : Wd E A H0 (([(b, aQ E (m_np M + 1) (fun j => if j = m_np M then some x else some (P.2.2.1 j)))] ++ (pre ++ ((x, aI E 5 (rw5 (nI s) y v 0 0)) :: wS2 E q P M fs))) ++ []) H locs) :
    Wd E A H0 (pre ++ wSo E q (updN P.1 2 b, P.2.1, updN P.2.2.1 (m_np M) x, P.2.2.2) (f_addp M s y v) fs) H locs := by
  refine Wd.perm hw (perm9 (fun c => ?_))
  have e1 : rowsW E 5 (updN P.2.2.1 (m_np M) x) (row5 (f_addp M s y v)) (m_np M) = rowsW E 5 P.2.2.1 (row5 M) (m_np M) := rows_congr (fun j hj => ⟨updN_n (by omega), by
    show rw5 (nI (updN (m_so M) (m_np M) s j)) (upd (m_mt M) (m_np M) y j) (upd (m_vo M) (m_np M) v j) (upd (m_gi M) (m_np M) 0 j) (upd (m_ca M) (m_np M) 0 j) = _
    rw [updN_n (by omega), pk_un (by omega), pk_un (by omega), pk_un (by omega), pk_un (by omega)]; rfl⟩)
  have e2 : row5 (f_addp M s y v) (m_np M) = rw5 (nI s) y v 0 0 := by
    show rw5 (nI (updN (m_so M) (m_np M) s (m_np M))) (upd (m_mt M) (m_np M) y (m_np M)) (upd (m_vo M) (m_np M) v (m_np M)) (upd (m_gi M) (m_np M) 0 (m_np M)) (upd (m_ca M) (m_np M) 0 (m_np M)) = _
    rw [updN_s, pk_us, pk_us, pk_us, pk_us]
  rw [some_ext]
  show _ = cnt9 c (pre ++ ((q, _) :: (P.1 1, aQ E (m_ns M) _) :: (b, aQ E (m_np M + 1) (fun j => some (updN P.2.2.1 (m_np M) x j))) :: (P.1 3, aI E (m_nw M) (m_tr M)) :: (P.1 4, aQ E (m_ng M) _) :: (rowsW E 4 P.2.1 (row4 M) (m_ns M) ++ (((updN P.2.2.1 (m_np M) x (m_np M), aI E 5 (row5 (f_addp M s y v) (m_np M))) :: rowsW E 5 (updN P.2.2.1 (m_np M) x) (row5 (f_addp M s y v)) (m_np M)) ++ rowsW E 3 P.2.2.2 (row3 M) (m_ng M)))))
  rw [e1, e2, updN_s]
  simp only [cnt9_app, cnt9_cons, cnt9_nil, wS2, wSt]
  omega
theorem add_4 {w s : Nat} (hw : Wd E A H0 (([(b, aQ E (m_ng M + 1) (fun j => if j = m_ng M then some x else some (P.2.2.2 j)))] ++ (pre ++ ((x, aI E 3 (rw3 (nI w) (nI s) 0)) :: wS4 E q P M fs))) ++ []) H locs) :
    Wd E A H0 (pre ++ wSo E q (updN P.1 4 b, P.2.1, P.2.2.1, updN P.2.2.2 (m_ng M) x) (f_addg M w s) fs) H locs := by
  refine Wd.perm hw (perm9 (fun c => ?_))
  have e1 : rowsW E 3 (updN P.2.2.2 (m_ng M) x) (row3 (f_addg M w s)) (m_ng M) = rowsW E 3 P.2.2.2 (row3 M) (m_ng M) := rows_congr (fun j hj => ⟨updN_n (by omega), by
    show rw3 (nI (updN (m_sw M) (m_ng M) w j)) (nI (updN (m_ss M) (m_ng M) s j)) (upd (m_sg M) (m_ng M) 0 j) = _
    rw [updN_n (by omega), updN_n (by omega), pk_un (by omega)]; rfl⟩)
  have e2 : row3 (f_addg M w s) (m_ng M) = rw3 (nI w) (nI s) 0 := by
    show rw3 (nI (updN (m_sw M) (m_ng M) w (m_ng M))) (nI (updN (m_ss M) (m_ng M) s (m_ng M))) (upd (m_sg M) (m_ng M) 0 (m_ng M)) = _
    rw [updN_s, updN_s, pk_us]
  rw [some_ext]
  show _ = cnt9 c (pre ++ ((q, _) :: (P.1 1, aQ E (m_ns M) _) :: (P.1 2, aQ E (m_np M) _) :: (P.1 3, aI E (m_nw M) (m_tr M)) :: (b, aQ E (m_ng M + 1) (fun j => some (updN P.2.2.2 (m_ng M) x j))) :: (rowsW E 4 P.2.1 (row4 M) (m_ns M) ++ (rowsW E 5 P.2.2.1 (row5 M) (m_np M) ++ ((updN P.2.2.2 (m_ng M) x (m_ng M), aI E 3 (row3 (f_addg M w s) (m_ng M))) :: rowsW E 3 (updN P.2.2.2 (m_ng M) x) (row3 (f_addg M w s)) (m_ng M))))))
  rw [e1, e2, updN_s]
  simp only [cnt9_app, cnt9_cons, cnt9_nil, wS4, wSt]
  omega
end ADDS
/-! fields and trust, wherever the harbour lies in the world -/
theorem MOK_mk {x_ni : Int32} {x_wa : Int32} {x_un : Int32} {x_ns : Nat} {x_np : Nat} {x_nw : Nat} {x_ng : Nat} {x_ma : Fn} {x_st : Fn} {x_ou : Fn} {x_ru : Fn} {x_so : FnN} {x_mt : Fn} {x_vo : Fn} {x_gi : Fn} {x_ca : Fn} {x_tr : Fn} {x_sw : FnN} {x_ss : FnN} {x_sg : Fn} (h1 : x_ns ≤ 5) (h2 : x_np ≤ 16) (h3 : x_nw ≤ 4) (h4 : x_ng ≤ 20) (h5 : ∀ p, p < x_np → x_so p < x_ns) (h6 : ∀ j, j < x_ng → x_sw j < x_nw) : MOK (mkS x_ni x_wa x_un x_ns x_np x_nw x_ng x_ma x_st x_ou x_ru x_so x_mt x_vo x_gi x_ca x_tr x_sw x_ss x_sg) := ⟨h1, h2, h3, h4, h5, h6⟩
section PKF
variable {E : Ev} {q : Nat} {P : AP} {M : SM}
theorem wS_hd : wS E q P M = (q, .inr (3, fsS P M)) :: ((P.1 1, aQ E (m_ns M) (fun j => some (P.2.1 j))) :: (P.1 2, aQ E (m_np M) (fun j => some (P.2.2.1 j))) :: (P.1 3, aI E (m_nw M) (m_tr M)) :: (P.1 4, aQ E (m_ng M) (fun j => some (P.2.2.2 j))) :: wSt E P M) := rfl
theorem wSt_ni (v : Int32) : wSt E P (q_ni M v) = wSt E P M := rfl
theorem wSt_wa (v : Int32) : wSt E P (q_wa M v) = wSt E P M := rfl
theorem wSt_un (v : Int32) : wSt E P (q_un M v) = wSt E P M := rfl
theorem wSt_tr (v : Fn) : wSt E P (q_tr M v) = wSt E P M := rfl
theorem Pk_ni (v : Int32) : Pk (wS E q P M) (q, .inr (3, fsS P M)) (wS E q P (q_ni M v)) (q, .inr (3, (fsS P M).set 0 (.int v))) := ⟨_, List.Perm.refl _, by rw [wS_hd, wSt_ni]; exact List.Perm.refl _⟩
theorem Pk_wa (v : Int32) : Pk (wS E q P M) (q, .inr (3, fsS P M)) (wS E q P (q_wa M v)) (q, .inr (3, (fsS P M).set 1 (.int v))) := ⟨_, List.Perm.refl _, by rw [wS_hd, wSt_wa]; exact List.Perm.refl _⟩
theorem Pk_un (v : Int32) : Pk (wS E q P M) (q, .inr (3, fsS P M)) (wS E q P (q_un M v)) (q, .inr (3, (fsS P M).set 2 (.int v))) := ⟨_, List.Perm.refl _, by rw [wS_hd, wSt_un]; exact List.Perm.refl _⟩
theorem Pk_tr (v : Fn) : Pk (wS E q P M) (P.1 3, aI E (m_nw M) (m_tr M)) (wS E q P (q_tr M v)) (P.1 3, aI E (m_nw M) v) := by
  refine ⟨(q, .inr (3, fsS P M)) :: (P.1 1, aQ E (m_ns M) (fun j => some (P.2.1 j))) :: (P.1 2, aQ E (m_np M) (fun j => some (P.2.2.1 j))) :: (P.1 4, aQ E (m_ng M) (fun j => some (P.2.2.2 j))) :: wSt E P M, ?_, ?_⟩
  · rw [wS_hd]; exact perm9 (fun a => by simp only [cnt9_cons]; omega)
  · show ((q, .inr (3, fsS P M)) :: (P.1 1, aQ E (m_ns M) (fun j => some (P.2.1 j))) :: (P.1 2, aQ E (m_np M) (fun j => some (P.2.2.1 j))) :: (P.1 3, aI E (m_nw M) v) :: (P.1 4, aQ E (m_ng M) (fun j => some (P.2.2.2 j))) :: wSt E P (q_tr M v) : va_W).Perm _
    rw [wSt_tr]; exact perm9 (fun a => by simp only [cnt9_cons]; omega)
end PKF
section PUTP
variable {p : Program} {l : Launch} {e : Env} {R : Room} {s : State} {m : MethodId} {args : Array Value} {below : List Frame} {meth : Method} {c : Code} {H : Heap} {locs : List Loc} {cells slots : Nat} {Q : State → Prop}
variable {cc : ByteArray} {E : Ev} {A : Nat → Prop} {H0 : Heap} {ws ws' : va_W} {pc : Nat} {ls : Array Slot} {rest : List Value} {a : Nat}
theorem k_putP {own : String} (hx : p.tables.exec = Jvm.exec) (hb : c.code = cc) (hown : s.vm.findClass own = some m.cls) (hK : va_K E.1 vwCl (tysE E) s) (hw : Wd E A H0 ws H locs) {index : Nat} {Ts : List Cond} (hts : ∀ w ∈ Ts, w.before args s = true) (hin : ∀ w ∈ u_ws RX3 TX3 7, w ∈ Ts) {fs : List Value} (k : Nat) {v : Int32} (hP : Pk ws (a, .inr (3, fs)) ws' (a, .inr (3, fs.set k (.int v)))) (hk : k < 7) (hlink : (Cond.fieldLink own index (TX3 k).1 (TX3 k).2.1 (TX3 k).2.2.1).before args s = true) (hfin : (TX3 k).2.2.2 = false) (hd : tyX3 k = .int) (hl : k < fs.length) (hdg : decode cc pc = .ok (.putfield index, 3))
    (kk : ∀ (H1 : Heap) (locs1 : List Loc), Wd E A H0 ws' H1 locs1 → W p l e R s m args below meth c H1 locs1 cells slots Q (F0 m (pc + 3) ls rest)) : W p l e R s m args below meth c H locs cells slots Q (F0 m pc ls (.int v :: .ref a :: rest)) := by
  obtain ⟨wr, h1, h2⟩ := hP
  exact k_put (ci := 3) (C := RX3) (T := TX3) (N := 7) (ws' := (a, .inr (3, fs.set k (.int v))) :: wr) hx hb hown hK (Wd.perm hw h1) hts hin tyX3 tyX3_ok nmX3 0 rfl rfl k hk hlink hfin hd hl hdg rfl (fun H1 locs1 h => kk H1 locs1 (Wd.perm h h2.symm))
end PUTP
