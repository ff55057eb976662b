/-! ===== the model: its state, and what its methods answer and do ===== -/
abbrev MH : Type := Nat × Nat × Nat × Fn × FnN × Fn × FnB
def n_ns (S : MH) : Nat := S.1
def n_np (S : MH) : Nat := S.2.1
def n_nw (S : MH) : Nat := S.2.2.1
def n_ma (S : MH) : Fn := S.2.2.2.1
def n_so (S : MH) : FnN := S.2.2.2.2.1
def n_mo (S : MH) : Fn := S.2.2.2.2.2.1
def n_vo (S : MH) : FnB := S.2.2.2.2.2.2
def o_ns (S : MH) (x : Nat) : MH := (x, S.2)
def o_np (S : MH) (x : Nat) : MH := (S.1, x, S.2.2)
def o_nw (S : MH) (x : Nat) : MH := (S.1, S.2.1, x, S.2.2.2)
def o_ma (S : MH) (x : Fn) : MH := (S.1, S.2.1, S.2.2.1, x, S.2.2.2.2)
def o_so (S : MH) (x : FnN) : MH := (S.1, S.2.1, S.2.2.1, S.2.2.2.1, x, S.2.2.2.2.2)
def o_mo (S : MH) (x : Fn) : MH := (S.1, S.2.1, S.2.2.1, S.2.2.2.1, S.2.2.2.2.1, x, S.2.2.2.2.2.2)
def o_vo (S : MH) (x : FnB) : MH := (S.1, S.2.1, S.2.2.1, S.2.2.2.1, S.2.2.2.2.1, S.2.2.2.2.2.1, x)
theorem no_ns (S : MH) (x : Nat) : n_ns (o_ns S x) = x := rfl
theorem no_ns_np (S : MH) (x : Nat) : n_np (o_ns S x) = n_np S := rfl
theorem no_ns_nw (S : MH) (x : Nat) : n_nw (o_ns S x) = n_nw S := rfl
theorem no_ns_ma (S : MH) (x : Nat) : n_ma (o_ns S x) = n_ma S := rfl
theorem no_ns_so (S : MH) (x : Nat) : n_so (o_ns S x) = n_so S := rfl
theorem no_ns_mo (S : MH) (x : Nat) : n_mo (o_ns S x) = n_mo S := rfl
theorem no_ns_vo (S : MH) (x : Nat) : n_vo (o_ns S x) = n_vo S := rfl
theorem no_np_ns (S : MH) (x : Nat) : n_ns (o_np S x) = n_ns S := rfl
theorem no_np (S : MH) (x : Nat) : n_np (o_np S x) = x := rfl
theorem no_np_nw (S : MH) (x : Nat) : n_nw (o_np S x) = n_nw S := rfl
theorem no_np_ma (S : MH) (x : Nat) : n_ma (o_np S x) = n_ma S := rfl
theorem no_np_so (S : MH) (x : Nat) : n_so (o_np S x) = n_so S := rfl
theorem no_np_mo (S : MH) (x : Nat) : n_mo (o_np S x) = n_mo S := rfl
theorem no_np_vo (S : MH) (x : Nat) : n_vo (o_np S x) = n_vo S := rfl
theorem no_nw_ns (S : MH) (x : Nat) : n_ns (o_nw S x) = n_ns S := rfl
theorem no_nw_np (S : MH) (x : Nat) : n_np (o_nw S x) = n_np S := rfl
theorem no_nw (S : MH) (x : Nat) : n_nw (o_nw S x) = x := rfl
theorem no_nw_ma (S : MH) (x : Nat) : n_ma (o_nw S x) = n_ma S := rfl
theorem no_nw_so (S : MH) (x : Nat) : n_so (o_nw S x) = n_so S := rfl
theorem no_nw_mo (S : MH) (x : Nat) : n_mo (o_nw S x) = n_mo S := rfl
theorem no_nw_vo (S : MH) (x : Nat) : n_vo (o_nw S x) = n_vo S := rfl
theorem no_ma_ns (S : MH) (x : Fn) : n_ns (o_ma S x) = n_ns S := rfl
theorem no_ma_np (S : MH) (x : Fn) : n_np (o_ma S x) = n_np S := rfl
theorem no_ma_nw (S : MH) (x : Fn) : n_nw (o_ma S x) = n_nw S := rfl
theorem no_ma (S : MH) (x : Fn) : n_ma (o_ma S x) = x := rfl
theorem no_ma_so (S : MH) (x : Fn) : n_so (o_ma S x) = n_so S := rfl
theorem no_ma_mo (S : MH) (x : Fn) : n_mo (o_ma S x) = n_mo S := rfl
theorem no_ma_vo (S : MH) (x : Fn) : n_vo (o_ma S x) = n_vo S := rfl
theorem no_so_ns (S : MH) (x : FnN) : n_ns (o_so S x) = n_ns S := rfl
theorem no_so_np (S : MH) (x : FnN) : n_np (o_so S x) = n_np S := rfl
theorem no_so_nw (S : MH) (x : FnN) : n_nw (o_so S x) = n_nw S := rfl
theorem no_so_ma (S : MH) (x : FnN) : n_ma (o_so S x) = n_ma S := rfl
theorem no_so (S : MH) (x : FnN) : n_so (o_so S x) = x := rfl
theorem no_so_mo (S : MH) (x : FnN) : n_mo (o_so S x) = n_mo S := rfl
theorem no_so_vo (S : MH) (x : FnN) : n_vo (o_so S x) = n_vo S := rfl
theorem no_mo_ns (S : MH) (x : Fn) : n_ns (o_mo S x) = n_ns S := rfl
theorem no_mo_np (S : MH) (x : Fn) : n_np (o_mo S x) = n_np S := rfl
theorem no_mo_nw (S : MH) (x : Fn) : n_nw (o_mo S x) = n_nw S := rfl
theorem no_mo_ma (S : MH) (x : Fn) : n_ma (o_mo S x) = n_ma S := rfl
theorem no_mo_so (S : MH) (x : Fn) : n_so (o_mo S x) = n_so S := rfl
theorem no_mo (S : MH) (x : Fn) : n_mo (o_mo S x) = x := rfl
theorem no_mo_vo (S : MH) (x : Fn) : n_vo (o_mo S x) = n_vo S := rfl
theorem no_vo_ns (S : MH) (x : FnB) : n_ns (o_vo S x) = n_ns S := rfl
theorem no_vo_np (S : MH) (x : FnB) : n_np (o_vo S x) = n_np S := rfl
theorem no_vo_nw (S : MH) (x : FnB) : n_nw (o_vo S x) = n_nw S := rfl
theorem no_vo_ma (S : MH) (x : FnB) : n_ma (o_vo S x) = n_ma S := rfl
theorem no_vo_so (S : MH) (x : FnB) : n_so (o_vo S x) = n_so S := rfl
theorem no_vo_mo (S : MH) (x : FnB) : n_mo (o_vo S x) = n_mo S := rfl
theorem no_vo (S : MH) (x : FnB) : n_vo (o_vo S x) = x := rfl
abbrev MN : Type := Int32 × MH × Fn × Fn
def wN (E : Ev) (M : Nat → Nat) (N : MN) : va_W := [(M 0, .inr (3, [.int N.1, .int (nI (n_ns N.2.1)), .ref (M 1), .int (nI (n_np N.2.1)), .ref (M 2), .ref (M 3), .ref (M 4), .int (nI (n_nw N.2.1)), .ref (M 5), .ref (M 6)])), (M 1, aI E 5 (n_ma N.2.1)), (M 2, aN E 16 (n_so N.2.1)), (M 3, aI E 16 (n_mo N.2.1)), (M 4, aZ E 16 (n_vo N.2.1)), (M 5, aI E 74 N.2.2.1), (M 6, aI E 74 N.2.2.2)]
theorem wN_keep {E : Ev} {A : Nat → Prop} {H0 H : Heap} {locs : List Loc} {M : Nat → Nat} {th : Int32} {Hb : MH} {a k : Fn} (h : Wd E A H0 (wN E M (th, Hb, a, va_cpy a k 0 0 74)) H locs) : Wd E A H0 (wN E M (th, Hb, a, a)) H locs := by
  refine ⟨?_, va_D_same h.2.1 rfl, h.2.2⟩
  intro i q hk
  match i, hk with
  | 0, hk => exact h.1 0 q hk
  | 1, hk => exact h.1 1 q hk
  | 2, hk => exact h.1 2 q hk
  | 3, hk => exact h.1 3 q hk
  | 4, hk => exact h.1 4 q hk
  | 5, hk => exact h.1 5 q hk
  | 6, hk => cases hk; exact va_at_I (fun j hj => sb_cpy0 hj) (h.1 6 _ rfl)
  | i + 7, hk => exact h.1 (i + 7) q hk
theorem wN_back {E : Ev} {A : Nat → Prop} {H0 H : Heap} {locs : List Loc} {M : Nat → Nat} {th : Int32} {Hb : MH} {a k : Fn} (h : Wd E A H0 (wN E M (th, Hb, va_cpy k a 0 0 74, k)) H locs) : Wd E A H0 (wN E M (th, Hb, k, k)) H locs := by
  refine ⟨?_, va_D_same h.2.1 rfl, h.2.2⟩
  intro i q hk
  match i, hk with
  | 0, hk => exact h.1 0 q hk
  | 1, hk => exact h.1 1 q hk
  | 2, hk => exact h.1 2 q hk
  | 3, hk => exact h.1 3 q hk
  | 4, hk => exact h.1 4 q hk
  | 5, hk => cases hk; exact va_at_I (fun j hj => sb_cpy0 hj) (h.1 5 _ rfl)
  | 6, hk => exact h.1 6 q hk
  | i + 7, hk => exact h.1 (i + 7) q hk
theorem vp_cell_0 (cA : ClassId) (N : Nat) : vp_cell cA (N, .inl (fun _ => 0)) = arrV cA N (fun _ => defaultValue .int) := by
  rw [vp_cell_i]; rfl
theorem vp_cell_z (cA : ClassId) (N : Nat) : vp_cell cA (N, .inl (fun _ => bI false)) = arrV cA N (fun _ => defaultValue .boolean) := by
  rw [vp_cell_i]; rfl
section NEWS
variable {p : Program} {l : Launch} {e : Env} {R : Room} {s : State} {m : MethodId} {args : Array Value} {below : List Frame} {meth : Method} {c : Code} {H : Heap} {locs : List Loc} {cells slots : Nat} {Q : State → Prop}
variable {cc : ByteArray} {E : Ev} {A : Nat → Prop} {H0 : Heap} {ws ws' : va_W} {pc : Nat} {ls : Array Slot} {rest : List Value}
theorem k_newI (hx : p.tables.exec = Jvm.exec) (hb : c.code = cc) (harr : (Cond.arrayClass .int).before args s = true) (hK : va_K E.1 vwCl (tysE E) s) (hw : Wd E A H0 ws H locs) (hA : ∀ q, H0.size ≤ q → A q) {N : Nat} (hN : N < 1000) (hcells : cells + 1 ≤ R.cells) (hslots : slots + N ≤ R.slots) (hdg : decode cc pc = .ok (.newarray .int, 2))
    (kk : ∀ (q : Nat) (H1 : Heap), Wd E A H0 (ws ++ [(q, aI E N (fun _ => 0))]) H1 locs → W p l e R s m args below meth c H1 locs (cells + 1) (slots + N) Q (F0 m (pc + 2) ls (.ref q :: rest))) : W p l e R s m args below meth c H locs cells slots Q (F0 m pc ls (.int (nI N) :: rest)) := by
  refine va_newa (atype := .int) (N' := N) hx hb harr rfl hK hw.1 hw.2.1 hw.2.2 hA (fun cA => vp_cell_0 cA N) (nI_pos (by omega)) (nI_clamp (by omega)) (Nat.le_trans (Nat.mul_le_mul_right _ (Nat.le_of_lt hN)) (Nat.le_of_ble_eq_true rfl)) hcells hslots hdg (fun q cA H1 hK1 hP hD hS => ?_)
  have e1 : cA = E.2.1 := Option.some.inj ((va_nm_int (hK1.2 3 _ rfl).2).symm.trans (va_nm_int (hK.2 0 _ rfl).2))
  subst e1
  exact kk q H1 ⟨hP, hD, hS⟩
theorem k_newZ (hx : p.tables.exec = Jvm.exec) (hb : c.code = cc) (harr : (Cond.arrayClass .boolean).before args s = true) (hK : va_K E.1 vwCl (tysE E) s) (hw : Wd E A H0 ws H locs) (hA : ∀ q, H0.size ≤ q → A q) {N : Nat} (hN : N < 1000) (hcells : cells + 1 ≤ R.cells) (hslots : slots + N ≤ R.slots) (hdg : decode cc pc = .ok (.newarray .boolean, 2))
    (kk : ∀ (q : Nat) (H1 : Heap), Wd E A H0 (ws ++ [(q, aZ E N (fun _ => false))]) H1 locs → W p l e R s m args below meth c H1 locs (cells + 1) (slots + N) Q (F0 m (pc + 2) ls (.ref q :: rest))) : W p l e R s m args below meth c H locs cells slots Q (F0 m pc ls (.int (nI N) :: rest)) := by
  refine va_newa (atype := .boolean) (N' := N) hx hb harr rfl hK hw.1 hw.2.1 hw.2.2 hA (fun cA => vp_cell_z cA N) (nI_pos (by omega)) (nI_clamp (by omega)) (Nat.le_trans (Nat.mul_le_mul_right _ (Nat.le_of_lt hN)) (Nat.le_of_ble_eq_true rfl)) hcells hslots hdg (fun q cA H1 hK1 hP hD hS => ?_)
  have e1 : cA = E.2.2.1 := Option.some.inj ((va_nm_boolean (hK1.2 3 _ rfl).2).symm.trans (va_nm_boolean (hK.2 1 _ rfl).2))
  subst e1
  exact kk q H1 ⟨hP, hD, hS⟩
theorem k_newJ (hx : p.tables.exec = Jvm.exec) (hb : c.code = cc) (harr : (Cond.arrayClass .long).before args s = true) (hK : va_K E.1 vwCl (tysE E) s) (hw : Wd E A H0 ws H locs) (hA : ∀ q, H0.size ≤ q → A q) {N : Nat} (hN : N < 1000) (hcells : cells + 1 ≤ R.cells) (hslots : slots + N ≤ R.slots) (hdg : decode cc pc = .ok (.newarray .long, 2))
    (kk : ∀ (q : Nat) (H1 : Heap), Wd E A H0 (ws ++ [(q, aJ E N (fun _ => 0))]) H1 locs → W p l e R s m args below meth c H1 locs (cells + 1) (slots + N) Q (F0 m (pc + 2) ls (.ref q :: rest))) : W p l e R s m args below meth c H locs cells slots Q (F0 m pc ls (.int (nI N) :: rest)) := by
  refine va_newa (atype := .long) (N' := N) (a0 := (N, .inr (.inl (fun _ => 0)))) hx hb harr rfl hK hw.1 hw.2.1 hw.2.2 hA (fun cA => rfl) (nI_pos (by omega)) (nI_clamp (by omega)) (Nat.le_trans (Nat.mul_le_mul_right _ (Nat.le_of_lt hN)) (Nat.le_of_ble_eq_true rfl)) hcells hslots hdg (fun q cA H1 hK1 hP hD hS => ?_)
  have e1 : cA = E.2.2.2 := Option.some.inj ((va_nm_long (hK1.2 3 _ rfl).2).symm.trans (va_nm_long (hK.2 2 _ rfl).2))
  subst e1
  exact kk q H1 ⟨hP, hD, hS⟩
theorem Wd.drop {x : Nat × va_E} (h : Wd E A H0 (ws ++ [x]) H locs) : Wd E A H0 ws H locs := by
  have key : ∀ (k : Nat) (q : Nat × va_E), ws[k]? = some q → (ws ++ [x])[k]? = some q := fun k q hk => by
    rw [List.getElem?_append_left (List.getElem?_eq_some_iff.mp hk).1]; exact hk
  exact ⟨fun k q hk => h.1 k q (key k q hk), ⟨fun i j y z hy hz => h.2.1.1 i j y z (key i y hy) (key j z hz), fun k q hk => h.2.1.2 k q (key k q hk)⟩, h.2.2⟩
end NEWS
def d_in (v lo hi : Int32) : Bool := if v < lo then false else if hi < v then false else true
theorem d_in_t {v lo hi : Int32} (h1 : ¬ v < lo) (h2 : ¬ hi < v) : d_in v lo hi = true := by rw [d_in, if_neg h1, if_neg h2]
theorem d_in_n {n k : Nat} (h : n < k) (hk : k < 1000) : d_in (nI n) 0 (nI k - 1) = true := by
  refine d_in_t (nI_pos (by omega)) ?_
  obtain ⟨j, rfl⟩ : ∃ j, k = j + 1 := ⟨k - 1, by omega⟩
  rw [nI_pred]
  exact fun q => absurd ((nI_ltI (by omega) (by omega)).mp q) (by omega)
theorem d_in_lo {n j k : Nat} (h1 : j ≤ n) (h2 : n ≤ k) (hk : k < 1000) : d_in (nI n) (nI j) (nI k) = true :=
  d_in_t (fun q => absurd ((nI_ltI (by omega) (by omega)).mp q) (by omega)) (fun q => absurd ((nI_ltI (by omega) (by omega)).mp q) (by omega))
-- rows of 'now'
def d_out (a : Fn) (s : Nat) : Bool := if a (3 + 3 * s + 0) = 1 then true else false
def l_mtr (a : Fn) (s : Nat) : Nat → Int32 | 0 => 0 | w + 1 => l_mtr a s w + (if a (54 + 5 * w + s) = -1 then 0 else a (50 + w))
def l_mvo (Hb : MH) (a : Fn) (s : Nat) (g : Bool) : Nat → Int32 | 0 => 0 | i + 1 => l_mvo Hb a s g i + (if nI (n_so Hb i) = nI s then (if n_vo Hb i = true then (if g = true then (if a (18 + 2 * i + 1) = 1 then 1 else 0) else 1) else 0) else 0)
def r_dark (Hb : MH) (a : Fn) (p : Nat) : Bool := if d_out a (n_so Hb p) = true then (if a (18 + 2 * p + 0) = 0 then true else false) else false
def l_mdk (Hb : MH) (a : Fn) : Nat → Int32 | 0 => 0 | i + 1 => l_mdk Hb a i + (if r_dark Hb a i = true then 1 else 0)
def l_mwl (Hb : MH) (a : Fn) : Nat → Int32 | 0 => 0 | i + 1 => l_mwl Hb a i + (if a (3 + 3 * (n_so Hb i) + 0) = 2 then 1 else 0)
def r_lit (a : Fn) (p : Nat) : Fn := if 12 ≤ a 1 then upd (upd a 1 (a 1 - 12)) (18 + 2 * p + 0) 12 else a
def r_litN (a : Fn) : Int32 := if 12 ≤ a 1 then 1 else 0
abbrev r_gb1 (b : Fn) (p : Nat) : Fn := upd (upd b 1 (b 1 + b (18 + 2 * p + 0))) (18 + 2 * p + 0) 0
def l_mend1 (Hb : MH) (s : Nat) (a : Fn) : Nat → Fn | 0 => a | i + 1 => if nI (n_so Hb i) = nI s then r_gb1 (l_mend1 Hb s a i) i else l_mend1 Hb s a i
def l_mend2 (s : Nat) (a : Fn) : Nat → Fn | 0 => a | w + 1 => upd (l_mend2 s a w) (54 + 5 * w + s) (-1)
def r_end (Hb : MH) (a : Fn) (s : Nat) : Fn := l_mend2 s (upd (l_mend1 Hb s a (n_np Hb)) (3 + 3 * s + 2) 0) (n_nw Hb)
abbrev r_old1 (b : Fn) (k : Nat) : Fn := upd b k (b k + 1)
abbrev r_old2 (b : Fn) (w : Nat) : Fn := upd b (50 + w) (if 0 < b (50 + w) - 2 then b (50 + w) - 2 else 0)
def l_old1 (a : Fn) (w : Nat) : Nat → Fn | 0 => a | s + 1 => if l_old1 a w s (54 + 5 * w + s) = -1 then l_old1 a w s else if 3 ≤ r_old1 (l_old1 a w s) (54 + 5 * w + s) (54 + 5 * w + s) then r_old2 (upd (r_old1 (l_old1 a w s) (54 + 5 * w + s)) (54 + 5 * w + s) (-1)) w else r_old1 (l_old1 a w s) (54 + 5 * w + s)
def l_old (Hb : MH) (a : Fn) : Nat → Fn | 0 => a | w + 1 => l_old1 (l_old Hb a w) w (n_ns Hb)
abbrev r_burn1 (Hb : MH) (a : Fn) (p : Nat) : Fn := upd a (18 + 2 * p + 0) (if 0 < a (18 + 2 * p + 0) - 1 - n_mo Hb p then a (18 + 2 * p + 0) - 1 - n_mo Hb p else 0)
def r_burn (Hb : MH) (a : Fn) (p : Nat) : Fn := if d_out a (n_so Hb p) = true then (if a (3 + 3 * (n_so Hb p) + 2) = 1 then a else if r_burn1 Hb a p (18 + 2 * p + 0) = 0 then r_lit (r_burn1 Hb a p) p else r_burn1 Hb a p) else a
def r_burnN (Hb : MH) (a : Fn) (p : Nat) : Int32 := if d_out a (n_so Hb p) = true then (if a (3 + 3 * (n_so Hb p) + 2) = 1 then 0 else if r_burn1 Hb a p (18 + 2 * p + 0) = 0 then r_litN (r_burn1 Hb a p) else 0) else 0
abbrev r_unr (b : Fn) (s : Nat) : Fn := upd (upd b (3 + 3 * s + 2) 0) 2 (upd b (3 + 3 * s + 2) 0 2 + 1)
def l_mun (Hb : MH) (a : Fn) : Nat → Fn | 0 => a | s + 1 => if l_mun Hb a s (3 + 3 * s + 2) = 0 then l_mun Hb a s else if l_mtr (l_mun Hb a s) s (n_nw Hb) < 6 then r_unr (l_mun Hb a s) s else l_mun Hb a s
def l_mbu (Hb : MH) (a : Fn) : Nat → Fn | 0 => a | i + 1 => r_burn Hb (l_mbu Hb a i) i
def l_mbuN (Hb : MH) (a : Fn) : Nat → Int32 | 0 => 0 | i + 1 => l_mbuN Hb a i + r_burnN Hb (l_mbu Hb a i) i
abbrev r_nt1 (b : Fn) (s : Nat) : Fn := upd b (3 + 3 * s + 1) (b (3 + 3 * s + 1) + 1)
def l_mls (Hb : MH) (a : Fn) : Nat → Fn | 0 => a | s + 1 => if d_out (l_mls Hb a s) s = true then (if r_nt1 (l_mls Hb a s) s (3 + 3 * s + 1) ≤ 20 then r_nt1 (l_mls Hb a s) s else if l_mvo Hb (r_nt1 (l_mls Hb a s) s) s false (n_np Hb) < 2 * l_mvo Hb (r_nt1 (l_mls Hb a s) s) s true (n_np Hb) then r_end Hb (upd (r_nt1 (l_mls Hb a s) s) (3 + 3 * s + 0) 2) s else r_nt1 (l_mls Hb a s) s) else l_mls Hb a s
def r_nightA (Hb : MH) (a : Fn) : Fn := l_mun Hb (l_old Hb a (n_nw Hb)) (n_ns Hb)
def r_nightN (Hb : MH) (a : Fn) : Int32 := l_mbuN Hb (r_nightA Hb a) (n_np Hb)
def r_nightC (Hb : MH) (a : Fn) : Fn := l_mls Hb (l_mbu Hb (r_nightA Hb a) (n_np Hb)) (n_ns Hb)
def r_night (Hb : MH) (a : Fn) : Fn := upd (r_nightC Hb a) 0 (r_nightC Hb a 0 + 1)
def l_mpass (Hb : MH) (a : Fn) : Nat → Fn | 0 => a | i + 1 => r_night Hb (l_mpass Hb a i)
def l_mpassN (Hb : MH) (a : Fn) : Nat → Int32 | 0 => 0 | i + 1 => l_mpassN Hb a i + r_nightN Hb (l_mpass Hb a i)
abbrev r_sailA (a : Fn) (s : Nat) : Fn := upd (upd a (3 + 3 * s + 0) 1) (3 + 3 * s + 1) 0
def l_msl (Hb : MH) (s : Nat) (a : Fn) : Nat → Fn | 0 => a | i + 1 => if nI (n_so Hb i) = nI s then r_lit (upd (l_msl Hb s a i) (18 + 2 * i + 1) 0) i else l_msl Hb s a i
def l_mslN (Hb : MH) (s : Nat) (a : Fn) : Nat → Int32 | 0 => 0 | i + 1 => l_mslN Hb s a i + (if nI (n_so Hb i) = nI s then r_litN (upd (l_msl Hb s a i) (18 + 2 * i + 1) 0) else 0)
abbrev r_bel (b : Fn) (w : Nat) : Fn := upd b (50 + w) (if b (50 + w) + 1 < 9 then b (50 + w) + 1 else 9)
def l_mbel (s : Nat) (a : Fn) : Nat → Fn | 0 => a | w + 1 => if l_mbel s a w (54 + 5 * w + s) = -1 then l_mbel s a w else r_bel (l_mbel s a w) w
def r_home (Hb : MH) (a : Fn) (s : Nat) : Fn := upd (r_end Hb (l_mbel s a (n_nw Hb)) s) (3 + 3 * s + 0) 0
def r_sig (Hb : MH) (a : Fn) (w s : Nat) : Fn := if l_mtr (upd a (54 + 5 * w + s) 0) s (n_nw Hb) < 6 then upd a (54 + 5 * w + s) 0 else upd (upd a (54 + 5 * w + s) 0) (3 + 3 * s + 2) 1
def r_sigB (Hb : MH) (a : Fn) (w s : Nat) : Bool := if r_sig Hb a w s (3 + 3 * s + 2) = 1 then true else false
def r_vote (a : Fn) (p : Nat) (v : Bool) : Fn := upd a (18 + 2 * p + 1) (if v = true then 1 else 0)
def l_mal (a : Fn) : Nat → Int32 | 0 => 0 | j + 1 => l_mal a j + (if a (54 + j) = -1 then 0 else 1)
def l_msum (a : Fn) : Nat → Int32 | 0 => 0 | w + 1 => l_msum a w + a (50 + w)
def r_mean (Hb : MH) (a : Fn) : UInt64 := if nI (n_nw Hb) = 0 then 0 else FP.ddiv (FP.i2d (l_msum a (n_nw Hb))) (FP.i2d (nI (n_nw Hb)))
/-- lit so far: no candle dark behind each of the first n nights -/
def l_mlit (Hb : MH) (a : Fn) : Nat → Bool | 0 => true | n + 1 => if l_mlit Hb a n = true then (if l_mdk Hb (l_mpass Hb a (n + 1)) (n_np Hb) = 0 then true else false) else false
theorem l_mlit_no (Hb : MH) (a : Fn) {i : Nat} (h : l_mlit Hb a i = false) : ∀ n, i ≤ n → l_mlit Hb a n = false
  | 0, q => by have : i = 0 := by omega
               subst this; exact h
  | n + 1, q => by
    rcases Nat.lt_or_ge i (n + 1) with x | x
    · rw [l_mlit, l_mlit_no Hb a h n (by omega), if_neg (by decide)]
    · have e : i = n + 1 := by omega
      rw [← e]; exact h
theorem l_mlit_yes (Hb : MH) (a : Fn) : ∀ n, l_mlit Hb a n = true → ∀ i, i ≤ n → l_mlit Hb a i = true
  | n, h, i, q => by
    cases hh : l_mlit Hb a i with
    | true => rfl
    | false => rw [l_mlit_no Hb a hh n q] at h; exact h
def r_enough (Hb : MH) (a : Fn) (x : Int32) (n : Nat) : Bool := l_mlit Hb (upd a 1 (a 1 + x)) n
/-- the bounds of the halving, behind i steps -/
def l_bs (P : Nat → Bool) : Nat → Nat × Nat | 0 => (0, 500) | i + 1 => if P (((l_bs P i).1 + (l_bs P i).2) / 2) = true then ((l_bs P i).1, ((l_bs P i).1 + (l_bs P i).2) / 2) else (((l_bs P i).1 + (l_bs P i).2) / 2 + 1, (l_bs P i).2)
def l_mix (f : Nat → Int32) (d : Int64) : Nat → Int64 | 0 => d | i + 1 => l_mix f d i * 31 + (f i).toInt64
def x_all (Hb : MH) (a : Fn) : Fn := upd (upd (upd (upd (upd (upd (upd (upd (upd (fun _ => 0) 0 (nI (n_ns Hb))) 1 (nI (n_np Hb))) 2 (nI (n_nw Hb))) 3 (l_mal a 20)) 4 (a 0)) 5 (a 1)) 6 (l_mdk Hb a (n_np Hb))) 7 (a 2)) 8 (l_mwl Hb a (n_np Hb))
def x_ship (Hb : MH) (a : Fn) (s : Nat) : Fn := upd (upd (upd (upd (upd (upd (upd (upd (fun _ => 0) 0 (n_ma Hb s)) 1 (if a (3 + 3 * s + 0) = 0 then 0 else 1)) 2 (if a (3 + 3 * s + 0) = 2 then 1 else 0)) 3 (a (3 + 3 * s + 1))) 4 (a (3 + 3 * s + 2))) 5 (l_mtr a s (n_nw Hb))) 6 (l_mvo Hb a s false (n_np Hb))) 7 (l_mvo Hb a s true (n_np Hb))
def x_sail (Hb : MH) (a : Fn) (p : Nat) : Fn := upd (upd (upd (upd (upd (fun _ => 0) 0 (nI (n_so Hb p))) 1 (n_mo Hb p)) 2 (if n_vo Hb p = true then 1 else 0)) 3 (a (18 + 2 * p + 1))) 4 (a (18 + 2 * p + 0))
def l_dgS (Hb : MH) (a : Fn) (d : Int64) : Nat → Int64 | 0 => d | i + 1 => l_mix (x_ship Hb a i) (l_dgS Hb a d i) 8
def l_dgP (Hb : MH) (a : Fn) (d : Int64) : Nat → Int64 | 0 => d | i + 1 => l_mix (x_sail Hb a i) (l_dgP Hb a d i) 5
def l_dgW (a : Fn) (d : Int64) : Nat → Int64 | 0 => d | i + 1 => l_dgW a d i * 31 + (a (50 + i)).toInt64
def r_digest (Hb : MH) (a : Fn) : Int64 := l_dgW a (l_dgP Hb a (l_dgS Hb a (l_mix (x_all Hb a) 1949 9) (n_ns Hb)) (n_np Hb)) (n_nw Hb)

