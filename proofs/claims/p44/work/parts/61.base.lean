/-! ===== the class's words at small numbers ===== -/
theorem upd_upd (f : Fn) (k : Nat) (x y : Int32) : upd (upd f k x) k y = upd f k y := by
  funext j
  by_cases e : j = k
  · subst e; rw [pk_us, pk_us]
  · rw [pk_un e, pk_un e, pk_un e]
theorem upd_comm (f : Fn) {k l : Nat} (h : k ≠ l) (x y : Int32) : upd (upd f k x) l y = upd (upd f l y) k x := by
  funext j
  by_cases e : j = k
  · subst e; rw [pk_us, pk_un h, pk_us]
  · by_cases e2 : j = l
    · subst e2; rw [pk_us, pk_un e, pk_us]
    · rw [pk_un e2, pk_un e, pk_un e, pk_un e2]
theorem upd_self (f : Fn) (k : Nat) : upd f k (f k) = f := by
  funext j
  by_cases e : j = k
  · subst e; rw [pk_us]
  · rw [pk_un e]
theorem updB_s {f : FnB} {k : Nat} {x : Bool} : updB f k x k = x := if_pos rfl
theorem updB_n {f : FnB} {k j : Nat} {x : Bool} (h : j ≠ k) : updB f k x j = f j := if_neg h
theorem fat {n : Nat} {a : Fn} {i : Nat} (hi : i < n) (hn : n < 1000) : f_at n a (nI i) = a i := by
  rw [f_at, if_neg (nI_pos (by omega)), if_neg (nI_ge hi (by omega)), nI_clamp (by omega)]
theorem fis {n : Nat} {a : FnB} {i : Nat} (hi : i < n) (hn : n < 1000) : f_is n a (nI i) = a i := by
  rw [f_is, if_neg (nI_pos (by omega)), if_neg (nI_ge hi (by omega)), nI_clamp (by omega)]
theorem fput {n : Nat} {a : Fn} {i : Nat} {v : Int32} (hi : i < n) (hn : n < 1000) : f_put n a (nI i) v = upd a i v := by
  rw [f_put, if_neg (nI_pos (by omega)), if_neg (nI_ge hi (by omega)), nI_clamp (by omega)]
theorem fmark {n : Nat} {a : FnB} {i : Nat} {v : Bool} (hi : i < n) (hn : n < 1000) : f_mark n a (nI i) v = updB a i v := by
  rw [f_mark, if_neg (nI_pos (by omega)), if_neg (nI_ge hi (by omega)), nI_clamp (by omega)]
theorem fat_m {n : Nat} {a : Fn} : f_at n a (-1) = 0 := by
  rw [f_at, if_pos (by decide)]
theorem fis_m {n : Nat} {a : FnB} : f_is n a (-1) = false := by
  rw [f_is, if_pos (by decide)]
theorem m1_ne (n : Nat) (h : n < 1000) : ¬ ((-1 : Int32) = nI n) := fun q => by
  have h0 := congrArg Int32.toInt q
  rw [nI_toInt (by omega)] at h0
  have : (-1 : Int32).toInt = -1 := by decide
  omega
theorem fplace {w s : Nat} (hw : w < 4) (hs : s < 5) : f_place (nI w) (nI s) = nI (5 * w + s) := by
  rw [f_place, if_neg (nI_pos (by omega)), if_neg (show ¬ ((4 : Int32) ≤ nI w) from nI_ge (b := 4) hw (by omega)), if_neg (nI_pos (by omega)), if_pos (show nI s < (5 : Int32) from nI_lt (b := 5) hs (by omega))]
  show nI w * nI 5 + nI s = _
  rw [pk_mul, nI_add, Nat.mul_comm]
theorem fship {G : HS} {p : Nat} (hp : p < 16) : f_ship G (nI p) = g_sh G p := by
  rw [f_ship, if_neg (nI_pos (by omega)), if_neg (nI_ge hp (by omega)), nI_clamp (by omega)]
theorem fstay_m {S : CS} : f_stay S (-1) = 0 := fat_m
theorem fstay_n {S : CS} {s : Nat} (hs : s < 5) : f_stay S (nI s) = c_st S s := fat hs (by omega)
theorem fhas {S : CS} {w s : Nat} (hw : w < 4) (hs : s < 5) : f_hasS S (nI w) (nI s) = if c_ag S (5 * w + s) = -1 then false else true := by
  rw [f_hasS, fplace hw hs, if_neg (nI_pos (by omega)), if_neg (nI_ge (by omega) (by omega)), nI_clamp (by omega)]
theorem bI_inj {x y : Bool} (h : bI x = bI y) : x = y := by
  cases x <;> cases y <;> first | rfl | exact absurd h (by decide)
theorem nlt {x y : Int32} : ¬ x < y ↔ y ≤ x := by
  rw [Int32.lt_iff_toInt_lt, Int32.le_iff_toInt_le]; omega
theorem nle {x y : Int32} : ¬ x ≤ y ↔ y < x := by
  rw [Int32.lt_iff_toInt_lt, Int32.le_iff_toInt_le]; omega
theorem nI_inj5 {a b : Nat} (ha : a < 1000) (hb : b < 1000) (h : nI a = nI b) : a = b := (nI_eq (by omega) (by omega)).mp h
/-! ===== ages and rows of sightings ===== -/
/-- rows 0 to n - 1 name each place with an age other than -1 once -/
def SG (nw ns : Nat) (sw ss : FnN) (sg : Fn) : Nat → Fn → Prop
  | 0, ag => ∀ i, i < 20 → ag i = -1
  | n + 1, ag => sw n < nw ∧ ss n < ns ∧ ag (5 * sw n + ss n) = sg n ∧ ¬ sg n = -1 ∧ SG nw ns sw ss sg n (upd ag (5 * sw n + ss n) (-1))
theorem SG_congr {nw ns : Nat} {sw ss sw' ss' : FnN} {sg sg' : Fn} : ∀ {n : Nat} {ag ag' : Fn}, SG nw ns sw ss sg n ag → (∀ i, i < 20 → ag' i = ag i) → (∀ j, j < n → sw' j = sw j ∧ ss' j = ss j ∧ sg' j = sg j) → nw ≤ 4 → ns ≤ 5 → SG nw ns sw' ss' sg' n ag'
  | 0, ag, ag', h, ha, hc, _, _ => fun i hi => (ha i hi).trans (h i hi)
  | n + 1, ag, ag', h, ha, hc, h4, h5 => by
    obtain ⟨h1, h2, h3, hm, hr⟩ := h
    obtain ⟨c1, c2, c3⟩ := hc n (by omega)
    refine ⟨by rw [c1]; exact h1, by rw [c2]; exact h2, ?_, by rw [c3]; exact hm, ?_⟩
    · rw [c1, c2, c3, ha _ (by omega)]; exact h3
    · rw [c1, c2]
      refine SG_congr hr (fun i hi => ?_) (fun j hj => hc j (by omega)) h4 h5
      by_cases e : i = 5 * sw n + ss n
      · subst e; rw [pk_us, pk_us]
      · rw [pk_un e, pk_un e]; exact ha i hi
theorem SG_more {nw ns nw' ns' : Nat} {sw ss : FnN} {sg : Fn} (h1 : nw ≤ nw') (h2 : ns ≤ ns') : ∀ {n : Nat} {ag : Fn}, SG nw ns sw ss sg n ag → SG nw' ns' sw ss sg n ag
  | 0, _, h => h
  | n + 1, _, ⟨a, b, c, d, e⟩ => ⟨by omega, by omega, c, d, SG_more h1 h2 e⟩
theorem SG_bd {nw ns : Nat} {sw ss : FnN} {sg : Fn} : ∀ {n : Nat} {ag : Fn}, SG nw ns sw ss sg n ag → ∀ j, j < n → sw j < nw ∧ ss j < ns
  | 0, _, _, j, hj => absurd hj (by omega)
  | n + 1, ag, h, j, hj => by
    obtain ⟨h1, h2, -, -, hr⟩ := h
    rcases Nat.lt_or_ge j n with q | q
    · exact SG_bd hr j q
    · have e : j = n := by omega
      subst e; exact ⟨h1, h2⟩
theorem pl_inj {w s w' s' : Nat} (hs : s < 5) (hs' : s' < 5) : 5 * w + s = 5 * w' + s' ↔ w = w' ∧ s = s' := by omega
/-- a place with an age has its row: so its watcher and ship are there -/
theorem SG_in {nw ns : Nat} {sw ss : FnN} {sg : Fn} (h4 : nw ≤ 4) (h5 : ns ≤ 5) : ∀ {n : Nat} {ag : Fn}, SG nw ns sw ss sg n ag → ∀ w s, w < 4 → s < 5 → ¬ ag (5 * w + s) = -1 → w < nw ∧ s < ns
  | 0, _, h, w, s, hw, hs, hn => absurd (h _ (by omega)) hn
  | n + 1, ag, h, w, s, hw, hs, hn => by
    obtain ⟨h1, h2, -, -, hr⟩ := h
    by_cases e : 5 * w + s = 5 * sw n + ss n
    · have := (pl_inj (w := w) (w' := sw n) hs (by omega)).mp e
      omega
    · exact SG_in h4 h5 hr w s hw hs (by rw [pk_un e]; exact hn)
/-- how many places have an age -/
def n_ag (ag : Fn) : Nat → Nat | 0 => 0 | i + 1 => if ag i = -1 then n_ag ag i else n_ag ag i + 1
theorem n_ag_le (ag : Fn) : ∀ i, n_ag ag i ≤ i
  | 0 => Nat.le_refl _
  | i + 1 => by
    have := n_ag_le ag i
    rw [n_ag]; split <;> omega
theorem n_ag_scnt (ag : Fn) : ∀ i, i ≤ 20 → l_scnt ag i = nI (n_ag ag i)
  | 0, _ => rfl
  | i + 1, h => by
    rw [l_scnt, n_ag, n_ag_scnt ag i (by omega)]
    by_cases e : ag i = -1
    · rw [if_pos e, if_pos e]
    · rw [if_neg e, if_neg e]; exact nI_1 _
theorem n_ag_upd {ag : Fn} {k : Nat} (h : ¬ ag k = -1) : ∀ i, n_ag ag i = n_ag (upd ag k (-1)) i + (if k < i then 1 else 0)
  | 0 => by rw [if_neg (by omega)]; rfl
  | i + 1 => by
    rw [n_ag, n_ag, n_ag_upd h i]
    by_cases e : i = k
    · subst e
      rw [if_neg h, pk_us, if_pos rfl, if_neg (by omega), if_pos (by omega)]
    · rw [pk_un e]
      by_cases e1 : ag i = -1
      · rw [if_pos e1, if_pos e1]
        by_cases e2 : k < i
        · rw [if_pos e2, if_pos (by omega)]
        · rw [if_neg e2, if_neg (by omega)]
      · rw [if_neg e1, if_neg e1]
        by_cases e2 : k < i
        · rw [if_pos e2, if_pos (by omega)]
        · rw [if_neg e2, if_neg (by omega)]
theorem n_ag_0 {ag : Fn} (h : ∀ i, i < 20 → ag i = -1) : ∀ i, i ≤ 20 → n_ag ag i = 0
  | 0, _ => rfl
  | i + 1, q => by rw [n_ag, if_pos (h i (by omega)), n_ag_0 h i (by omega)]
theorem SG_n {nw ns : Nat} {sw ss : FnN} {sg : Fn} (h4 : nw ≤ 4) (h5 : ns ≤ 5) : ∀ {n : Nat} {ag : Fn}, SG nw ns sw ss sg n ag → n_ag ag 20 = n
  | 0, _, h => n_ag_0 h 20 (by omega)
  | n + 1, ag, h => by
    obtain ⟨h1, h2, h3, hm, hr⟩ := h
    rw [n_ag_upd (k := 5 * sw n + ss n) (by rw [h3]; exact hm), SG_n h4 h5 hr, if_pos (by omega)]
theorem SG_scnt {nw ns n : Nat} {sw ss : FnN} {sg ag : Fn} (h4 : nw ≤ 4) (h5 : ns ≤ 5) (h : SG nw ns sw ss sg n ag) : l_scnt ag 20 = nI n ∧ n ≤ 20 := by
  have h1 := SG_n h4 h5 h
  have h2 := n_ag_le ag 20
  exact ⟨by rw [n_ag_scnt ag 20 (by omega), h1], by omega⟩
/-- trust in a ship, by places -/
def t_su (ag tr : Fn) (s : Nat) : Nat → Int32 | 0 => 0 | i + 1 => if ag (5 * i + s) = -1 then t_su ag tr s i else t_su ag tr s i + tr i
theorem trust_su' {S : CS} {s : Nat} (hs : s < 5) : ∀ i, i ≤ 4 → l_trust S (nI s) i = t_su (c_ag S) (c_tr S) s i
  | 0, _ => rfl
  | i + 1, q => by
    rw [l_trust, t_su, trust_su' hs i (by omega), fhas (by omega) hs, fat (by omega) (by omega)]
    by_cases e : c_ag S (5 * i + s) = -1
    · rw [if_pos e, if_pos e, if_neg (by decide)]
    · rw [if_neg e, if_neg e, if_pos rfl]
theorem trust_su {S : CS} {s : Nat} (hs : s < 5) : f_trust S (nI s) = t_su (c_ag S) (c_tr S) s 4 := trust_su' hs 4 (by omega)
theorem su_upd {ag tr : Fn} {w0 s0 s : Nat} (hs0 : s0 < 5) (hs : s < 5) (h : ¬ ag (5 * w0 + s0) = -1) : ∀ i, t_su ag tr s i = if s0 = s ∧ w0 < i then t_su (upd ag (5 * w0 + s0) (-1)) tr s i + tr w0 else t_su (upd ag (5 * w0 + s0) (-1)) tr s i
  | 0 => by rw [if_neg (by omega)]; rfl
  | i + 1 => by
    rw [t_su, t_su, su_upd hs0 hs h i]
    by_cases e : 5 * i + s = 5 * w0 + s0
    · obtain ⟨e1, e2⟩ := (pl_inj hs hs0).mp e
      subst e1; subst e2
      rw [if_neg h, pk_us, if_pos rfl, if_neg (by omega), if_pos (by omega)]
    · rw [pk_un e]
      by_cases e1 : ag (5 * i + s) = -1
      · rw [if_pos e1, if_pos e1]
        by_cases e2 : s0 = s ∧ w0 < i
        · rw [if_pos e2, if_pos (by omega)]
        · rw [if_neg e2, if_neg (by omega)]
      · rw [if_neg e1, if_neg e1]
        by_cases e2 : s0 = s ∧ w0 < i
        · rw [if_pos e2, if_pos (by omega), Int32.add_assoc, Int32.add_comm (tr w0), ← Int32.add_assoc]
        · rw [if_neg e2, if_neg (by omega)]
theorem su_0 {ag tr : Fn} {s : Nat} (hs : s < 5) (h : ∀ i, i < 4 → ag (5 * i + s) = -1) : ∀ i, i ≤ 4 → t_su ag tr s i = 0
  | 0, _ => rfl
  | i + 1, q => by rw [t_su, if_pos (h i (by omega)), su_0 hs h i (by omega)]
theorem SG_tin {nw ns : Nat} {sw ss : FnN} {sg tr : Fn} (h4 : nw ≤ 4) (h5 : ns ≤ 5) {s : Nat} (hs : s < 5) : ∀ {n : Nat} {ag : Fn}, SG nw ns sw ss sg n ag → l_tin ss sw tr s n = t_su ag tr s 4
  | 0, ag, h => (su_0 hs (fun i hi => h _ (by omega)) 4 (by omega)).symm
  | n + 1, ag, h => by
    obtain ⟨h1, h2, h3, hm, hr⟩ := h
    rw [l_tin, SG_tin h4 h5 hs hr, su_upd (ag := ag) (w0 := sw n) (s0 := ss n) (by omega) hs (by rw [h3]; exact hm) 4]
    by_cases e : ss n = s
    · rw [if_pos (by rw [e]), if_pos ⟨e, by omega⟩]
    · rw [if_neg (fun q => e (nI_inj5 (by omega) (by omega) q)), if_neg (fun q => e q.1)]
theorem SG_sig {nw ns : Nat} {sw ss : FnN} {sg : Fn} (h4 : nw ≤ 4) (h5 : ns ≤ 5) {w s : Nat} (hw : w < 4) (hs : s < 5) : ∀ {n : Nat} {ag : Fn}, SG nw ns sw ss sg n ag → l_sig ss sw w s n = (if ag (5 * w + s) = -1 then false else true)
  | 0, ag, h => by rw [if_pos (h _ (by omega))]; rfl
  | n + 1, ag, h => by
    obtain ⟨h1, h2, h3, hm, hr⟩ := h
    have ih := SG_sig h4 h5 hw hs hr
    rw [l_sig]
    by_cases e : 5 * w + s = 5 * sw n + ss n
    · obtain ⟨e1, e2⟩ := (pl_inj hs (by omega)).mp e
      rw [if_pos (by rw [e1]), if_pos (by rw [e2]), e, h3, if_neg hm]
    · rw [pk_un e] at ih
      by_cases e1 : nI (sw n) = nI w
      · have e1' : sw n = w := nI_inj5 (by omega) (by omega) e1
        rw [if_pos e1, if_neg (fun q => e (by have := nI_inj5 (a := ss n) (b := s) (by omega) (by omega) q; omega))]
        exact ih
      · rw [if_neg e1]; exact ih
theorem SG_add {nw ns : Nat} {sw ss : FnN} {sg ag : Fn} {n w s : Nat} {v : Int32} (h4 : nw ≤ 4) (h5 : ns ≤ 5) (h : SG nw ns sw ss sg n ag) (hw : w < nw) (hs : s < ns) (h0 : ag (5 * w + s) = -1) (hv : ¬ v = -1) : SG nw ns (updN sw n w) (updN ss n s) (upd sg n v) (n + 1) (upd ag (5 * w + s) v) := by
  refine ⟨by rw [updN_s]; exact hw, by rw [updN_s]; exact hs, by rw [updN_s, updN_s, pk_us, pk_us], by rw [pk_us]; exact hv, ?_⟩
  rw [updN_s, updN_s, upd_upd, ← h0, upd_self]
  exact SG_congr h (fun _ _ => rfl) (fun j hj => ⟨updN_n (by omega), updN_n (by omega), pk_un (by omega)⟩) h4 h5
/-- rows are dropped: of ship s, or those whose age is o or more -/
theorem SG_drop {nw ns : Nat} {sw ss : FnN} {sg : Fn} (h4 : nw ≤ 4) (h5 : ns ≤ 5) (s o : Int32) : ∀ {n : Nat} {ag ag' : Fn}, SG nw ns sw ss sg n ag → (∀ w t, w < 4 → t < 5 → ag' (5 * w + t) = if ag (5 * w + t) = -1 then -1 else if nI t = s then -1 else if o ≤ ag (5 * w + t) then -1 else ag (5 * w + t)) → SG nw ns (fun j => sw (d_ix ss sg s o n j)) (fun j => ss (d_ix ss sg s o n j)) (fun j => sg (d_ix ss sg s o n j)) (d_n ss sg s o n) ag'
  | 0, ag, ag', h, ha => fun i hi => by
    have e : i = 5 * (i / 5) + i % 5 := by omega
    rw [e, ha (i / 5) (i % 5) (by omega) (by omega), ← e, if_pos (h i hi)]
  | n + 1, ag, ag', h, ha => by
    obtain ⟨h1, h2, h3, hm, hr⟩ := h
    have hk := ha (sw n) (ss n) (by omega) (by omega)
    rw [h3, if_neg hm] at hk
    have hu : ∀ w t, w < 4 → t < 5 → upd ag' (5 * sw n + ss n) (-1) (5 * w + t) = if upd ag (5 * sw n + ss n) (-1) (5 * w + t) = -1 then -1 else if nI t = s then -1 else if o ≤ upd ag (5 * sw n + ss n) (-1) (5 * w + t) then -1 else upd ag (5 * sw n + ss n) (-1) (5 * w + t) := fun w t hw ht => by
      by_cases e : 5 * w + t = 5 * sw n + ss n
      · rw [e, pk_us, pk_us, if_pos rfl]
      · rw [pk_un e, pk_un e]; exact ha w t hw ht
    have ih := SG_drop h4 h5 s o hr hu
    have out : ag' (5 * sw n + ss n) = -1 → upd ag' (5 * sw n + ss n) (-1) = ag' := fun e => by rw [← e, upd_self]
    rw [d_n]
    by_cases c1 : nI (ss n) = s
    · rw [if_pos c1] at hk ⊢
      rw [out hk] at ih
      refine SG_congr ih (fun _ _ => rfl) (fun j hj => ?_) h4 h5
      rw [d_ix, if_pos c1]; exact ⟨rfl, rfl, rfl⟩
    · rw [if_neg c1] at hk ⊢
      by_cases c2 : o ≤ sg n
      · rw [if_pos c2] at hk ⊢
        rw [out hk] at ih
        refine SG_congr ih (fun _ _ => rfl) (fun j hj => ?_) h4 h5
        rw [d_ix, if_neg c1, if_pos c2]; exact ⟨rfl, rfl, rfl⟩
      · rw [if_neg c2] at hk ⊢
        have e0 : d_ix ss sg s o (n + 1) (d_n ss sg s o n) = n := by rw [d_ix, if_neg c1, if_neg c2, updN_s]
        have e1 : ∀ j, j < d_n ss sg s o n → d_ix ss sg s o (n + 1) j = d_ix ss sg s o n j := fun j hj => by rw [d_ix, if_neg c1, if_neg c2, updN_n (by omega)]
        have f0 : ∀ f : Nat → Nat, f (d_ix ss sg s o (n + 1) (d_n ss sg s o n)) = f n := fun f => by rw [e0]
        have f1 : sg (d_ix ss sg s o (n + 1) (d_n ss sg s o n)) = sg n := by rw [e0]
        refine ⟨Nat.lt_of_le_of_lt (Nat.le_of_eq (f0 sw)) h1, Nat.lt_of_le_of_lt (Nat.le_of_eq (f0 ss)) h2, ?_, fun q => hm (f1.symm.trans q), ?_⟩
        · show ag' (5 * sw (d_ix ss sg s o (n + 1) (d_n ss sg s o n)) + ss (d_ix ss sg s o (n + 1) (d_n ss sg s o n))) = sg (d_ix ss sg s o (n + 1) (d_n ss sg s o n))
          rw [e0]; exact hk
        show SG nw ns _ _ _ (d_n ss sg s o n) (upd ag' (5 * sw (d_ix ss sg s o (n + 1) (d_n ss sg s o n)) + ss (d_ix ss sg s o (n + 1) (d_n ss sg s o n))) (-1))
        rw [e0]
        refine SG_congr ih (fun _ _ => rfl) (fun j hj => ?_) h4 h5
        rw [e1 j hj]; exact ⟨rfl, rfl, rfl⟩
