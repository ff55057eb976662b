abbrev rm_X2_at : Room := { frames := 0, cells := 0, slots := 0, locals := 0 }
set_option maxHeartbeats 4000000 in
set_option maxRecDepth 100000 in
theorem c_X2_at (l : Launch) (E : Ev) (q n : Nat) (a : Fn) (i : Int32) (hn : n < 2147483648) : MI l E yX2_at wsX2_at rm_X2_at [.ref q, .int i] ([(q, aI E n a)]) (f_at n a i) ([(q, aI E n a)]) := by
  refine k_bI (cc := cX2_at) (maxL := 2) (ret := (some .int)) (by decide) rfl (Nat.le_of_ble_eq_true rfl) ?_
  intro p9 e s9 m args below meth c A9 ls hC hl hw
  obtain ⟨hx, hb, hml, hr, hown, hts, hlocks, hK, hG, hA⟩ := hC
  have hl : lv_has ls 2 [(0, .ref q), (1, .int i)] := hl
  refine lv_iload_n hx hb dX2_at_0 rfl (lv_at hl 1 rfl) ?_
  refine lv_if_lt (tgt := 16) hx hb dX2_at_1 (by decide) (fun c_1 => ?_) (fun c_1 => ?_)
  · refine lv_iconst (v := 0) hx hb dX2_at_16 (by decide) ?_
    exact k_iret hx hb hr hlocks hK hw rfl dX2_at_17 (by first | assumption | (simp only [f_at, if_pos c_1, if_true, if_false, Bool.false_eq_true, Bool.true_eq_false, reduceIte, reduceCtorEq]; done) | (simp only [f_at, if_pos c_1, if_true, if_false, Bool.false_eq_true, Bool.true_eq_false, reduceIte, reduceCtorEq]; rfl) | rfl | (simp [f_at, if_pos c_1, if_true, if_false, Bool.false_eq_true, Bool.true_eq_false, reduceIte, reduceCtorEq]; done) | (simp [bI, f_at, c_1]; done)) rfl
  · refine lv_iload_n hx hb dX2_at_4 rfl (lv_at hl 1 rfl) ?_
    refine lv_aload_n hx hb dX2_at_5 rfl (lv_at hl 0 rfl) ?_
    refine k_lenI hx hb hK hw 0 rfl dX2_at_6 ?_
    refine lv_icmp_ge (tgt := 16) hx hb dX2_at_7 (by decide) (fun c_2 => ?_) (fun c_2 => ?_)
    · refine lv_iconst (v := 0) hx hb dX2_at_16 (by decide) ?_
      exact k_iret hx hb hr hlocks hK hw rfl dX2_at_17 (by first | assumption | (simp only [f_at, if_neg c_1, if_pos c_2, if_true, if_false, Bool.false_eq_true, Bool.true_eq_false, reduceIte, reduceCtorEq]; done) | (simp only [f_at, if_neg c_1, if_pos c_2, if_true, if_false, Bool.false_eq_true, Bool.true_eq_false, reduceIte, reduceCtorEq]; rfl) | rfl | (simp [f_at, if_neg c_1, if_pos c_2, if_true, if_false, Bool.false_eq_true, Bool.true_eq_false, reduceIte, reduceCtorEq]; done) | (simp [bI, f_at, c_1, c_2]; done)) rfl
    · refine lv_aload_n hx hb dX2_at_10 rfl (lv_at hl 0 rfl) ?_
      refine lv_iload_n hx hb dX2_at_11 rfl (lv_at hl 1 rfl) ?_
      refine k_ild (f := a) hx hb hK hw 0 rfl (vp_raw (by assumption) (by assumption) (by first | assumption | decide)) rfl dX2_at_12 ?_
      refine lv_goto (tgt := 17) hx hb dX2_at_13 (by decide) ?_
      exact k_iret hx hb hr hlocks hK hw rfl dX2_at_17 (by first | assumption | (simp only [f_at, if_neg c_1, if_neg c_2, if_true, if_false, Bool.false_eq_true, Bool.true_eq_false, reduceIte, reduceCtorEq]; done) | (simp only [f_at, if_neg c_1, if_neg c_2, if_true, if_false, Bool.false_eq_true, Bool.true_eq_false, reduceIte, reduceCtorEq]; rfl) | rfl | (simp [f_at, if_neg c_1, if_neg c_2, if_true, if_false, Bool.false_eq_true, Bool.true_eq_false, reduceIte, reduceCtorEq]; done) | (simp [bI, f_at, c_1, c_2]; done)) rfl
abbrev rm_X2_is : Room := { frames := 0, cells := 0, slots := 0, locals := 0 }
set_option maxHeartbeats 4000000 in
set_option maxRecDepth 100000 in
theorem c_X2_is (l : Launch) (E : Ev) (q n : Nat) (a : FnB) (i : Int32) (hn : n < 2147483648) : MI l E yX2_is wsX2_is rm_X2_is [.ref q, .int i] ([(q, aZ E n a)]) (bI (f_is n a i)) ([(q, aZ E n a)]) := by
  refine k_bI (cc := cX2_is) (maxL := 2) (ret := (some .boolean)) (by decide) rfl (Nat.le_of_ble_eq_true rfl) ?_
  intro p9 e s9 m args below meth c A9 ls hC hl hw
  obtain ⟨hx, hb, hml, hr, hown, hts, hlocks, hK, hG, hA⟩ := hC
  have hl : lv_has ls 2 [(0, .ref q), (1, .int i)] := hl
  refine lv_iload_n hx hb dX2_is_0 rfl (lv_at hl 1 rfl) ?_
  refine lv_if_lt (tgt := 20) hx hb dX2_is_1 (by decide) (fun c_1 => ?_) (fun c_1 => ?_)
  · refine lv_iconst (v := 0) hx hb dX2_is_20 (by decide) ?_
    exact k_iret hx hb hr hlocks hK hw rfl dX2_is_21 (by first | assumption | (simp only [f_is, bI_t, bI_f, if_pos c_1, if_true, if_false, Bool.false_eq_true, Bool.true_eq_false, reduceIte, reduceCtorEq]; done) | (simp only [f_is, bI_t, bI_f, if_pos c_1, if_true, if_false, Bool.false_eq_true, Bool.true_eq_false, reduceIte, reduceCtorEq]; rfl) | rfl | (simp [f_is, bI_t, bI_f, if_pos c_1, if_true, if_false, Bool.false_eq_true, Bool.true_eq_false, reduceIte, reduceCtorEq]; done) | (simp [bI, f_is, bI_t, bI_f, c_1]; done)) rfl
  · refine lv_iload_n hx hb dX2_is_4 rfl (lv_at hl 1 rfl) ?_
    refine lv_aload_n hx hb dX2_is_5 rfl (lv_at hl 0 rfl) ?_
    refine k_lenZ hx hb hK hw 0 rfl dX2_is_6 ?_
    refine lv_icmp_ge (tgt := 20) hx hb dX2_is_7 (by decide) (fun c_2 => ?_) (fun c_2 => ?_)
    · refine lv_iconst (v := 0) hx hb dX2_is_20 (by decide) ?_
      exact k_iret hx hb hr hlocks hK hw rfl dX2_is_21 (by first | assumption | (simp only [f_is, bI_t, bI_f, if_neg c_1, if_pos c_2, if_true, if_false, Bool.false_eq_true, Bool.true_eq_false, reduceIte, reduceCtorEq]; done) | (simp only [f_is, bI_t, bI_f, if_neg c_1, if_pos c_2, if_true, if_false, Bool.false_eq_true, Bool.true_eq_false, reduceIte, reduceCtorEq]; rfl) | rfl | (simp [f_is, bI_t, bI_f, if_neg c_1, if_pos c_2, if_true, if_false, Bool.false_eq_true, Bool.true_eq_false, reduceIte, reduceCtorEq]; done) | (simp [bI, f_is, bI_t, bI_f, c_1, c_2]; done)) rfl
    · refine lv_aload_n hx hb dX2_is_10 rfl (lv_at hl 0 rfl) ?_
      refine lv_iload_n hx hb dX2_is_11 rfl (lv_at hl 1 rfl) ?_
      refine k_zld (f := a) hx hb hK hw 0 rfl (vp_raw (by assumption) (by assumption) (by first | assumption | decide)) dX2_is_12 ?_
      refine lv_if_eq (tgt := 20) hx hb dX2_is_13 (by decide) (fun c_3 => ?_) (fun c_3 => ?_)
      · have c_3 := bI_z c_3
        refine lv_iconst (v := 0) hx hb dX2_is_20 (by decide) ?_
        exact k_iret hx hb hr hlocks hK hw rfl dX2_is_21 (by first | assumption | (simp only [f_is, bI_t, bI_f, if_neg c_1, if_neg c_2, c_3, if_true, if_false, Bool.false_eq_true, Bool.true_eq_false, reduceIte, reduceCtorEq]; done) | (simp only [f_is, bI_t, bI_f, if_neg c_1, if_neg c_2, c_3, if_true, if_false, Bool.false_eq_true, Bool.true_eq_false, reduceIte, reduceCtorEq]; rfl) | rfl | (simp [f_is, bI_t, bI_f, if_neg c_1, if_neg c_2, c_3, if_true, if_false, Bool.false_eq_true, Bool.true_eq_false, reduceIte, reduceCtorEq]; done) | (simp [bI, f_is, bI_t, bI_f, c_1, c_2, c_3]; done)) rfl
      · have c_3 := bI_nz c_3
        refine lv_iconst (v := 1) hx hb dX2_is_16 (by decide) ?_
        refine lv_goto (tgt := 21) hx hb dX2_is_17 (by decide) ?_
        exact k_iret hx hb hr hlocks hK hw rfl dX2_is_21 (by first | assumption | (simp only [f_is, bI_t, bI_f, if_neg c_1, if_neg c_2, c_3, if_true, if_false, Bool.false_eq_true, Bool.true_eq_false, reduceIte, reduceCtorEq]; done) | (simp only [f_is, bI_t, bI_f, if_neg c_1, if_neg c_2, c_3, if_true, if_false, Bool.false_eq_true, Bool.true_eq_false, reduceIte, reduceCtorEq]; rfl) | rfl | (simp [f_is, bI_t, bI_f, if_neg c_1, if_neg c_2, c_3, if_true, if_false, Bool.false_eq_true, Bool.true_eq_false, reduceIte, reduceCtorEq]; done) | (simp [bI, f_is, bI_t, bI_f, c_1, c_2, c_3]; done)) rfl
abbrev rm_X2_put : Room := { frames := 0, cells := 0, slots := 0, locals := 0 }
set_option maxHeartbeats 4000000 in
set_option maxRecDepth 100000 in
theorem c_X2_put (l : Launch) (E : Ev) (q n : Nat) (a : Fn) (i v : Int32) (hn : n < 2147483648) : MV l E yX2_put wsX2_put rm_X2_put [.ref q, .int i, .int v] ([(q, aI E n a)]) ([(q, aI E n (f_put n a i v))]) := by
  refine k_bV (cc := cX2_put) (maxL := 3) (ret := none) (by decide) rfl (Nat.le_of_ble_eq_true rfl) ?_
  intro p9 e s9 m args below meth c A9 ls hC hl hw
  obtain ⟨hx, hb, hml, hr, hown, hts, hlocks, hK, hG, hA⟩ := hC
  have hl : lv_has ls 3 [(0, .ref q), (1, .int i), (2, .int v)] := hl
  refine lv_iload_n hx hb dX2_put_0 rfl (lv_at hl 1 rfl) ?_
  refine lv_if_lt (tgt := 14) hx hb dX2_put_1 (by decide) (fun c_1 => ?_) (fun c_1 => ?_)
  · exact k_vret hx hb hr hlocks hK hw dX2_put_14 (by first | assumption | (simp only [f_put, if_pos c_1, if_true, if_false, Bool.false_eq_true, Bool.true_eq_false, reduceIte, reduceCtorEq]; done) | (simp only [f_put, if_pos c_1, if_true, if_false, Bool.false_eq_true, Bool.true_eq_false, reduceIte, reduceCtorEq]; rfl) | rfl | (simp [f_put, if_pos c_1, if_true, if_false, Bool.false_eq_true, Bool.true_eq_false, reduceIte, reduceCtorEq]; done) | (simp [bI, f_put, c_1]; done))
  · refine lv_iload_n hx hb dX2_put_4 rfl (lv_at hl 1 rfl) ?_
    refine lv_aload_n hx hb dX2_put_5 rfl (lv_at hl 0 rfl) ?_
    refine k_lenI hx hb hK hw 0 rfl dX2_put_6 ?_
    refine lv_icmp_ge (tgt := 14) hx hb dX2_put_7 (by decide) (fun c_2 => ?_) (fun c_2 => ?_)
    · exact k_vret hx hb hr hlocks hK hw dX2_put_14 (by first | assumption | (simp only [f_put, if_neg c_1, if_pos c_2, if_true, if_false, Bool.false_eq_true, Bool.true_eq_false, reduceIte, reduceCtorEq]; done) | (simp only [f_put, if_neg c_1, if_pos c_2, if_true, if_false, Bool.false_eq_true, Bool.true_eq_false, reduceIte, reduceCtorEq]; rfl) | rfl | (simp [f_put, if_neg c_1, if_pos c_2, if_true, if_false, Bool.false_eq_true, Bool.true_eq_false, reduceIte, reduceCtorEq]; done) | (simp [bI, f_put, c_1, c_2]; done))
    · refine lv_aload_n hx hb dX2_put_10 rfl (lv_at hl 0 rfl) ?_
      refine lv_iload_n hx hb dX2_put_11 rfl (lv_at hl 1 rfl) ?_
      refine lv_iload_n hx hb dX2_put_12 rfl (lv_at hl 2 rfl) ?_
      refine k_ist (ws' := [(q, aI E n (upd a i.toNatClampNeg v))]) hx hb hK hw 0 rfl (vp_raw (by assumption) (by assumption) (by first | assumption | decide)) dX2_put_13 rfl (fun H locs hw => ?_)
      exact k_vret hx hb hr hlocks hK hw dX2_put_14 (by first | assumption | (simp only [f_put, if_neg c_1, if_neg c_2, if_true, if_false, Bool.false_eq_true, Bool.true_eq_false, reduceIte, reduceCtorEq]; done) | (simp only [f_put, if_neg c_1, if_neg c_2, if_true, if_false, Bool.false_eq_true, Bool.true_eq_false, reduceIte, reduceCtorEq]; rfl) | rfl | (simp [f_put, if_neg c_1, if_neg c_2, if_true, if_false, Bool.false_eq_true, Bool.true_eq_false, reduceIte, reduceCtorEq]; done) | (simp [bI, f_put, c_1, c_2]; done))
abbrev rm_X2_mark : Room := { frames := 0, cells := 0, slots := 0, locals := 0 }
set_option maxHeartbeats 4000000 in
set_option maxRecDepth 100000 in
theorem c_X2_mark (l : Launch) (E : Ev) (q n : Nat) (a : FnB) (i : Int32) (v : Bool) (hn : n < 2147483648) : MV l E yX2_mark wsX2_mark rm_X2_mark [.ref q, .int i, .int (bI v)] ([(q, aZ E n a)]) ([(q, aZ E n (f_mark n a i v))]) := by
  refine k_bV (cc := cX2_mark) (maxL := 3) (ret := none) (by decide) rfl (Nat.le_of_ble_eq_true rfl) ?_
  intro p9 e s9 m args below meth c A9 ls hC hl hw
  obtain ⟨hx, hb, hml, hr, hown, hts, hlocks, hK, hG, hA⟩ := hC
  have hl : lv_has ls 3 [(0, .ref q), (1, .int i), (2, .int (bI v))] := hl
  refine lv_iload_n hx hb dX2_mark_0 rfl (lv_at hl 1 rfl) ?_
  refine lv_if_lt (tgt := 14) hx hb dX2_mark_1 (by decide) (fun c_1 => ?_) (fun c_1 => ?_)
  · exact k_vret hx hb hr hlocks hK hw dX2_mark_14 (by first | assumption | (simp only [f_mark, if_pos c_1, if_true, if_false, Bool.false_eq_true, Bool.true_eq_false, reduceIte, reduceCtorEq]; done) | (simp only [f_mark, if_pos c_1, if_true, if_false, Bool.false_eq_true, Bool.true_eq_false, reduceIte, reduceCtorEq]; rfl) | rfl | (simp [f_mark, if_pos c_1, if_true, if_false, Bool.false_eq_true, Bool.true_eq_false, reduceIte, reduceCtorEq]; done) | (simp [bI, f_mark, c_1]; done))
  · refine lv_iload_n hx hb dX2_mark_4 rfl (lv_at hl 1 rfl) ?_
    refine lv_aload_n hx hb dX2_mark_5 rfl (lv_at hl 0 rfl) ?_
    refine k_lenZ hx hb hK hw 0 rfl dX2_mark_6 ?_
    refine lv_icmp_ge (tgt := 14) hx hb dX2_mark_7 (by decide) (fun c_2 => ?_) (fun c_2 => ?_)
    · exact k_vret hx hb hr hlocks hK hw dX2_mark_14 (by first | assumption | (simp only [f_mark, if_neg c_1, if_pos c_2, if_true, if_false, Bool.false_eq_true, Bool.true_eq_false, reduceIte, reduceCtorEq]; done) | (simp only [f_mark, if_neg c_1, if_pos c_2, if_true, if_false, Bool.false_eq_true, Bool.true_eq_false, reduceIte, reduceCtorEq]; rfl) | rfl | (simp [f_mark, if_neg c_1, if_pos c_2, if_true, if_false, Bool.false_eq_true, Bool.true_eq_false, reduceIte, reduceCtorEq]; done) | (simp [bI, f_mark, c_1, c_2]; done))
    · refine lv_aload_n hx hb dX2_mark_10 rfl (lv_at hl 0 rfl) ?_
      refine lv_iload_n hx hb dX2_mark_11 rfl (lv_at hl 1 rfl) ?_
      refine lv_iload_n hx hb dX2_mark_12 rfl (lv_at hl 2 rfl) ?_
      refine k_zst (v := v) (ws' := [(q, aZ E n (updB a i.toNatClampNeg v))]) hx hb hK hw 0 rfl (vp_raw (by assumption) (by assumption) (by first | assumption | decide)) dX2_mark_13 rfl (fun H locs hw => ?_)
      exact k_vret hx hb hr hlocks hK hw dX2_mark_14 (by first | assumption | (simp only [f_mark, if_neg c_1, if_neg c_2, if_true, if_false, Bool.false_eq_true, Bool.true_eq_false, reduceIte, reduceCtorEq]; done) | (simp only [f_mark, if_neg c_1, if_neg c_2, if_true, if_false, Bool.false_eq_true, Bool.true_eq_false, reduceIte, reduceCtorEq]; rfl) | rfl | (simp [f_mark, if_neg c_1, if_neg c_2, if_true, if_false, Bool.false_eq_true, Bool.true_eq_false, reduceIte, reduceCtorEq]; done) | (simp [bI, f_mark, c_1, c_2]; done))
abbrev rm_X2_copyRow : Room := { frames := 0, cells := 0, slots := 0, locals := 0 }
set_option maxHeartbeats 4000000 in
set_option maxRecDepth 100000 in
theorem c_X2_copyRow (l : Launch) (E : Ev) (q r n : Nat) (f t : Fn) (hn : n < 2147483648) : MV l E yX2_copyRow wsX2_copyRow rm_X2_copyRow [.ref q, .ref r] ([(q, aI E n f)] ++ [(r, aI E n t)]) ([(q, aI E n f)] ++ [(r, aI E n (l_cpy f t n))]) := by
  refine k_bV (cc := cX2_copyRow) (maxL := 3) (ret := none) (by decide) rfl (Nat.le_of_ble_eq_true rfl) ?_
  intro p9 e s9 m args below meth c A9 ls hC hl hw
  obtain ⟨hx, hb, hml, hr, hown, hts, hlocks, hK, hG, hA⟩ := hC
  have hl : lv_has ls 3 [(0, .ref q), (1, .ref r)] := hl
  refine lv_iconst (v := 0) hx hb dX2_copyRow_0 (by decide) ?_
  refine lv_istore_n (lv' := [(2, .int 0), (0, .ref q), (1, .ref r)]) hx hb dX2_copyRow_1 rfl hl (by decide) rfl (fun ls hl => ?_)
  have L_2 : ∀ (k9 i : Nat) (H : Heap) (locs : List Loc) (ls : Array Slot), i + k9 = n → Wd E A9 s9.heap ([(q, aI E n f)] ++ [(r, aI E n (l_cpy f t i))]) H locs → lv_has ls 3 [(0, .ref q), (1, .ref r), (2, .int (nI i))] → W p9 l e rm_X2_copyRow s9 m args below meth c H locs 0 0 (EndV E A9 ([(q, aI E n f)] ++ [(r, aI E n (l_cpy f t n))]) below args s9 (rm_X2_copyRow).cells (rm_X2_copyRow).slots) (F0 m 2 ls []) := by
    intro k9
    induction k9 with
    | zero =>
      intro i H locs ls hi hw hl
      have hz_1 : n = i := by omega
      refine lv_iload_n hx hb dX2_copyRow_2 rfl (lv_at hl 2 rfl) ?_
      refine lv_aload_n hx hb dX2_copyRow_3 rfl (lv_at hl 0 rfl) ?_
      refine k_lenI hx hb hK hw 0 rfl dX2_copyRow_4 ?_
      refine lv_icmp_ge (tgt := 26) hx hb dX2_copyRow_5 (by decide) (fun _ => ?_) (fun q8 => absurd (by rw [← hz_1]; exact Int32.le_refl _) q8)
      exact k_vret hx hb hr hlocks hK hw dX2_copyRow_26 (by subst hz_1; first | rfl | assumption | (simp only [l_cpy, if_true, if_false, Bool.false_eq_true, Bool.true_eq_false, reduceIte, reduceCtorEq]; done) | (simp only [l_cpy, if_true, if_false, Bool.false_eq_true, Bool.true_eq_false, reduceIte, reduceCtorEq]; rfl) | (simp [l_cpy, if_true, if_false, Bool.false_eq_true, Bool.true_eq_false, reduceIte, reduceCtorEq]; done) | (simp [bI, l_cpy]; done))
    | succ k9 ih_2 =>
      intro i H locs ls hi hw hl
      have hi9 : i < n := by omega
      refine lv_iload_n hx hb dX2_copyRow_2 rfl (lv_at hl 2 rfl) ?_
      refine lv_aload_n hx hb dX2_copyRow_3 rfl (lv_at hl 0 rfl) ?_
      refine k_lenI hx hb hK hw 0 rfl dX2_copyRow_4 ?_
      refine lv_icmp_ge (tgt := 26) hx hb dX2_copyRow_5 (by decide) (fun q8 => absurd q8 (nI_ge (a := i) (b := n) (by omega) (by omega))) (fun _ => ?_)
      refine lv_iload_n hx hb dX2_copyRow_8 rfl (lv_at hl 2 rfl) ?_
      refine lv_aload_n hx hb dX2_copyRow_9 rfl (lv_at hl 1 rfl) ?_
      refine k_lenI hx hb hK hw 1 rfl dX2_copyRow_10 ?_
      refine lv_icmp_ge (tgt := 26) hx hb dX2_copyRow_11 (by decide) (fun q8 => absurd q8 (nI_ge (a := i) (b := n) (by omega) (by omega))) (fun _ => ?_)
      refine lv_aload_n hx hb dX2_copyRow_14 rfl (lv_at hl 1 rfl) ?_
      refine lv_iload_n hx hb dX2_copyRow_15 rfl (lv_at hl 2 rfl) ?_
      refine lv_aload_n hx hb dX2_copyRow_16 rfl (lv_at hl 0 rfl) ?_
      refine lv_iload_n hx hb dX2_copyRow_17 rfl (lv_at hl 2 rfl) ?_
      refine k_ildN (i := i) (f := f) hx hb hK hw 0 rfl (by omega) (by omega) dX2_copyRow_18 ?_
      refine k_istN (i := i) (ws' := [(q, aI E n f)] ++ [(r, aI E n (upd (l_cpy f t i) i (f i)))]) hx hb hK hw 1 rfl (by omega) (by omega) dX2_copyRow_19 rfl (fun H locs hw => ?_)
      refine lv_iinc (v := nI (i + 1)) (lv' := [(2, .int (nI (i + 1))), (0, .ref q), (1, .ref r)]) hx hb dX2_copyRow_20 hl (k := 2) rfl (nI_add i 1) (by decide) rfl (fun ls hl => ?_)
      refine lv_goto (tgt := 2) hx hb dX2_copyRow_23 (by decide) ?_
      exact ih_2 (i + 1) _ _ _ (by omega) (hw.to (by first | rfl | assumption | (simp only [l_cpy, if_true, if_false, Bool.false_eq_true, Bool.true_eq_false, reduceIte, reduceCtorEq]; done) | (simp only [l_cpy, if_true, if_false, Bool.false_eq_true, Bool.true_eq_false, reduceIte, reduceCtorEq]; rfl) | (simp [l_cpy, if_true, if_false, Bool.false_eq_true, Bool.true_eq_false, reduceIte, reduceCtorEq]; done) | (simp [bI, l_cpy]; done))) (lv_sub hl [1, 2, 0] rfl)
  exact L_2 (n - 0) 0 _ _ _ (by omega) hw (lv_sub hl [1, 2, 0] rfl)
abbrev rm_X2_copyMarks : Room := { frames := 0, cells := 0, slots := 0, locals := 0 }
set_option maxHeartbeats 4000000 in
set_option maxRecDepth 100000 in
theorem c_X2_copyMarks (l : Launch) (E : Ev) (q r n : Nat) (f t : FnB) (hn : n < 2147483648) : MV l E yX2_copyMarks wsX2_copyMarks rm_X2_copyMarks [.ref q, .ref r] ([(q, aZ E n f)] ++ [(r, aZ E n t)]) ([(q, aZ E n f)] ++ [(r, aZ E n (l_cpyB f t n))]) := by
  refine k_bV (cc := cX2_copyMarks) (maxL := 3) (ret := none) (by decide) rfl (Nat.le_of_ble_eq_true rfl) ?_
  intro p9 e s9 m args below meth c A9 ls hC hl hw
  obtain ⟨hx, hb, hml, hr, hown, hts, hlocks, hK, hG, hA⟩ := hC
  have hl : lv_has ls 3 [(0, .ref q), (1, .ref r)] := hl
  refine lv_iconst (v := 0) hx hb dX2_copyMarks_0 (by decide) ?_
  refine lv_istore_n (lv' := [(2, .int 0), (0, .ref q), (1, .ref r)]) hx hb dX2_copyMarks_1 rfl hl (by decide) rfl (fun ls hl => ?_)
  have L_2 : ∀ (k9 i : Nat) (H : Heap) (locs : List Loc) (ls : Array Slot), i + k9 = n → Wd E A9 s9.heap ([(q, aZ E n f)] ++ [(r, aZ E n (l_cpyB f t i))]) H locs → lv_has ls 3 [(0, .ref q), (1, .ref r), (2, .int (nI i))] → W p9 l e rm_X2_copyMarks s9 m args below meth c H locs 0 0 (EndV E A9 ([(q, aZ E n f)] ++ [(r, aZ E n (l_cpyB f t n))]) below args s9 (rm_X2_copyMarks).cells (rm_X2_copyMarks).slots) (F0 m 2 ls []) := by
    intro k9
    induction k9 with
    | zero =>
      intro i H locs ls hi hw hl
      have hz_1 : n = i := by omega
      refine lv_iload_n hx hb dX2_copyMarks_2 rfl (lv_at hl 2 rfl) ?_
      refine lv_aload_n hx hb dX2_copyMarks_3 rfl (lv_at hl 0 rfl) ?_
      refine k_lenZ hx hb hK hw 0 rfl dX2_copyMarks_4 ?_
      refine lv_icmp_ge (tgt := 26) hx hb dX2_copyMarks_5 (by decide) (fun _ => ?_) (fun q8 => absurd (by rw [← hz_1]; exact Int32.le_refl _) q8)
      exact k_vret hx hb hr hlocks hK hw dX2_copyMarks_26 (by subst hz_1; first | rfl | assumption | (simp only [l_cpyB, if_true, if_false, Bool.false_eq_true, Bool.true_eq_false, reduceIte, reduceCtorEq]; done) | (simp only [l_cpyB, if_true, if_false, Bool.false_eq_true, Bool.true_eq_false, reduceIte, reduceCtorEq]; rfl) | (simp [l_cpyB, if_true, if_false, Bool.false_eq_true, Bool.true_eq_false, reduceIte, reduceCtorEq]; done) | (simp [bI, l_cpyB]; done))
    | succ k9 ih_2 =>
      intro i H locs ls hi hw hl
      have hi9 : i < n := by omega
      refine lv_iload_n hx hb dX2_copyMarks_2 rfl (lv_at hl 2 rfl) ?_
      refine lv_aload_n hx hb dX2_copyMarks_3 rfl (lv_at hl 0 rfl) ?_
      refine k_lenZ hx hb hK hw 0 rfl dX2_copyMarks_4 ?_
      refine lv_icmp_ge (tgt := 26) hx hb dX2_copyMarks_5 (by decide) (fun q8 => absurd q8 (nI_ge (a := i) (b := n) (by omega) (by omega))) (fun _ => ?_)
      refine lv_iload_n hx hb dX2_copyMarks_8 rfl (lv_at hl 2 rfl) ?_
      refine lv_aload_n hx hb dX2_copyMarks_9 rfl (lv_at hl 1 rfl) ?_
      refine k_lenZ hx hb hK hw 1 rfl dX2_copyMarks_10 ?_
      refine lv_icmp_ge (tgt := 26) hx hb dX2_copyMarks_11 (by decide) (fun q8 => absurd q8 (nI_ge (a := i) (b := n) (by omega) (by omega))) (fun _ => ?_)
      refine lv_aload_n hx hb dX2_copyMarks_14 rfl (lv_at hl 1 rfl) ?_
      refine lv_iload_n hx hb dX2_copyMarks_15 rfl (lv_at hl 2 rfl) ?_
      refine lv_aload_n hx hb dX2_copyMarks_16 rfl (lv_at hl 0 rfl) ?_
      refine lv_iload_n hx hb dX2_copyMarks_17 rfl (lv_at hl 2 rfl) ?_
      refine k_zldN (i := i) (f := f) hx hb hK hw 0 rfl (by omega) (by omega) dX2_copyMarks_18 ?_
      refine k_zstN (i := i) (v := (f i)) (ws' := [(q, aZ E n f)] ++ [(r, aZ E n (updB (l_cpyB f t i) i (f i)))]) hx hb hK hw 1 rfl (by omega) (by omega) dX2_copyMarks_19 rfl (fun H locs hw => ?_)
      refine lv_iinc (v := nI (i + 1)) (lv' := [(2, .int (nI (i + 1))), (0, .ref q), (1, .ref r)]) hx hb dX2_copyMarks_20 hl (k := 2) rfl (nI_add i 1) (by decide) rfl (fun ls hl => ?_)
      refine lv_goto (tgt := 2) hx hb dX2_copyMarks_23 (by decide) ?_
      exact ih_2 (i + 1) _ _ _ (by omega) (hw.to (by first | rfl | assumption | (simp only [l_cpyB, if_true, if_false, Bool.false_eq_true, Bool.true_eq_false, reduceIte, reduceCtorEq]; done) | (simp only [l_cpyB, if_true, if_false, Bool.false_eq_true, Bool.true_eq_false, reduceIte, reduceCtorEq]; rfl) | (simp [l_cpyB, if_true, if_false, Bool.false_eq_true, Bool.true_eq_false, reduceIte, reduceCtorEq]; done) | (simp [bI, l_cpyB]; done))) (lv_sub hl [1, 2, 0] rfl)
  exact L_2 (n - 0) 0 _ _ _ (by omega) hw (lv_sub hl [1, 2, 0] rfl)
abbrev rm_X2_mix : Room := { frames := 0, cells := 0, slots := 0, locals := 0 }
set_option maxHeartbeats 4000000 in
set_option maxRecDepth 100000 in
theorem c_X2_mix (l : Launch) (E : Ev) (d : Int64) (x : Int32) : ML l E yX2_mix wsX2_mix rm_X2_mix [.long d, .int x] ([] : va_W) (f_mix d x) ([] : va_W) := by
  refine k_bL (cc := cX2_mix) (maxL := 3) (ret := (some .long)) (by decide) rfl (Nat.le_of_ble_eq_true rfl) ?_
  intro p9 e s9 m args below meth c A9 ls hC hl hw
  obtain ⟨hx, hb, hml, hr, hown, hts, hlocks, hK, hG, hA⟩ := hC
  have hl : lv_has ls 3 [(0, .long d), (2, .int x)] := hl
  refine lv_lload_n hx hb dX2_mix_0 rfl (lv_at hl 0 rfl) ?_
  refine lv_ldc2 (v := 31) hx hb hown (hts (.constantLong RX2 227 31) (by decide +kernel)) dX2_mix_1 ?_
  refine lv_lmul hx hb dX2_mix_4 ?_
  refine lv_iload_n hx hb dX2_mix_5 rfl (lv_at hl 1 rfl) ?_
  refine lv_i2l (v := (x : Int32).toInt64) hx hb dX2_mix_6 rfl ?_
  refine lv_ladd hx hb dX2_mix_7 ?_
  exact k_lret hx hb hr hlocks hK hw dX2_mix_8 (by first | rfl | assumption | (simp only [f_mix, if_true, if_false, Bool.false_eq_true, Bool.true_eq_false, reduceIte, reduceCtorEq]; done) | (simp only [f_mix, if_true, if_false, Bool.false_eq_true, Bool.true_eq_false, reduceIte, reduceCtorEq]; rfl) | (simp [f_mix, if_true, if_false, Bool.false_eq_true, Bool.true_eq_false, reduceIte, reduceCtorEq]; done) | (simp [bI, f_mix]; done)) rfl
abbrev rm_X2_one : Room := { frames := 0, cells := 0, slots := 0, locals := 0 }
set_option maxHeartbeats 4000000 in
set_option maxRecDepth 100000 in
theorem c_X2_one (l : Launch) (E : Ev) (b : Bool) : MI l E yX2_one wsX2_one rm_X2_one [.int (bI b)] ([] : va_W) (bI b) ([] : va_W) := by
  refine k_bI (cc := cX2_one) (maxL := 1) (ret := (some .int)) (by decide) rfl (Nat.le_of_ble_eq_true rfl) ?_
  intro p9 e s9 m args below meth c A9 ls hC hl hw
  obtain ⟨hx, hb, hml, hr, hown, hts, hlocks, hK, hG, hA⟩ := hC
  have hl : lv_has ls 1 [(0, .int (bI b))] := hl
  refine lv_iload_n hx hb dX2_one_0 rfl (lv_at hl 0 rfl) ?_
  refine lv_if_eq (tgt := 8) hx hb dX2_one_1 (by decide) (fun c_1 => ?_) (fun c_1 => ?_)
  · have c_1 := bI_z c_1
    refine lv_iconst (v := 0) hx hb dX2_one_8 (by decide) ?_
    exact k_iret hx hb hr hlocks hK hw rfl dX2_one_9 (by first | assumption | (simp only [bI_t, bI_f, c_1, if_true, if_false, Bool.false_eq_true, Bool.true_eq_false, reduceIte, reduceCtorEq]; done) | (simp only [bI_t, bI_f, c_1, if_true, if_false, Bool.false_eq_true, Bool.true_eq_false, reduceIte, reduceCtorEq]; rfl) | rfl | (simp [bI_t, bI_f, c_1, if_true, if_false, Bool.false_eq_true, Bool.true_eq_false, reduceIte, reduceCtorEq]; done) | (simp [bI, bI_t, bI_f, c_1]; done)) rfl
  · have c_1 := bI_nz c_1
    refine lv_iconst (v := 1) hx hb dX2_one_4 (by decide) ?_
    refine lv_goto (tgt := 9) hx hb dX2_one_5 (by decide) ?_
    exact k_iret hx hb hr hlocks hK hw rfl dX2_one_9 (by first | assumption | (simp only [bI_t, bI_f, c_1, if_true, if_false, Bool.false_eq_true, Bool.true_eq_false, reduceIte, reduceCtorEq]; done) | (simp only [bI_t, bI_f, c_1, if_true, if_false, Bool.false_eq_true, Bool.true_eq_false, reduceIte, reduceCtorEq]; rfl) | rfl | (simp [bI_t, bI_f, c_1, if_true, if_false, Bool.false_eq_true, Bool.true_eq_false, reduceIte, reduceCtorEq]; done) | (simp [bI, bI_t, bI_f, c_1]; done)) rfl
abbrev rm_X1_enterShip : Room := { frames := 1, cells := 0, slots := 0, locals := 22 }
set_option maxHeartbeats 4000000 in
set_option maxRecDepth 100000 in
theorem c_X1_enterShip (l : Launch) (E : Ev) (B : Nat → Nat) (G : HS) (x : Int32) : MI l E yX1_enterShip wsX1_enterShip rm_X1_enterShip [.ref (B 0), .int x] (wG E B G) (nI (g_sc G)) (wG E B (f_eship G x)) := by
  refine k_bI (cc := cX1_enterShip) (maxL := 3) (ret := (some .int)) (by decide) rfl (Nat.le_of_ble_eq_true rfl) ?_
  intro p9 e s9 m args below meth c A9 ls hC hl hw
  obtain ⟨hx, hb, hml, hr, hown, hts, hlocks, hK, hG, hA⟩ := hC
  have hf28 := hts (.fieldLink RX1 28 "SailorCandles$Harbour" "shipCount" "I") (List.mem_of_getElem? (i := 1) rfl)
  have hinX1 : ∀ w ∈ wsX10, w ∈ wsX1_enterShip := fun w h => List.mem_cons_of_mem _ (List.mem_append_right _ h)
  have hf9 := hts (.fieldLink RX1 9 "SailorCandles$Harbour" "masts" "[I") (List.mem_of_getElem? (i := 2) rfl)
  have hq3 := hts (.initialized RX2) (List.mem_of_getElem? (i := 4) rfl)
  have hq4 := hts (.static yX2_put) (List.mem_of_getElem? (i := 3) rfl)
  have hl : lv_has ls 3 [(0, .ref (B 0)), (1, .int x)] := hl
  refine lv_aload_n hx hb dX1_enterShip_0 rfl (lv_at hl 0 rfl) ?_
  refine k_get (ci := 1) (v := .int (nI (g_sc G))) (C := RX1) (T := TX1) (N := 8) hx hb hown hK hw hts hinX1 0 rfl rfl 0 (by decide) hf28 rfl dX1_enterShip_1 ?_
  refine lv_istore_n (lv' := [(2, .int (nI (g_sc G))), (0, .ref (B 0)), (1, .int x)]) hx hb dX1_enterShip_4 rfl hl (by decide) rfl (fun ls hl => ?_)
  refine lv_aload_n hx hb dX1_enterShip_5 rfl (lv_at hl 1 rfl) ?_
  refine k_get (ci := 1) (v := .ref (B 1)) (C := RX1) (T := TX1) (N := 8) hx hb hown hK hw hts hinX1 0 rfl rfl 3 (by decide) hf9 rfl dX1_enterShip_6 ?_
  refine lv_iload_n hx hb dX1_enterShip_9 rfl (lv_at hl 0 rfl) ?_
  refine lv_iload_n hx hb dX1_enterShip_10 rfl (lv_at hl 2 rfl) ?_
  refine kr_v (ws' := wG E B (h_ma G (f_put 5 (g_ma G) (nI (g_sc G)) x))) (va_runSN (As := [.ref (B 1), .int (nI (g_sc G)), .int x]) (rest := []) ⟨hx, hb, hml, hown, hts⟩ (c_X2_put l E (B 1) 5 (g_ma G) (nI (g_sc G)) x (by decide) _) ⟨va_cnB 3 hts ggX1_enterShip_X2_put rfl rfl rfl (hG.nw 21 (w := .methodLinkNest RX1 32 yX2_put "SailorCandles") rfl) hq3 hd_X2_put ⟨Nat.le_of_ble_eq_true rfl, Nat.le_of_ble_eq_true rfl⟩, hq4, trivial⟩ (rpS (AV := [.ref (B 1), .int (nI (g_sc G)), .int x]) hw hK hG rp_1) rfl rfl hl.1 rfl (lv_room (Nat.le_of_ble_eq_true rfl)) dX1_enterShip_11 ⟨Nat.le_of_ble_eq_true rfl, Nat.le_of_ble_eq_true rfl⟩) hw hA rp_0 (fun H locs hw => ?_)
  refine lv_aload_n hx hb dX1_enterShip_14 rfl (lv_at hl 1 rfl) ?_
  refine lv_dup hx hb dX1_enterShip_15 rfl ?_
  refine k_get (ci := 1) (v := .int (nI (g_sc G))) (C := RX1) (T := TX1) (N := 8) hx hb hown hK hw hts hinX1 0 rfl rfl 0 (by decide) hf28 rfl dX1_enterShip_16 ?_
  refine lv_iconst (v := 1) hx hb dX1_enterShip_19 (by decide) ?_
  refine k_iaddN (a := g_sc G) (b := 1) hx hb dX1_enterShip_20 ?_
  refine k_put (ci := 1) (C := RX1) (T := TX1) (N := 8) (ws' := wG E B (h_sc (h_ma G (f_put 5 (g_ma G) (nI (g_sc G)) x)) ((g_sc G) + 1))) hx hb hown hK hw hts hinX1 tyX1 tyX1_ok nmX1 0 rfl rfl 0 (by decide) hf28 rfl rfl (Nat.le_of_ble_eq_true rfl) dX1_enterShip_21 rfl (fun H locs hw => ?_)
  refine lv_iload_n hx hb dX1_enterShip_24 rfl (lv_at hl 0 rfl) ?_
  exact k_iret hx hb hr hlocks hK hw rfl dX1_enterShip_25 rfl rfl
abbrev rm_X1_enterSailor : Room := { frames := 1, cells := 0, slots := 0, locals := 22 }
set_option maxHeartbeats 4000000 in
set_option maxRecDepth 100000 in
theorem c_X1_enterSailor (l : Launch) (E : Ev) (B : Nat → Nat) (G : HS) (s x : Int32) (v : Bool) : MI l E yX1_enterSailor wsX1_enterSailor rm_X1_enterSailor [.ref (B 0), .int s, .int x, .int (bI v)] (wG E B G) (nI (g_pc G)) (wG E B (f_esail G s x v)) := by
  refine k_bI (cc := cX1_enterSailor) (maxL := 5) (ret := (some .int)) (by decide) rfl (Nat.le_of_ble_eq_true rfl) ?_
  intro p9 e s9 m args below meth c A9 ls hC hl hw
  obtain ⟨hx, hb, hml, hr, hown, hts, hlocks, hK, hG, hA⟩ := hC
  have hf36 := hts (.fieldLink RX1 36 "SailorCandles$Harbour" "sailorCount" "I") (List.mem_of_getElem? (i := 1) rfl)
  have hinX1 : ∀ w ∈ wsX10, w ∈ wsX1_enterSailor := fun w h => List.mem_cons_of_mem _ (List.mem_append_right _ h)
  have hf15 := hts (.fieldLink RX1 15 "SailorCandles$Harbour" "ship" "[I") (List.mem_of_getElem? (i := 2) rfl)
  have hq3 := hts (.initialized RX2) (List.mem_of_getElem? (i := 6) rfl)
  have hq4 := hts (.static yX2_put) (List.mem_of_getElem? (i := 5) rfl)
  have hf18 := hts (.fieldLink RX1 18 "SailorCandles$Harbour" "mast" "[I") (List.mem_of_getElem? (i := 3) rfl)
  have hf21 := hts (.fieldLink RX1 21 "SailorCandles$Harbour" "voter" "[Z") (List.mem_of_getElem? (i := 4) rfl)
  have hq7 := hts (.static yX2_mark) (List.mem_of_getElem? (i := 8) rfl)
  have hl : lv_has ls 5 [(0, .ref (B 0)), (1, .int s), (2, .int x), (3, .int (bI v))] := hl
  refine lv_aload_n hx hb dX1_enterSailor_0 rfl (lv_at hl 0 rfl) ?_
  refine k_get (ci := 1) (v := .int (nI (g_pc G))) (C := RX1) (T := TX1) (N := 8) hx hb hown hK hw hts hinX1 0 rfl rfl 1 (by decide) hf36 rfl dX1_enterSailor_1 ?_
  refine lv_istore (lv' := [(4, .int (nI (g_pc G))), (0, .ref (B 0)), (1, .int s), (2, .int x), (3, .int (bI v))]) hx hb dX1_enterSailor_4 hl (by decide) rfl (fun ls hl => ?_)
  refine lv_aload_n hx hb dX1_enterSailor_6 rfl (lv_at hl 1 rfl) ?_
  refine k_get (ci := 1) (v := .ref (B 2)) (C := RX1) (T := TX1) (N := 8) hx hb hown hK hw hts hinX1 0 rfl rfl 4 (by decide) hf15 rfl dX1_enterSailor_7 ?_
  refine lv_iload hx hb dX1_enterSailor_10 (lv_at hl 0 rfl) ?_
  refine lv_iload_n hx hb dX1_enterSailor_12 rfl (lv_at hl 2 rfl) ?_
  refine kr_v (ws' := wG E B (h_sh G (f_put 16 (g_sh G) (nI (g_pc G)) s))) (va_runSN (As := [.ref (B 2), .int (nI (g_pc G)), .int s]) (rest := []) ⟨hx, hb, hml, hown, hts⟩ (c_X2_put l E (B 2) 16 (g_sh G) (nI (g_pc G)) s (by decide) _) ⟨va_cnB 3 hts ggX1_enterSailor_X2_put rfl rfl rfl (hG.nw 21 (w := .methodLinkNest RX1 32 yX2_put "SailorCandles") rfl) hq3 hd_X2_put ⟨Nat.le_of_ble_eq_true rfl, Nat.le_of_ble_eq_true rfl⟩, hq4, trivial⟩ (rpS (AV := [.ref (B 2), .int (nI (g_pc G)), .int s]) hw hK hG rp_3) rfl rfl hl.1 rfl (lv_room (Nat.le_of_ble_eq_true rfl)) dX1_enterSailor_13 ⟨Nat.le_of_ble_eq_true rfl, Nat.le_of_ble_eq_true rfl⟩) hw hA rp_2 (fun H locs hw => ?_)
  refine lv_aload_n hx hb dX1_enterSailor_16 rfl (lv_at hl 1 rfl) ?_
  refine k_get (ci := 1) (v := .ref (B 3)) (C := RX1) (T := TX1) (N := 8) hx hb hown hK hw hts hinX1 0 rfl rfl 5 (by decide) hf18 rfl dX1_enterSailor_17 ?_
  refine lv_iload hx hb dX1_enterSailor_20 (lv_at hl 0 rfl) ?_
  refine lv_iload_n hx hb dX1_enterSailor_22 rfl (lv_at hl 3 rfl) ?_
  refine kr_v (ws' := wG E B (h_mt (h_sh G (f_put 16 (g_sh G) (nI (g_pc G)) s)) (f_put 16 (g_mt G) (nI (g_pc G)) x))) (va_runSN (As := [.ref (B 3), .int (nI (g_pc G)), .int x]) (rest := []) ⟨hx, hb, hml, hown, hts⟩ (c_X2_put l E (B 3) 16 (g_mt G) (nI (g_pc G)) x (by decide) _) ⟨va_cnB 3 hts ggX1_enterSailor_X2_put rfl rfl rfl (hG.nw 21 (w := .methodLinkNest RX1 32 yX2_put "SailorCandles") rfl) hq3 hd_X2_put ⟨Nat.le_of_ble_eq_true rfl, Nat.le_of_ble_eq_true rfl⟩, hq4, trivial⟩ (rpS (AV := [.ref (B 3), .int (nI (g_pc G)), .int x]) hw hK hG rp_5) rfl rfl hl.1 rfl (lv_room (Nat.le_of_ble_eq_true rfl)) dX1_enterSailor_23 ⟨Nat.le_of_ble_eq_true rfl, Nat.le_of_ble_eq_true rfl⟩) hw hA rp_4 (fun H locs hw => ?_)
  refine lv_aload_n hx hb dX1_enterSailor_26 rfl (lv_at hl 1 rfl) ?_
  refine k_get (ci := 1) (v := .ref (B 4)) (C := RX1) (T := TX1) (N := 8) hx hb hown hK hw hts hinX1 0 rfl rfl 6 (by decide) hf21 rfl dX1_enterSailor_27 ?_
  refine lv_iload hx hb dX1_enterSailor_30 (lv_at hl 0 rfl) ?_
  refine lv_iload_n hx hb dX1_enterSailor_32 rfl (lv_at hl 4 rfl) ?_
  refine kr_v (ws' := wG E B (h_vo (h_mt (h_sh G (f_put 16 (g_sh G) (nI (g_pc G)) s)) (f_put 16 (g_mt G) (nI (g_pc G)) x)) (f_mark 16 (g_vo G) (nI (g_pc G)) v))) (va_runSN (As := [.ref (B 4), .int (nI (g_pc G)), .int (bI v)]) (rest := []) ⟨hx, hb, hml, hown, hts⟩ (c_X2_mark l E (B 4) 16 (g_vo G) (nI (g_pc G)) v (by decide) _) ⟨va_cnB 3 hts ggX1_enterSailor_X2_mark rfl rfl rfl (hG.nw 22 (w := .methodLinkNest RX1 39 yX2_mark "SailorCandles") rfl) hq3 hd_X2_mark ⟨Nat.le_of_ble_eq_true rfl, Nat.le_of_ble_eq_true rfl⟩, hq7, trivial⟩ (rpS (AV := [.ref (B 4), .int (nI (g_pc G)), .int (bI v)]) hw hK hG rp_7) rfl rfl hl.1 rfl (lv_room (Nat.le_of_ble_eq_true rfl)) dX1_enterSailor_33 ⟨Nat.le_of_ble_eq_true rfl, Nat.le_of_ble_eq_true rfl⟩) hw hA rp_6 (fun H locs hw => ?_)
  refine lv_aload_n hx hb dX1_enterSailor_36 rfl (lv_at hl 1 rfl) ?_
  refine lv_dup hx hb dX1_enterSailor_37 rfl ?_
  refine k_get (ci := 1) (v := .int (nI (g_pc G))) (C := RX1) (T := TX1) (N := 8) hx hb hown hK hw hts hinX1 0 rfl rfl 1 (by decide) hf36 rfl dX1_enterSailor_38 ?_
  refine lv_iconst (v := 1) hx hb dX1_enterSailor_41 (by decide) ?_
  refine k_iaddN (a := g_pc G) (b := 1) hx hb dX1_enterSailor_42 ?_
  refine k_put (ci := 1) (C := RX1) (T := TX1) (N := 8) (ws' := wG E B (h_pc (h_vo (h_mt (h_sh G (f_put 16 (g_sh G) (nI (g_pc G)) s)) (f_put 16 (g_mt G) (nI (g_pc G)) x)) (f_mark 16 (g_vo G) (nI (g_pc G)) v)) ((g_pc G) + 1))) hx hb hown hK hw hts hinX1 tyX1 tyX1_ok nmX1 0 rfl rfl 1 (by decide) hf36 rfl rfl (Nat.le_of_ble_eq_true rfl) dX1_enterSailor_43 rfl (fun H locs hw => ?_)
  refine lv_iload hx hb dX1_enterSailor_46 (lv_at hl 0 rfl) ?_
  exact k_iret hx hb hr hlocks hK hw rfl dX1_enterSailor_48 rfl rfl
abbrev rm_X1_enterWatcher : Room := { frames := 0, cells := 0, slots := 0, locals := 0 }
set_option maxHeartbeats 4000000 in
set_option maxRecDepth 100000 in
theorem c_X1_enterWatcher (l : Launch) (E : Ev) (B : Nat → Nat) (G : HS) : MI l E yX1_enterWatcher wsX1_enterWatcher rm_X1_enterWatcher [.ref (B 0)] (wG E B G) (nI (g_wc G)) (wG E B (f_ewat G)) := by
  refine k_bI (cc := cX1_enterWatcher) (maxL := 2) (ret := (some .int)) (by decide) rfl (Nat.le_of_ble_eq_true rfl) ?_
  intro p9 e s9 m args below meth c A9 ls hC hl hw
  obtain ⟨hx, hb, hml, hr, hown, hts, hlocks, hK, hG, hA⟩ := hC
  have hf43 := hts (.fieldLink RX1 43 "SailorCandles$Harbour" "watcherCount" "I") (List.mem_of_getElem? (i := 1) rfl)
  have hinX1 : ∀ w ∈ wsX10, w ∈ wsX1_enterWatcher := fun w h => List.mem_cons_of_mem _ (List.mem_append_right _ h)
  have hl : lv_has ls 2 [(0, .ref (B 0))] := hl
  refine lv_aload_n hx hb dX1_enterWatcher_0 rfl (lv_at hl 0 rfl) ?_
  refine k_get (ci := 1) (v := .int (nI (g_wc G))) (C := RX1) (T := TX1) (N := 8) hx hb hown hK hw hts hinX1 0 rfl rfl 2 (by decide) hf43 rfl dX1_enterWatcher_1 ?_
  refine lv_istore_n (lv' := [(1, .int (nI (g_wc G))), (0, .ref (B 0))]) hx hb dX1_enterWatcher_4 rfl hl (by decide) rfl (fun ls hl => ?_)
  refine lv_aload_n hx hb dX1_enterWatcher_5 rfl (lv_at hl 1 rfl) ?_
  refine lv_dup hx hb dX1_enterWatcher_6 rfl ?_
  refine k_get (ci := 1) (v := .int (nI (g_wc G))) (C := RX1) (T := TX1) (N := 8) hx hb hown hK hw hts hinX1 0 rfl rfl 2 (by decide) hf43 rfl dX1_enterWatcher_7 ?_
  refine lv_iconst (v := 1) hx hb dX1_enterWatcher_10 (by decide) ?_
  refine k_iaddN (a := g_wc G) (b := 1) hx hb dX1_enterWatcher_11 ?_
  refine k_put (ci := 1) (C := RX1) (T := TX1) (N := 8) (ws' := wG E B (h_wc G ((g_wc G) + 1))) hx hb hown hK hw hts hinX1 tyX1 tyX1_ok nmX1 0 rfl rfl 2 (by decide) hf43 rfl rfl (Nat.le_of_ble_eq_true rfl) dX1_enterWatcher_12 rfl (fun H locs hw => ?_)
  refine lv_iload_n hx hb dX1_enterWatcher_15 rfl (lv_at hl 0 rfl) ?_
  exact k_iret hx hb hr hlocks hK hw rfl dX1_enterWatcher_16 rfl rfl
abbrev rm_X1_shipWith : Room := { frames := 0, cells := 0, slots := 0, locals := 0 }
set_option maxHeartbeats 4000000 in
set_option maxRecDepth 100000 in
theorem c_X1_shipWith (l : Launch) (E : Ev) (B : Nat → Nat) (G : HS) (p : Int32) : MI l E yX1_shipWith wsX1_shipWith rm_X1_shipWith [.ref (B 0), .int p] (wG E B G) (f_ship G p) (wG E B G) := by
  refine k_bI (cc := cX1_shipWith) (maxL := 2) (ret := (some .int)) (by decide) rfl (Nat.le_of_ble_eq_true rfl) ?_
  intro p9 e s9 m args below meth c A9 ls hC hl hw
  obtain ⟨hx, hb, hml, hr, hown, hts, hlocks, hK, hG, hA⟩ := hC
  have hf15 := hts (.fieldLink RX1 15 "SailorCandles$Harbour" "ship" "[I") (List.mem_of_getElem? (i := 1) rfl)
  have hinX1 : ∀ w ∈ wsX10, w ∈ wsX1_shipWith := fun w h => List.mem_cons_of_mem _ (List.mem_append_right _ h)
  have hl : lv_has ls 2 [(0, .ref (B 0)), (1, .int p)] := hl
  refine lv_iload_n hx hb dX1_shipWith_0 rfl (lv_at hl 1 rfl) ?_
  refine lv_if_lt (tgt := 22) hx hb dX1_shipWith_1 (by decide) (fun c_1 => ?_) (fun c_1 => ?_)
  · refine lv_iconst (v := (-1)) hx hb dX1_shipWith_22 (by decide) ?_
    exact k_iret hx hb hr hlocks hK hw rfl dX1_shipWith_23 (by first | assumption | (simp only [f_ship, if_pos c_1, if_true, if_false, Bool.false_eq_true, Bool.true_eq_false, reduceIte, reduceCtorEq]; done) | (simp only [f_ship, if_pos c_1, if_true, if_false, Bool.false_eq_true, Bool.true_eq_false, reduceIte, reduceCtorEq]; rfl) | rfl | (simp [f_ship, if_pos c_1, if_true, if_false, Bool.false_eq_true, Bool.true_eq_false, reduceIte, reduceCtorEq]; done) | (simp [bI, f_ship, c_1]; done)) rfl
  · refine lv_iload_n hx hb dX1_shipWith_4 rfl (lv_at hl 1 rfl) ?_
    refine lv_aload_n hx hb dX1_shipWith_5 rfl (lv_at hl 0 rfl) ?_
    refine k_get (ci := 1) (v := .ref (B 2)) (C := RX1) (T := TX1) (N := 8) hx hb hown hK hw hts hinX1 0 rfl rfl 4 (by decide) hf15 rfl dX1_shipWith_6 ?_
    refine k_lenI hx hb hK hw 2 rfl dX1_shipWith_9 ?_
    refine lv_icmp_ge (tgt := 22) hx hb dX1_shipWith_10 (by decide) (fun c_2 => ?_) (fun c_2 => ?_)
    · refine lv_iconst (v := (-1)) hx hb dX1_shipWith_22 (by decide) ?_
      exact k_iret hx hb hr hlocks hK hw rfl dX1_shipWith_23 (by first | assumption | (simp only [f_ship, if_neg c_1, if_pos c_2, if_true, if_false, Bool.false_eq_true, Bool.true_eq_false, reduceIte, reduceCtorEq]; done) | (simp only [f_ship, if_neg c_1, if_pos c_2, if_true, if_false, Bool.false_eq_true, Bool.true_eq_false, reduceIte, reduceCtorEq]; rfl) | rfl | (simp [f_ship, if_neg c_1, if_pos c_2, if_true, if_false, Bool.false_eq_true, Bool.true_eq_false, reduceIte, reduceCtorEq]; done) | (simp [bI, f_ship, c_1, c_2]; done)) rfl
    · refine lv_aload_n hx hb dX1_shipWith_13 rfl (lv_at hl 0 rfl) ?_
      refine k_get (ci := 1) (v := .ref (B 2)) (C := RX1) (T := TX1) (N := 8) hx hb hown hK hw hts hinX1 0 rfl rfl 4 (by decide) hf15 rfl dX1_shipWith_14 ?_
      refine lv_iload_n hx hb dX1_shipWith_17 rfl (lv_at hl 1 rfl) ?_
      refine k_ild (f := g_sh G) hx hb hK hw 2 rfl (vp_raw (by assumption) (by assumption) (by first | assumption | decide)) rfl dX1_shipWith_18 ?_
      refine lv_goto (tgt := 23) hx hb dX1_shipWith_19 (by decide) ?_
      exact k_iret hx hb hr hlocks hK hw rfl dX1_shipWith_23 (by first | assumption | (simp only [f_ship, if_neg c_1, if_neg c_2, if_true, if_false, Bool.false_eq_true, Bool.true_eq_false, reduceIte, reduceCtorEq]; done) | (simp only [f_ship, if_neg c_1, if_neg c_2, if_true, if_false, Bool.false_eq_true, Bool.true_eq_false, reduceIte, reduceCtorEq]; rfl) | rfl | (simp [f_ship, if_neg c_1, if_neg c_2, if_true, if_false, Bool.false_eq_true, Bool.true_eq_false, reduceIte, reduceCtorEq]; done) | (simp [bI, f_ship, c_1, c_2]; done)) rfl
abbrev rm_X1_clearVotes : Room := { frames := 0, cells := 0, slots := 0, locals := 0 }
set_option maxHeartbeats 4000000 in
set_option maxRecDepth 100000 in
theorem c_X1_clearVotes (l : Launch) (E : Ev) (B : Nat → Nat) (G : HS) (s : Int32) : MV l E yX1_clearVotes wsX1_clearVotes rm_X1_clearVotes [.ref (B 0), .int s] (wG E B G) (wG E B (f_clear G s)) := by
  refine k_bV (cc := cX1_clearVotes) (maxL := 3) (ret := none) (by decide) rfl (Nat.le_of_ble_eq_true rfl) ?_
  intro p9 e s9 m args below meth c A9 ls hC hl hw
  obtain ⟨hx, hb, hml, hr, hown, hts, hlocks, hK, hG, hA⟩ := hC
  have hf15 := hts (.fieldLink RX1 15 "SailorCandles$Harbour" "ship" "[I") (List.mem_of_getElem? (i := 1) rfl)
  have hinX1 : ∀ w ∈ wsX10, w ∈ wsX1_clearVotes := fun w h => List.mem_cons_of_mem _ (List.mem_append_right _ h)
  have hf25 := hts (.fieldLink RX1 25 "SailorCandles$Harbour" "givenUp" "[Z") (List.mem_of_getElem? (i := 2) rfl)
  have hl : lv_has ls 3 [(0, .ref (B 0)), (1, .int s)] := hl
  refine lv_iconst (v := 0) hx hb dX1_clearVotes_0 (by decide) ?_
  refine lv_istore_n (lv' := [(2, .int 0), (0, .ref (B 0)), (1, .int s)]) hx hb dX1_clearVotes_1 rfl hl (by decide) rfl (fun ls hl => ?_)
  have L_2 : ∀ (k9 i : Nat) (H : Heap) (locs : List Loc) (ls : Array Slot), i + k9 = 16 → Wd E A9 s9.heap (wG E B (h_gi G (l_clr (g_sh G) s (g_gi G) i))) H locs → lv_has ls 3 [(0, .ref (B 0)), (1, .int s), (2, .int (nI i))] → W p9 l e rm_X1_clearVotes s9 m args below meth c H locs 0 0 (EndV E A9 (wG E B (f_clear G s)) below args s9 (rm_X1_clearVotes).cells (rm_X1_clearVotes).slots) (F0 m 2 ls []) := by
    intro k9
    induction k9 with
    | zero =>
      intro i H locs ls hi hw hl
      have hz_1 : 16 = i := by omega
      refine lv_iload_n hx hb dX1_clearVotes_2 rfl (lv_at hl 2 rfl) ?_
      refine lv_aload_n hx hb dX1_clearVotes_3 rfl (lv_at hl 0 rfl) ?_
      refine k_get (ci := 1) (v := .ref (B 2)) (C := RX1) (T := TX1) (N := 8) hx hb hown hK hw hts hinX1 0 rfl rfl 4 (by decide) hf15 rfl dX1_clearVotes_4 ?_
      refine k_lenI hx hb hK hw 2 rfl dX1_clearVotes_7 ?_
      refine lv_icmp_ge (tgt := 43) hx hb dX1_clearVotes_8 (by decide) (fun _ => ?_) (fun q8 => absurd (by rw [← hz_1]; exact Int32.le_refl _) q8)
      exact k_vret hx hb hr hlocks hK hw dX1_clearVotes_43 (by subst hz_1; first | rfl | assumption | (simp only [l_clr, if_true, if_false, Bool.false_eq_true, Bool.true_eq_false, reduceIte, reduceCtorEq]; done) | (simp only [l_clr, if_true, if_false, Bool.false_eq_true, Bool.true_eq_false, reduceIte, reduceCtorEq]; rfl) | (simp [l_clr, if_true, if_false, Bool.false_eq_true, Bool.true_eq_false, reduceIte, reduceCtorEq]; done) | (simp [bI, l_clr]; done))
    | succ k9 ih_2 =>
      intro i H locs ls hi hw hl
      have hi9 : i < 16 := by omega
      refine lv_iload_n hx hb dX1_clearVotes_2 rfl (lv_at hl 2 rfl) ?_
      refine lv_aload_n hx hb dX1_clearVotes_3 rfl (lv_at hl 0 rfl) ?_
      refine k_get (ci := 1) (v := .ref (B 2)) (C := RX1) (T := TX1) (N := 8) hx hb hown hK hw hts hinX1 0 rfl rfl 4 (by decide) hf15 rfl dX1_clearVotes_4 ?_
      refine k_lenI hx hb hK hw 2 rfl dX1_clearVotes_7 ?_
      refine lv_icmp_ge (tgt := 43) hx hb dX1_clearVotes_8 (by decide) (fun q8 => absurd q8 (nI_ge (a := i) (b := 16) (by omega) (by omega))) (fun _ => ?_)
      refine lv_iload_n hx hb dX1_clearVotes_11 rfl (lv_at hl 2 rfl) ?_
      refine lv_aload_n hx hb dX1_clearVotes_12 rfl (lv_at hl 0 rfl) ?_
      refine k_get (ci := 1) (v := .ref (B 5)) (C := RX1) (T := TX1) (N := 8) hx hb hown hK hw hts hinX1 0 rfl rfl 7 (by decide) hf25 rfl dX1_clearVotes_13 ?_
      refine k_lenZ hx hb hK hw 5 rfl dX1_clearVotes_16 ?_
      refine lv_icmp_ge (tgt := 43) hx hb dX1_clearVotes_17 (by decide) (fun q8 => absurd q8 (nI_ge (a := i) (b := 16) (by omega) (by omega))) (fun _ => ?_)
      refine lv_aload_n hx hb dX1_clearVotes_20 rfl (lv_at hl 0 rfl) ?_
      refine k_get (ci := 1) (v := .ref (B 2)) (C := RX1) (T := TX1) (N := 8) hx hb hown hK hw hts hinX1 0 rfl rfl 4 (by decide) hf15 rfl dX1_clearVotes_21 ?_
      refine lv_iload_n hx hb dX1_clearVotes_24 rfl (lv_at hl 2 rfl) ?_
      refine k_ildN (i := i) (f := g_sh G) hx hb hK hw 2 rfl (by omega) (by omega) dX1_clearVotes_25 ?_
      refine lv_iload_n hx hb dX1_clearVotes_26 rfl (lv_at hl 1 rfl) ?_
      refine lv_icmp_ne (tgt := 37) hx hb dX1_clearVotes_27 (by decide) (fun c_2 => ?_) (fun c_2 => ?_)
      · refine lv_iinc (v := nI (i + 1)) (lv' := [(2, .int (nI (i + 1))), (0, .ref (B 0)), (1, .int s)]) hx hb dX1_clearVotes_37 hl (k := 2) rfl (nI_add i 1) (by decide) rfl (fun ls hl => ?_)
        refine lv_goto (tgt := 2) hx hb dX1_clearVotes_40 (by decide) ?_
        exact ih_2 (i + 1) _ _ _ (by omega) (hw.to (by first | assumption | (simp only [l_clr, if_neg c_2, if_true, if_false, Bool.false_eq_true, Bool.true_eq_false, reduceIte, reduceCtorEq]; done) | (simp only [l_clr, if_neg c_2, if_true, if_false, Bool.false_eq_true, Bool.true_eq_false, reduceIte, reduceCtorEq]; rfl) | rfl | (simp [l_clr, if_neg c_2, if_true, if_false, Bool.false_eq_true, Bool.true_eq_false, reduceIte, reduceCtorEq]; done) | (simp [bI, l_clr, c_2]; done))) (lv_sub hl [1, 2, 0] rfl)
      · refine lv_aload_n hx hb dX1_clearVotes_30 rfl (lv_at hl 0 rfl) ?_
        refine k_get (ci := 1) (v := .ref (B 5)) (C := RX1) (T := TX1) (N := 8) hx hb hown hK hw hts hinX1 0 rfl rfl 7 (by decide) hf25 rfl dX1_clearVotes_31 ?_
        refine lv_iload_n hx hb dX1_clearVotes_34 rfl (lv_at hl 2 rfl) ?_
        refine lv_iconst (v := 0) hx hb dX1_clearVotes_35 (by decide) ?_
        refine k_zstN (i := i) (v := false) (ws' := wG E B (h_gi (h_gi G (l_clr (g_sh G) s (g_gi G) i)) (updB (l_clr (g_sh G) s (g_gi G) i) i false))) hx hb hK hw 5 rfl (by omega) (by omega) dX1_clearVotes_36 rfl (fun H locs hw => ?_)
        refine lv_iinc (v := nI (i + 1)) (lv' := [(2, .int (nI (i + 1))), (0, .ref (B 0)), (1, .int s)]) hx hb dX1_clearVotes_37 hl (k := 2) rfl (nI_add i 1) (by decide) rfl (fun ls hl => ?_)
        refine lv_goto (tgt := 2) hx hb dX1_clearVotes_40 (by decide) ?_
        exact ih_2 (i + 1) _ _ _ (by omega) (hw.to (by first | assumption | (simp only [l_clr, if_pos c_2, if_true, if_false, Bool.false_eq_true, Bool.true_eq_false, reduceIte, reduceCtorEq]; done) | (simp only [l_clr, if_pos c_2, if_true, if_false, Bool.false_eq_true, Bool.true_eq_false, reduceIte, reduceCtorEq]; rfl) | rfl | (simp [l_clr, if_pos c_2, if_true, if_false, Bool.false_eq_true, Bool.true_eq_false, reduceIte, reduceCtorEq]; done) | (simp [bI, l_clr, c_2]; done))) (lv_sub hl [1, 2, 0] rfl)
  exact L_2 (16 - 0) 0 _ _ _ (by omega) hw (lv_sub hl [1, 2, 0] rfl)
abbrev rm_X1_countOfShip : Room := { frames := 0, cells := 0, slots := 0, locals := 0 }
set_option maxHeartbeats 4000000 in
set_option maxRecDepth 100000 in
theorem c_X1_countOfShip_4 (l : Launch) (E : Ev) (B : Nat → Nat) (G : HS) (s : Int32) : MI l E yX1_countOfShip wsX1_countOfShip rm_X1_countOfShip [.ref (B 0), .ref (B 4), .int s] (wG E B G) (l_cnt (g_sh G) (g_vo G) s 16) (wG E B G) := by
  refine k_bI (cc := cX1_countOfShip) (maxL := 5) (ret := (some .int)) (by decide) rfl (Nat.le_of_ble_eq_true rfl) ?_
  intro p9 e s9 m args below meth c A9 ls hC hl hw
  obtain ⟨hx, hb, hml, hr, hown, hts, hlocks, hK, hG, hA⟩ := hC
  have hf15 := hts (.fieldLink RX1 15 "SailorCandles$Harbour" "ship" "[I") (List.mem_of_getElem? (i := 1) rfl)
  have hinX1 : ∀ w ∈ wsX10, w ∈ wsX1_countOfShip := fun w h => List.mem_cons_of_mem _ (List.mem_append_right _ h)
  have hl : lv_has ls 5 [(0, .ref (B 0)), (1, .ref (B 4)), (2, .int s)] := hl
  refine lv_iconst (v := 0) hx hb dX1_countOfShip_0 (by decide) ?_
  refine lv_istore_n (lv' := [(3, .int 0), (0, .ref (B 0)), (1, .ref (B 4)), (2, .int s)]) hx hb dX1_countOfShip_1 rfl hl (by decide) rfl (fun ls hl => ?_)
  refine lv_iconst (v := 0) hx hb dX1_countOfShip_2 (by decide) ?_
  refine lv_istore (lv' := [(4, .int 0), (3, .int 0), (0, .ref (B 0)), (1, .ref (B 4)), (2, .int s)]) hx hb dX1_countOfShip_3 hl (by decide) rfl (fun ls hl => ?_)
  have L_5 : ∀ (k9 i : Nat) (H : Heap) (locs : List Loc) (ls : Array Slot), i + k9 = 16 → Wd E A9 s9.heap (wG E B G) H locs → lv_has ls 5 [(0, .ref (B 0)), (1, .ref (B 4)), (2, .int s), (3, .int (l_cnt (g_sh G) (g_vo G) s i)), (4, .int (nI i))] → W p9 l e rm_X1_countOfShip s9 m args below meth c H locs 0 0 (EndI E A9 (l_cnt (g_sh G) (g_vo G) s 16) (wG E B G) below args s9 (rm_X1_countOfShip).cells (rm_X1_countOfShip).slots) (F0 m 5 ls []) := by
    intro k9
    induction k9 with
    | zero =>
      intro i H locs ls hi hw hl
      have hz_1 : 16 = i := by omega
      refine lv_iload hx hb dX1_countOfShip_5 (lv_at hl 4 rfl) ?_
      refine lv_aload_n hx hb dX1_countOfShip_7 rfl (lv_at hl 0 rfl) ?_
      refine k_get (ci := 1) (v := .ref (B 2)) (C := RX1) (T := TX1) (N := 8) hx hb hown hK hw hts hinX1 0 rfl rfl 4 (by decide) hf15 rfl dX1_countOfShip_8 ?_
      refine k_lenI hx hb hK hw 2 rfl dX1_countOfShip_11 ?_
      refine lv_icmp_ge (tgt := 49) hx hb dX1_countOfShip_12 (by decide) (fun _ => ?_) (fun q8 => absurd (by rw [← hz_1]; exact Int32.le_refl _) q8)
      refine lv_iload_n hx hb dX1_countOfShip_49 rfl (lv_at hl 3 rfl) ?_
      exact k_iret hx hb hr hlocks hK hw rfl dX1_countOfShip_50 (by subst hz_1; first | rfl | assumption | (simp only [l_cnt, if_true, if_false, Bool.false_eq_true, Bool.true_eq_false, reduceIte, reduceCtorEq]; done) | (simp only [l_cnt, if_true, if_false, Bool.false_eq_true, Bool.true_eq_false, reduceIte, reduceCtorEq]; rfl) | (simp [l_cnt, if_true, if_false, Bool.false_eq_true, Bool.true_eq_false, reduceIte, reduceCtorEq]; done) | (simp [bI, l_cnt]; done)) rfl
    | succ k9 ih_5 =>
      intro i H locs ls hi hw hl
      have hi9 : i < 16 := by omega
      refine lv_iload hx hb dX1_countOfShip_5 (lv_at hl 4 rfl) ?_
      refine lv_aload_n hx hb dX1_countOfShip_7 rfl (lv_at hl 0 rfl) ?_
      refine k_get (ci := 1) (v := .ref (B 2)) (C := RX1) (T := TX1) (N := 8) hx hb hown hK hw hts hinX1 0 rfl rfl 4 (by decide) hf15 rfl dX1_countOfShip_8 ?_
      refine k_lenI hx hb hK hw 2 rfl dX1_countOfShip_11 ?_
      refine lv_icmp_ge (tgt := 49) hx hb dX1_countOfShip_12 (by decide) (fun q8 => absurd q8 (nI_ge (a := i) (b := 16) (by omega) (by omega))) (fun _ => ?_)
      refine lv_iload hx hb dX1_countOfShip_15 (lv_at hl 4 rfl) ?_
      refine lv_aload_n hx hb dX1_countOfShip_17 rfl (lv_at hl 1 rfl) ?_
      refine k_lenZ hx hb hK hw 4 rfl dX1_countOfShip_18 ?_
      refine lv_icmp_ge (tgt := 49) hx hb dX1_countOfShip_19 (by decide) (fun q8 => absurd q8 (nI_ge (a := i) (b := 16) (by omega) (by omega))) (fun _ => ?_)
      refine lv_aload_n hx hb dX1_countOfShip_22 rfl (lv_at hl 0 rfl) ?_
      refine k_get (ci := 1) (v := .ref (B 2)) (C := RX1) (T := TX1) (N := 8) hx hb hown hK hw hts hinX1 0 rfl rfl 4 (by decide) hf15 rfl dX1_countOfShip_23 ?_
      refine lv_iload hx hb dX1_countOfShip_26 (lv_at hl 4 rfl) ?_
      refine k_ildN (i := i) (f := g_sh G) hx hb hK hw 2 rfl (by omega) (by omega) dX1_countOfShip_28 ?_
      refine lv_iload_n hx hb dX1_countOfShip_29 rfl (lv_at hl 2 rfl) ?_
      refine lv_icmp_ne (tgt := 43) hx hb dX1_countOfShip_30 (by decide) (fun c_2 => ?_) (fun c_2 => ?_)
      · refine lv_iinc (v := nI (i + 1)) (lv' := [(4, .int (nI (i + 1))), (0, .ref (B 0)), (1, .ref (B 4)), (2, .int s), (3, .int (l_cnt (g_sh G) (g_vo G) s i))]) hx hb dX1_countOfShip_43 hl (k := 4) rfl (nI_add i 1) (by decide) rfl (fun ls hl => ?_)
        refine lv_goto (tgt := 5) hx hb dX1_countOfShip_46 (by decide) ?_
        exact ih_5 (i + 1) _ _ _ (by omega) hw (by rw [show (.int (l_cnt (g_sh G) (g_vo G) s (i + 1)) : Value) = .int (l_cnt (g_sh G) (g_vo G) s i) from (by first | assumption | (simp only [l_cnt, if_neg c_2, if_true, if_false, Bool.false_eq_true, Bool.true_eq_false, reduceIte, reduceCtorEq]; done) | (simp only [l_cnt, if_neg c_2, if_true, if_false, Bool.false_eq_true, Bool.true_eq_false, reduceIte, reduceCtorEq]; rfl) | rfl | (simp [l_cnt, if_neg c_2, if_true, if_false, Bool.false_eq_true, Bool.true_eq_false, reduceIte, reduceCtorEq]; done) | (simp [bI, l_cnt, c_2]; done))]; exact lv_sub hl [1, 2, 3, 4, 0] rfl)
      · refine lv_aload_n hx hb dX1_countOfShip_33 rfl (lv_at hl 1 rfl) ?_
        refine lv_iload hx hb dX1_countOfShip_34 (lv_at hl 4 rfl) ?_
        refine k_zldN (i := i) (f := g_vo G) hx hb hK hw 4 rfl (by omega) (by omega) dX1_countOfShip_36 ?_
        refine lv_if_eq (tgt := 43) hx hb dX1_countOfShip_37 (by decide) (fun c_3 => ?_) (fun c_3 => ?_)
        · have c_3 := bI_z c_3
          refine lv_iinc (v := nI (i + 1)) (lv' := [(4, .int (nI (i + 1))), (0, .ref (B 0)), (1, .ref (B 4)), (2, .int s), (3, .int (l_cnt (g_sh G) (g_vo G) s i))]) hx hb dX1_countOfShip_43 hl (k := 4) rfl (nI_add i 1) (by decide) rfl (fun ls hl => ?_)
          refine lv_goto (tgt := 5) hx hb dX1_countOfShip_46 (by decide) ?_
          exact ih_5 (i + 1) _ _ _ (by omega) hw (by rw [show (.int (l_cnt (g_sh G) (g_vo G) s (i + 1)) : Value) = .int (l_cnt (g_sh G) (g_vo G) s i) from (by first | assumption | (simp only [l_cnt, if_pos c_2, c_3, if_true, if_false, Bool.false_eq_true, Bool.true_eq_false, reduceIte, reduceCtorEq]; done) | (simp only [l_cnt, if_pos c_2, c_3, if_true, if_false, Bool.false_eq_true, Bool.true_eq_false, reduceIte, reduceCtorEq]; rfl) | rfl | (simp [l_cnt, if_pos c_2, c_3, if_true, if_false, Bool.false_eq_true, Bool.true_eq_false, reduceIte, reduceCtorEq]; done) | (simp [bI, l_cnt, c_2, c_3]; done))]; exact lv_sub hl [1, 2, 3, 4, 0] rfl)
        · have c_3 := bI_nz c_3
          refine lv_iinc (v := (l_cnt (g_sh G) (g_vo G) s i) + 1) (lv' := [(3, .int ((l_cnt (g_sh G) (g_vo G) s i) + 1)), (0, .ref (B 0)), (1, .ref (B 4)), (2, .int s), (4, .int (nI i))]) hx hb dX1_countOfShip_40 hl (k := 3) rfl rfl (by decide) rfl (fun ls hl => ?_)
          refine lv_iinc (v := nI (i + 1)) (lv' := [(4, .int (nI (i + 1))), (3, .int ((l_cnt (g_sh G) (g_vo G) s i) + 1)), (0, .ref (B 0)), (1, .ref (B 4)), (2, .int s)]) hx hb dX1_countOfShip_43 hl (k := 4) rfl (nI_add i 1) (by decide) rfl (fun ls hl => ?_)
          refine lv_goto (tgt := 5) hx hb dX1_countOfShip_46 (by decide) ?_
          exact ih_5 (i + 1) _ _ _ (by omega) hw (by rw [show (.int (l_cnt (g_sh G) (g_vo G) s (i + 1)) : Value) = .int ((l_cnt (g_sh G) (g_vo G) s i) + 1) from (by first | assumption | (simp only [l_cnt, if_pos c_2, c_3, if_true, if_false, Bool.false_eq_true, Bool.true_eq_false, reduceIte, reduceCtorEq]; done) | (simp only [l_cnt, if_pos c_2, c_3, if_true, if_false, Bool.false_eq_true, Bool.true_eq_false, reduceIte, reduceCtorEq]; rfl) | rfl | (simp [l_cnt, if_pos c_2, c_3, if_true, if_false, Bool.false_eq_true, Bool.true_eq_false, reduceIte, reduceCtorEq]; done) | (simp [bI, l_cnt, c_2, c_3]; done))]; exact lv_sub hl [2, 3, 4, 1, 0] rfl)
  exact L_5 (16 - 0) 0 _ _ _ (by omega) hw (lv_sub hl [2, 3, 4, 1, 0] rfl)
set_option maxHeartbeats 4000000 in
set_option maxRecDepth 100000 in
theorem c_X1_countOfShip_5 (l : Launch) (E : Ev) (B : Nat → Nat) (G : HS) (s : Int32) : MI l E yX1_countOfShip wsX1_countOfShip rm_X1_countOfShip [.ref (B 0), .ref (B 5), .int s] (wG E B G) (l_cnt (g_sh G) (g_gi G) s 16) (wG E B G) := by
  refine k_bI (cc := cX1_countOfShip) (maxL := 5) (ret := (some .int)) (by decide) rfl (Nat.le_of_ble_eq_true rfl) ?_
  intro p9 e s9 m args below meth c A9 ls hC hl hw
  obtain ⟨hx, hb, hml, hr, hown, hts, hlocks, hK, hG, hA⟩ := hC
  have hf15 := hts (.fieldLink RX1 15 "SailorCandles$Harbour" "ship" "[I") (List.mem_of_getElem? (i := 1) rfl)
  have hinX1 : ∀ w ∈ wsX10, w ∈ wsX1_countOfShip := fun w h => List.mem_cons_of_mem _ (List.mem_append_right _ h)
  have hl : lv_has ls 5 [(0, .ref (B 0)), (1, .ref (B 5)), (2, .int s)] := hl
  refine lv_iconst (v := 0) hx hb dX1_countOfShip_0 (by decide) ?_
  refine lv_istore_n (lv' := [(3, .int 0), (0, .ref (B 0)), (1, .ref (B 5)), (2, .int s)]) hx hb dX1_countOfShip_1 rfl hl (by decide) rfl (fun ls hl => ?_)
  refine lv_iconst (v := 0) hx hb dX1_countOfShip_2 (by decide) ?_
  refine lv_istore (lv' := [(4, .int 0), (3, .int 0), (0, .ref (B 0)), (1, .ref (B 5)), (2, .int s)]) hx hb dX1_countOfShip_3 hl (by decide) rfl (fun ls hl => ?_)
  have L_5 : ∀ (k9 i : Nat) (H : Heap) (locs : List Loc) (ls : Array Slot), i + k9 = 16 → Wd E A9 s9.heap (wG E B G) H locs → lv_has ls 5 [(0, .ref (B 0)), (1, .ref (B 5)), (2, .int s), (3, .int (l_cnt (g_sh G) (g_gi G) s i)), (4, .int (nI i))] → W p9 l e rm_X1_countOfShip s9 m args below meth c H locs 0 0 (EndI E A9 (l_cnt (g_sh G) (g_gi G) s 16) (wG E B G) below args s9 (rm_X1_countOfShip).cells (rm_X1_countOfShip).slots) (F0 m 5 ls []) := by
    intro k9
    induction k9 with
    | zero =>
      intro i H locs ls hi hw hl
      have hz_1 : 16 = i := by omega
      refine lv_iload hx hb dX1_countOfShip_5 (lv_at hl 4 rfl) ?_
      refine lv_aload_n hx hb dX1_countOfShip_7 rfl (lv_at hl 0 rfl) ?_
      refine k_get (ci := 1) (v := .ref (B 2)) (C := RX1) (T := TX1) (N := 8) hx hb hown hK hw hts hinX1 0 rfl rfl 4 (by decide) hf15 rfl dX1_countOfShip_8 ?_
      refine k_lenI hx hb hK hw 2 rfl dX1_countOfShip_11 ?_
      refine lv_icmp_ge (tgt := 49) hx hb dX1_countOfShip_12 (by decide) (fun _ => ?_) (fun q8 => absurd (by rw [← hz_1]; exact Int32.le_refl _) q8)
      refine lv_iload_n hx hb dX1_countOfShip_49 rfl (lv_at hl 3 rfl) ?_
      exact k_iret hx hb hr hlocks hK hw rfl dX1_countOfShip_50 (by subst hz_1; first | rfl | assumption | (simp only [l_cnt, if_true, if_false, Bool.false_eq_true, Bool.true_eq_false, reduceIte, reduceCtorEq]; done) | (simp only [l_cnt, if_true, if_false, Bool.false_eq_true, Bool.true_eq_false, reduceIte, reduceCtorEq]; rfl) | (simp [l_cnt, if_true, if_false, Bool.false_eq_true, Bool.true_eq_false, reduceIte, reduceCtorEq]; done) | (simp [bI, l_cnt]; done)) rfl
    | succ k9 ih_5 =>
      intro i H locs ls hi hw hl
      have hi9 : i < 16 := by omega
      refine lv_iload hx hb dX1_countOfShip_5 (lv_at hl 4 rfl) ?_
      refine lv_aload_n hx hb dX1_countOfShip_7 rfl (lv_at hl 0 rfl) ?_
      refine k_get (ci := 1) (v := .ref (B 2)) (C := RX1) (T := TX1) (N := 8) hx hb hown hK hw hts hinX1 0 rfl rfl 4 (by decide) hf15 rfl dX1_countOfShip_8 ?_
      refine k_lenI hx hb hK hw 2 rfl dX1_countOfShip_11 ?_
      refine lv_icmp_ge (tgt := 49) hx hb dX1_countOfShip_12 (by decide) (fun q8 => absurd q8 (nI_ge (a := i) (b := 16) (by omega) (by omega))) (fun _ => ?_)
      refine lv_iload hx hb dX1_countOfShip_15 (lv_at hl 4 rfl) ?_
      refine lv_aload_n hx hb dX1_countOfShip_17 rfl (lv_at hl 1 rfl) ?_
      refine k_lenZ hx hb hK hw 5 rfl dX1_countOfShip_18 ?_
      refine lv_icmp_ge (tgt := 49) hx hb dX1_countOfShip_19 (by decide) (fun q8 => absurd q8 (nI_ge (a := i) (b := 16) (by omega) (by omega))) (fun _ => ?_)
      refine lv_aload_n hx hb dX1_countOfShip_22 rfl (lv_at hl 0 rfl) ?_
      refine k_get (ci := 1) (v := .ref (B 2)) (C := RX1) (T := TX1) (N := 8) hx hb hown hK hw hts hinX1 0 rfl rfl 4 (by decide) hf15 rfl dX1_countOfShip_23 ?_
      refine lv_iload hx hb dX1_countOfShip_26 (lv_at hl 4 rfl) ?_
      refine k_ildN (i := i) (f := g_sh G) hx hb hK hw 2 rfl (by omega) (by omega) dX1_countOfShip_28 ?_
      refine lv_iload_n hx hb dX1_countOfShip_29 rfl (lv_at hl 2 rfl) ?_
      refine lv_icmp_ne (tgt := 43) hx hb dX1_countOfShip_30 (by decide) (fun c_2 => ?_) (fun c_2 => ?_)
      · refine lv_iinc (v := nI (i + 1)) (lv' := [(4, .int (nI (i + 1))), (0, .ref (B 0)), (1, .ref (B 5)), (2, .int s), (3, .int (l_cnt (g_sh G) (g_gi G) s i))]) hx hb dX1_countOfShip_43 hl (k := 4) rfl (nI_add i 1) (by decide) rfl (fun ls hl => ?_)
        refine lv_goto (tgt := 5) hx hb dX1_countOfShip_46 (by decide) ?_
        exact ih_5 (i + 1) _ _ _ (by omega) hw (by rw [show (.int (l_cnt (g_sh G) (g_gi G) s (i + 1)) : Value) = .int (l_cnt (g_sh G) (g_gi G) s i) from (by first | assumption | (simp only [l_cnt, if_neg c_2, if_true, if_false, Bool.false_eq_true, Bool.true_eq_false, reduceIte, reduceCtorEq]; done) | (simp only [l_cnt, if_neg c_2, if_true, if_false, Bool.false_eq_true, Bool.true_eq_false, reduceIte, reduceCtorEq]; rfl) | rfl | (simp [l_cnt, if_neg c_2, if_true, if_false, Bool.false_eq_true, Bool.true_eq_false, reduceIte, reduceCtorEq]; done) | (simp [bI, l_cnt, c_2]; done))]; exact lv_sub hl [1, 2, 3, 4, 0] rfl)
      · refine lv_aload_n hx hb dX1_countOfShip_33 rfl (lv_at hl 1 rfl) ?_
        refine lv_iload hx hb dX1_countOfShip_34 (lv_at hl 4 rfl) ?_
        refine k_zldN (i := i) (f := g_gi G) hx hb hK hw 5 rfl (by omega) (by omega) dX1_countOfShip_36 ?_
        refine lv_if_eq (tgt := 43) hx hb dX1_countOfShip_37 (by decide) (fun c_3 => ?_) (fun c_3 => ?_)
        · have c_3 := bI_z c_3
          refine lv_iinc (v := nI (i + 1)) (lv' := [(4, .int (nI (i + 1))), (0, .ref (B 0)), (1, .ref (B 5)), (2, .int s), (3, .int (l_cnt (g_sh G) (g_gi G) s i))]) hx hb dX1_countOfShip_43 hl (k := 4) rfl (nI_add i 1) (by decide) rfl (fun ls hl => ?_)
          refine lv_goto (tgt := 5) hx hb dX1_countOfShip_46 (by decide) ?_
          exact ih_5 (i + 1) _ _ _ (by omega) hw (by rw [show (.int (l_cnt (g_sh G) (g_gi G) s (i + 1)) : Value) = .int (l_cnt (g_sh G) (g_gi G) s i) from (by first | assumption | (simp only [l_cnt, if_pos c_2, c_3, if_true, if_false, Bool.false_eq_true, Bool.true_eq_false, reduceIte, reduceCtorEq]; done) | (simp only [l_cnt, if_pos c_2, c_3, if_true, if_false, Bool.false_eq_true, Bool.true_eq_false, reduceIte, reduceCtorEq]; rfl) | rfl | (simp [l_cnt, if_pos c_2, c_3, if_true, if_false, Bool.false_eq_true, Bool.true_eq_false, reduceIte, reduceCtorEq]; done) | (simp [bI, l_cnt, c_2, c_3]; done))]; exact lv_sub hl [1, 2, 3, 4, 0] rfl)
        · have c_3 := bI_nz c_3
          refine lv_iinc (v := (l_cnt (g_sh G) (g_gi G) s i) + 1) (lv' := [(3, .int ((l_cnt (g_sh G) (g_gi G) s i) + 1)), (0, .ref (B 0)), (1, .ref (B 5)), (2, .int s), (4, .int (nI i))]) hx hb dX1_countOfShip_40 hl (k := 3) rfl rfl (by decide) rfl (fun ls hl => ?_)
          refine lv_iinc (v := nI (i + 1)) (lv' := [(4, .int (nI (i + 1))), (3, .int ((l_cnt (g_sh G) (g_gi G) s i) + 1)), (0, .ref (B 0)), (1, .ref (B 5)), (2, .int s)]) hx hb dX1_countOfShip_43 hl (k := 4) rfl (nI_add i 1) (by decide) rfl (fun ls hl => ?_)
          refine lv_goto (tgt := 5) hx hb dX1_countOfShip_46 (by decide) ?_
          exact ih_5 (i + 1) _ _ _ (by omega) hw (by rw [show (.int (l_cnt (g_sh G) (g_gi G) s (i + 1)) : Value) = .int ((l_cnt (g_sh G) (g_gi G) s i) + 1) from (by first | assumption | (simp only [l_cnt, if_pos c_2, c_3, if_true, if_false, Bool.false_eq_true, Bool.true_eq_false, reduceIte, reduceCtorEq]; done) | (simp only [l_cnt, if_pos c_2, c_3, if_true, if_false, Bool.false_eq_true, Bool.true_eq_false, reduceIte, reduceCtorEq]; rfl) | rfl | (simp [l_cnt, if_pos c_2, c_3, if_true, if_false, Bool.false_eq_true, Bool.true_eq_false, reduceIte, reduceCtorEq]; done) | (simp [bI, l_cnt, c_2, c_3]; done))]; exact lv_sub hl [2, 3, 4, 1, 0] rfl)
  exact L_5 (16 - 0) 0 _ _ _ (by omega) hw (lv_sub hl [2, 3, 4, 1, 0] rfl)
abbrev rm_X1_votersFor : Room := { frames := 1, cells := 0, slots := 0, locals := 24 }
set_option maxHeartbeats 4000000 in
set_option maxRecDepth 100000 in
theorem c_X1_votersFor (l : Launch) (E : Ev) (B : Nat → Nat) (G : HS) (s : Int32) : MI l E yX1_votersFor wsX1_votersFor rm_X1_votersFor [.ref (B 0), .int s] (wG E B G) (f_voters G s) (wG E B G) := by
  refine k_bI (cc := cX1_votersFor) (maxL := 2) (ret := (some .int)) (by decide) rfl (Nat.le_of_ble_eq_true rfl) ?_
  intro p9 e s9 m args below meth c A9 ls hC hl hw
  obtain ⟨hx, hb, hml, hr, hown, hts, hlocks, hK, hG, hA⟩ := hC
  have hf21 := hts (.fieldLink RX1 21 "SailorCandles$Harbour" "voter" "[Z") (List.mem_of_getElem? (i := 1) rfl)
  have hinX1 : ∀ w ∈ wsX10, w ∈ wsX1_votersFor := fun w h => List.mem_cons_of_mem _ (List.mem_append_right _ h)
  have hl : lv_has ls 2 [(0, .ref (B 0)), (1, .int s)] := hl
  refine lv_aload_n hx hb dX1_votersFor_0 rfl (lv_at hl 0 rfl) ?_
  refine lv_aload_n hx hb dX1_votersFor_1 rfl (lv_at hl 0 rfl) ?_
  refine k_get (ci := 1) (v := .ref (B 4)) (C := RX1) (T := TX1) (N := 8) hx hb hown hK hw hts hinX1 0 rfl rfl 6 (by decide) hf21 rfl dX1_votersFor_2 ?_
  refine lv_iload_n hx hb dX1_votersFor_5 rfl (lv_at hl 1 rfl) ?_
  refine kr_i (ws' := wG E B G) (va_runV (As := [.ref (B 4), .int s]) (rest := []) ⟨hx, hb, hml, hown, hts⟩ (c_X1_countOfShip_4 l E B G s  _) (cwV 2 hts gX1_votersFor_X1_countOfShip rfl rfl rfl ⟨rfl, hd_X1_countOfShip⟩ ⟨Nat.le_of_ble_eq_true rfl, Nat.le_of_ble_eq_true rfl⟩) (pwV (ci := 1) (q0 := 0) (C := RX1) hw hK rfl rfl rfl (rpS (AV := [.ref (B 0), .ref (B 4), .int s]) hw hK hG rp_8)) rfl rfl hl.1 rfl (lv_room (Nat.le_of_ble_eq_true rfl)) dX1_votersFor_6 ⟨Nat.le_of_ble_eq_true rfl, Nat.le_of_ble_eq_true rfl⟩) hw hA rp_8 (fun H locs hw => ?_)
  exact k_iret hx hb hr hlocks hK hw rfl dX1_votersFor_9 (by first | rfl | assumption | (simp only [if_true, if_false, Bool.false_eq_true, Bool.true_eq_false, reduceIte, reduceCtorEq]; done) | (simp only [if_true, if_false, Bool.false_eq_true, Bool.true_eq_false, reduceIte, reduceCtorEq]; rfl) | (simp [if_true, if_false, Bool.false_eq_true, Bool.true_eq_false, reduceIte, reduceCtorEq]; done) | (simp [bI, ]; done)) rfl
abbrev rm_X1_votesAgainst : Room := { frames := 1, cells := 0, slots := 0, locals := 24 }
set_option maxHeartbeats 4000000 in
set_option maxRecDepth 100000 in
theorem c_X1_votesAgainst (l : Launch) (E : Ev) (B : Nat → Nat) (G : HS) (s : Int32) : MI l E yX1_votesAgainst wsX1_votesAgainst rm_X1_votesAgainst [.ref (B 0), .int s] (wG E B G) (f_votes G s) (wG E B G) := by
  refine k_bI (cc := cX1_votesAgainst) (maxL := 2) (ret := (some .int)) (by decide) rfl (Nat.le_of_ble_eq_true rfl) ?_
  intro p9 e s9 m args below meth c A9 ls hC hl hw
  obtain ⟨hx, hb, hml, hr, hown, hts, hlocks, hK, hG, hA⟩ := hC
  have hf25 := hts (.fieldLink RX1 25 "SailorCandles$Harbour" "givenUp" "[Z") (List.mem_of_getElem? (i := 1) rfl)
  have hinX1 : ∀ w ∈ wsX10, w ∈ wsX1_votesAgainst := fun w h => List.mem_cons_of_mem _ (List.mem_append_right _ h)
  have hl : lv_has ls 2 [(0, .ref (B 0)), (1, .int s)] := hl
  refine lv_aload_n hx hb dX1_votesAgainst_0 rfl (lv_at hl 0 rfl) ?_
  refine lv_aload_n hx hb dX1_votesAgainst_1 rfl (lv_at hl 0 rfl) ?_
  refine k_get (ci := 1) (v := .ref (B 5)) (C := RX1) (T := TX1) (N := 8) hx hb hown hK hw hts hinX1 0 rfl rfl 7 (by decide) hf25 rfl dX1_votesAgainst_2 ?_
  refine lv_iload_n hx hb dX1_votesAgainst_5 rfl (lv_at hl 1 rfl) ?_
  refine kr_i (ws' := wG E B G) (va_runV (As := [.ref (B 5), .int s]) (rest := []) ⟨hx, hb, hml, hown, hts⟩ (c_X1_countOfShip_5 l E B G s  _) (cwV 2 hts gX1_votesAgainst_X1_countOfShip rfl rfl rfl ⟨rfl, hd_X1_countOfShip⟩ ⟨Nat.le_of_ble_eq_true rfl, Nat.le_of_ble_eq_true rfl⟩) (pwV (ci := 1) (q0 := 0) (C := RX1) hw hK rfl rfl rfl (rpS (AV := [.ref (B 0), .ref (B 5), .int s]) hw hK hG rp_8)) rfl rfl hl.1 rfl (lv_room (Nat.le_of_ble_eq_true rfl)) dX1_votesAgainst_6 ⟨Nat.le_of_ble_eq_true rfl, Nat.le_of_ble_eq_true rfl⟩) hw hA rp_8 (fun H locs hw => ?_)
  exact k_iret hx hb hr hlocks hK hw rfl dX1_votesAgainst_9 (by first | rfl | assumption | (simp only [if_true, if_false, Bool.false_eq_true, Bool.true_eq_false, reduceIte, reduceCtorEq]; done) | (simp only [if_true, if_false, Bool.false_eq_true, Bool.true_eq_false, reduceIte, reduceCtorEq]; rfl) | (simp [if_true, if_false, Bool.false_eq_true, Bool.true_eq_false, reduceIte, reduceCtorEq]; done) | (simp [bI, ]; done)) rfl
abbrev rm_X1_votesToLose : Room := { frames := 2, cells := 0, slots := 0, locals := 45 }
set_option maxHeartbeats 4000000 in
set_option maxRecDepth 100000 in
theorem c_X1_votesToLose (l : Launch) (E : Ev) (B : Nat → Nat) (G : HS) (s : Int32) : MI l E yX1_votesToLose wsX1_votesToLose rm_X1_votesToLose [.ref (B 0), .int s] (wG E B G) (f_vtl G s) (wG E B G) := by
  refine k_bI (cc := cX1_votesToLose) (maxL := 3) (ret := (some .int)) (by decide) rfl (Nat.le_of_ble_eq_true rfl) ?_
  intro p9 e s9 m args below meth c A9 ls hC hl hw
  obtain ⟨hx, hb, hml, hr, hown, hts, hlocks, hK, hG, hA⟩ := hC
  have hq0 := hts (.methodLink RX1 57 Lib.Math.max.name) (List.mem_of_getElem? (i := 1) rfl)
  have hq1 := hts (.static Lib.Math.max.name) (List.mem_of_getElem? (i := 2) rfl)
  have hq2 := hts (.initialized "java/lang/Math") (List.mem_of_getElem? (i := 3) rfl)
  have hq3 := hts (.code Lib.Math.max.name Lib.Math.max.code 2 (some .int)) (List.mem_of_getElem? (i := 4) rfl)
  have hl : lv_has ls 3 [(0, .ref (B 0)), (1, .int s)] := hl
  refine lv_aload_n hx hb dX1_votesToLose_0 rfl (lv_at hl 0 rfl) ?_
  refine lv_iload_n hx hb dX1_votesToLose_1 rfl (lv_at hl 1 rfl) ?_
  refine kr_i (ws' := wG E B G) (va_runV (As := [.int s]) (rest := []) ⟨hx, hb, hml, hown, hts⟩ (c_X1_votersFor l E B G s  _) (cwV 1 hts gX1_votesToLose_X1_votersFor rfl rfl rfl ⟨rfl, hd_X1_votersFor⟩ ⟨Nat.le_of_ble_eq_true rfl, Nat.le_of_ble_eq_true rfl⟩) (pwV (ci := 1) (q0 := 0) (C := RX1) hw hK rfl rfl rfl (rpS (AV := [.ref (B 0), .int s]) hw hK hG rp_8)) rfl rfl hl.1 rfl (lv_room (Nat.le_of_ble_eq_true rfl)) dX1_votesToLose_2 ⟨Nat.le_of_ble_eq_true rfl, Nat.le_of_ble_eq_true rfl⟩) hw hA rp_8 (fun H locs hw => ?_)
  refine lv_iconst (v := 2) hx hb dX1_votesToLose_5 (by decide) ?_
  refine lv_idiv hx hb dX1_votesToLose_6 (by decide) ?_
  refine lv_iconst (v := 1) hx hb dX1_votesToLose_7 (by decide) ?_
  refine lv_iadd hx hb dX1_votesToLose_8 ?_
  refine lv_istore_n (lv' := [(2, .int (((f_voters G s) / 2) + 1)), (0, .ref (B 0)), (1, .int s)]) hx hb dX1_votesToLose_9 rfl hl (by decide) rfl (fun ls hl => ?_)
  refine lv_iconst (v := 0) hx hb dX1_votesToLose_10 (by decide) ?_
  refine lv_iload_n hx hb dX1_votesToLose_11 rfl (lv_at hl 0 rfl) ?_
  refine lv_aload_n hx hb dX1_votesToLose_12 rfl (lv_at hl 1 rfl) ?_
  refine lv_iload_n hx hb dX1_votesToLose_13 rfl (lv_at hl 2 rfl) ?_
  refine kr_i (ws' := wG E B G) (va_runV (As := [.int s]) (rest := [.int (((f_voters G s) / 2) + 1), .int 0]) ⟨hx, hb, hml, hown, hts⟩ (c_X1_votesAgainst l E B G s  _) (cwV 1 hts gX1_votesToLose_X1_votesAgainst rfl rfl rfl ⟨rfl, hd_X1_votesAgainst⟩ ⟨Nat.le_of_ble_eq_true rfl, Nat.le_of_ble_eq_true rfl⟩) (pwV (ci := 1) (q0 := 0) (C := RX1) hw hK rfl rfl rfl (rpS (AV := [.ref (B 0), .int s]) hw hK hG rp_8)) rfl rfl hl.1 rfl (lv_room (Nat.le_of_ble_eq_true rfl)) dX1_votesToLose_14 ⟨Nat.le_of_ble_eq_true rfl, Nat.le_of_ble_eq_true rfl⟩) hw hA rp_8 (fun H locs hw => ?_)
  refine lv_isub hx hb dX1_votesToLose_17 ?_
  refine va_mmax hx hb (by rw [hml]; exact hl.1.symm) hown hq0 hq1 hq2 hq3 (Nat.le_of_ble_eq_true rfl) (Nat.le_of_ble_eq_true rfl) (Nat.le_of_ble_eq_true rfl) (Nat.le_of_ble_eq_true rfl) dX1_votesToLose_18 ?_
  exact k_iret hx hb hr hlocks hK hw rfl dX1_votesToLose_21 (by first | rfl | assumption | (simp only [if_true, if_false, Bool.false_eq_true, Bool.true_eq_false, reduceIte, reduceCtorEq]; done) | (simp only [if_true, if_false, Bool.false_eq_true, Bool.true_eq_false, reduceIte, reduceCtorEq]; rfl) | (simp [if_true, if_false, Bool.false_eq_true, Bool.true_eq_false, reduceIte, reduceCtorEq]; done) | (simp [bI, ]; done)) rfl
