/-! ===== what the law's own harbour answers and does, in words ===== -/
def MOK (M : SM) : Prop := m_ns M ≤ 5 ∧ m_np M ≤ 16 ∧ m_nw M ≤ 4 ∧ m_ng M ≤ 20 ∧ (∀ p, p < m_np M → m_so M p < m_ns M) ∧ ∀ j, j < m_ng M → m_sw M j < m_nw M
def l_tin (ss sw : FnN) (tr : Fn) (s : Nat) : Nat → Int32 | 0 => 0 | i + 1 => if nI (ss i) = nI s then l_tin ss sw tr s i + tr (sw i) else l_tin ss sw tr s i
def l_sig (ss sw : FnN) (w s : Nat) : Nat → Bool | 0 => false | i + 1 => if nI (sw i) = nI w then (if nI (ss i) = nI s then true else l_sig ss sw w s i) else l_sig ss sw w s i
/-- how many are kept, and which -/
def d_n (ss : FnN) (sg : Fn) (s o : Int32) : Nat → Nat | 0 => 0 | i + 1 => if nI (ss i) = s then d_n ss sg s o i else if o ≤ sg i then d_n ss sg s o i else d_n ss sg s o i + 1
def d_ix (ss : FnN) (sg : Fn) (s o : Int32) : Nat → FnN | 0 => fun _ => 0 | i + 1 => if nI (ss i) = s then d_ix ss sg s o i else if o ≤ sg i then d_ix ss sg s o i else updN (d_ix ss sg s o i) (d_n ss sg s o i) i
def f_dropI (M : SM) (s o : Int32) : FnN := d_ix (m_ss M) (m_sg M) s o (m_ng M)
def f_drop (M : SM) (s o : Int32) : SM := mkS (m_ni M) (m_wa M) (m_un M) (m_ns M) (m_np M) (m_nw M) (d_n (m_ss M) (m_sg M) s o (m_ng M)) (m_ma M) (m_st M) (m_ou M) (m_ru M) (m_so M) (m_mt M) (m_vo M) (m_gi M) (m_ca M) (m_tr M) (fun j => m_sw M (f_dropI M s o j)) (fun j => m_ss M (f_dropI M s o j)) (fun j => m_sg M (f_dropI M s o j))
def l_vot (so : FnN) (vo gi : Fn) (s : Nat) (g : Bool) : Nat → Int32 | 0 => 0 | i + 1 => if nI (so i) = nI s then (if vo i = 1 then (if gi i = 1 then l_vot so vo gi s g i + 1 else if g = true then l_vot so vo gi s g i else l_vot so vo gi s g i + 1) else l_vot so vo gi s g i) else l_vot so vo gi s g i
def f_sdark (st : Fn) (so : FnN) (ca : Fn) (p : Nat) : Bool := if st (so p) = 1 then (if ca p = 0 then true else false) else false
def l_sdk (st : Fn) (so : FnN) (ca : Fn) : Nat → Int32 | 0 => 0 | i + 1 => if f_sdark st so ca i = true then l_sdk st so ca i + 1 else l_sdk st so ca i + 0
def f_lB (wa : Int32) : Bool := if 12 ≤ wa then true else false
def f_lca (ca : Fn) (wa : Int32) (p : Nat) : Fn := if 12 ≤ wa then upd ca p 12 else ca
def f_lwa (wa : Int32) : Int32 := if 12 ≤ wa then wa - 12 else wa
def l_en (so : FnN) (s : Nat) (ca : Fn) (wa : Int32) : Nat → Fn × Int32 | 0 => (ca, wa) | i + 1 => if nI (so i) = nI s then (upd (l_en so s ca wa i).1 i 0, (l_en so s ca wa i).2 + (l_en so s ca wa i).1 i) else l_en so s ca wa i
def f_ends (M : SM) (s : Nat) : SM := mkS (m_ni M) ((l_en (m_so M) s (m_ca M) (m_wa M) (m_np M)).2) (m_un M) (m_ns M) (m_np M) (m_nw M) (m_ng (f_drop M (nI s) 99)) (m_ma M) (m_st M) (m_ou M) (upd (m_ru M) s 0) (m_so M) (m_mt M) (m_vo M) (m_gi M) ((l_en (m_so M) s (m_ca M) (m_wa M) (m_np M)).1) (m_tr M) (m_sw (f_drop M (nI s) 99)) (m_ss (f_drop M (nI s) 99)) (m_sg (f_drop M (nI s) 99))
/-- a night: sightings age, watchers are doubted -/
def l_ag (sw : FnN) (tr sg : Fn) : Nat → Fn × Fn | 0 => (tr, sg) | i + 1 => if (l_ag sw tr sg i).2 i + 1 = 3 then (upd (l_ag sw tr sg i).1 (sw i) (if 2 ≤ (l_ag sw tr sg i).1 (sw i) then (l_ag sw tr sg i).1 (sw i) - 2 else 0), upd (l_ag sw tr sg i).2 i ((l_ag sw tr sg i).2 i + 1)) else ((l_ag sw tr sg i).1, upd (l_ag sw tr sg i).2 i ((l_ag sw tr sg i).2 i + 1))
def f_ngA (M : SM) : SM := f_drop (q_sg (q_tr M (l_ag (m_sw M) (m_tr M) (m_sg M) (m_ng M)).1) (l_ag (m_sw M) (m_tr M) (m_sg M) (m_ng M)).2) (-1) 3
/-- bells -/
def l_ub (ss sw : FnN) (tr : Fn) (ng : Nat) (ru : Fn) (un : Int32) : Nat → Fn × Int32 | 0 => (ru, un) | i + 1 => if (l_ub ss sw tr ng ru un i).1 i = 0 then l_ub ss sw tr ng ru un i else if l_tin ss sw tr i ng ≤ 5 then (upd (l_ub ss sw tr ng ru un i).1 i 0, (l_ub ss sw tr ng ru un i).2 + 1) else l_ub ss sw tr ng ru un i
def f_ngB (M : SM) : SM := q_un (q_ru M (l_ub (m_ss M) (m_sw M) (m_tr M) (m_ng M) (m_ru M) (m_un M) (m_ns M)).1) (l_ub (m_ss M) (m_sw M) (m_tr M) (m_ng M) (m_ru M) (m_un M) (m_ns M)).2
/-- candles -/
def f_cd (ca mt : Fn) (i : Nat) : Int32 := if ca i ≤ mt i + 1 then 0 else ca i - mt i - 1
def l_cd (st ru mt : Fn) (so : FnN) (ca : Fn) (wa : Int32) : Nat → Fn × Int32 × Int32 | 0 => (ca, wa, 0) | i + 1 => if st (so i) = 1 then (if ru (so i) = 1 then l_cd st ru mt so ca wa i else if f_cd (l_cd st ru mt so ca wa i).1 mt i = 0 then (f_lca (upd (l_cd st ru mt so ca wa i).1 i (f_cd (l_cd st ru mt so ca wa i).1 mt i)) (l_cd st ru mt so ca wa i).2.1 i, f_lwa (l_cd st ru mt so ca wa i).2.1, if f_lB (l_cd st ru mt so ca wa i).2.1 = true then (l_cd st ru mt so ca wa i).2.2 + 1 else (l_cd st ru mt so ca wa i).2.2) else (upd (l_cd st ru mt so ca wa i).1 i (f_cd (l_cd st ru mt so ca wa i).1 mt i), (l_cd st ru mt so ca wa i).2.1, (l_cd st ru mt so ca wa i).2.2)) else l_cd st ru mt so ca wa i
def f_ngC (M : SM) : SM := q_wa (q_ca M (l_cd (m_st M) (m_ru M) (m_mt M) (m_so M) (m_ca M) (m_wa M) (m_np M)).1) (l_cd (m_st M) (m_ru M) (m_mt M) (m_so M) (m_ca M) (m_wa M) (m_np M)).2.1
/-- nights out, losses -/
def mix9 (M Y : SM) : SM := mkS (m_ni M) (m_wa Y) (m_un M) (m_ns M) (m_np M) (m_nw M) (m_ng Y) (m_ma M) (m_st Y) (m_ou Y) (m_ru Y) (m_so M) (m_mt M) (m_vo M) (m_gi M) (m_ca Y) (m_tr M) (m_sw Y) (m_ss Y) (m_sg Y)
def f_lo1 (X : SM) (i : Nat) : SM := if m_st X i = 1 then (if m_ou X i + 1 < 21 then q_ou X (upd (m_ou X) i (m_ou X i + 1)) else if l_vot (m_so X) (m_vo X) (m_gi X) i false (m_np X) < l_vot (m_so X) (m_vo X) (m_gi X) i true (m_np X) * 2 then f_ends (q_st (q_ou X (upd (m_ou X) i (m_ou X i + 1))) (upd (m_st X) i 2)) i else q_ou X (upd (m_ou X) i (m_ou X i + 1))) else X
def l_lo (M : SM) : Nat → SM | 0 => M | i + 1 => f_lo1 (mix9 M (l_lo M i)) i
def f_ngD (M : SM) : SM := mix9 M (l_lo M (m_ns M))
def f_ngN (M : SM) : Int32 := (l_cd (m_st M) (m_ru M) (m_mt M) (m_so M) (m_ca M) (m_wa M) (m_np M)).2.2
def f_tlD (M : SM) : SM := q_ni (f_ngD M) (m_ni M + 1)
def f_tlC (M : SM) : SM := f_tlD (f_ngC M)
def f_tlB (M : SM) : SM := f_tlC (f_ngB M)
def f_spass (M : SM) : SM := f_tlB (f_ngA M)
def f_spN (M : SM) : Int32 := f_ngN (f_ngB (f_ngA M))
theorem d_n_le (ss : FnN) (sg : Fn) (s o : Int32) : ∀ i, d_n ss sg s o i ≤ i
  | 0 => Nat.le_refl _
  | i + 1 => by
    have := d_n_le ss sg s o i
    rw [d_n]
    split
    · omega
    · split <;> omega
theorem d_ix_lt (ss : FnN) (sg : Fn) (s o : Int32) : ∀ i j, j < d_n ss sg s o i → d_ix ss sg s o i j < i
  | 0, j, h => absurd h (by rw [d_n]; omega)
  | i + 1, j, h => by
    have ih := d_ix_lt ss sg s o i
    rw [d_n] at h
    rw [d_ix]
    by_cases h1 : nI (ss i) = s
    · rw [if_pos h1] at h ⊢
      have := ih j h; omega
    · rw [if_neg h1] at h ⊢
      by_cases h2 : o ≤ sg i
      · rw [if_pos h2] at h ⊢
        have := ih j h; omega
      · rw [if_neg h2] at h ⊢
        by_cases e : j = d_n ss sg s o i
        · rw [updN, if_pos e]; omega
        · rw [updN, if_neg e]
          have := ih j (by omega); omega
theorem g_drop_ni (M : SM) (s o : Int32) : m_ni (f_drop M s o) = m_ni M := rfl
theorem g_drop_wa (M : SM) (s o : Int32) : m_wa (f_drop M s o) = m_wa M := rfl
theorem g_drop_un (M : SM) (s o : Int32) : m_un (f_drop M s o) = m_un M := rfl
theorem g_drop_ns (M : SM) (s o : Int32) : m_ns (f_drop M s o) = m_ns M := rfl
theorem g_drop_np (M : SM) (s o : Int32) : m_np (f_drop M s o) = m_np M := rfl
theorem g_drop_nw (M : SM) (s o : Int32) : m_nw (f_drop M s o) = m_nw M := rfl
theorem g_drop_ng (M : SM) (s o : Int32) : m_ng (f_drop M s o) = d_n (m_ss M) (m_sg M) s o (m_ng M) := rfl
theorem g_drop_ma (M : SM) (s o : Int32) : m_ma (f_drop M s o) = m_ma M := rfl
theorem g_drop_st (M : SM) (s o : Int32) : m_st (f_drop M s o) = m_st M := rfl
theorem g_drop_ou (M : SM) (s o : Int32) : m_ou (f_drop M s o) = m_ou M := rfl
theorem g_drop_ru (M : SM) (s o : Int32) : m_ru (f_drop M s o) = m_ru M := rfl
theorem g_drop_so (M : SM) (s o : Int32) : m_so (f_drop M s o) = m_so M := rfl
theorem g_drop_mt (M : SM) (s o : Int32) : m_mt (f_drop M s o) = m_mt M := rfl
theorem g_drop_vo (M : SM) (s o : Int32) : m_vo (f_drop M s o) = m_vo M := rfl
theorem g_drop_gi (M : SM) (s o : Int32) : m_gi (f_drop M s o) = m_gi M := rfl
theorem g_drop_ca (M : SM) (s o : Int32) : m_ca (f_drop M s o) = m_ca M := rfl
theorem g_drop_tr (M : SM) (s o : Int32) : m_tr (f_drop M s o) = m_tr M := rfl
theorem g_drop_sw (M : SM) (s o : Int32) : m_sw (f_drop M s o) = fun j => m_sw M (f_dropI M s o j) := rfl
theorem g_drop_ss (M : SM) (s o : Int32) : m_ss (f_drop M s o) = fun j => m_ss M (f_dropI M s o j) := rfl
theorem g_drop_sg (M : SM) (s o : Int32) : m_sg (f_drop M s o) = fun j => m_sg M (f_dropI M s o j) := rfl
theorem g_ends_ni (M : SM) (s : Nat) : m_ni (f_ends M s) = m_ni M := rfl
theorem g_ends_wa (M : SM) (s : Nat) : m_wa (f_ends M s) = (l_en (m_so M) s (m_ca M) (m_wa M) (m_np M)).2 := rfl
theorem g_ends_un (M : SM) (s : Nat) : m_un (f_ends M s) = m_un M := rfl
theorem g_ends_ns (M : SM) (s : Nat) : m_ns (f_ends M s) = m_ns M := rfl
theorem g_ends_np (M : SM) (s : Nat) : m_np (f_ends M s) = m_np M := rfl
theorem g_ends_nw (M : SM) (s : Nat) : m_nw (f_ends M s) = m_nw M := rfl
theorem g_ends_ng (M : SM) (s : Nat) : m_ng (f_ends M s) = m_ng (f_drop M (nI s) 99) := rfl
theorem g_ends_ma (M : SM) (s : Nat) : m_ma (f_ends M s) = m_ma M := rfl
theorem g_ends_st (M : SM) (s : Nat) : m_st (f_ends M s) = m_st M := rfl
theorem g_ends_ou (M : SM) (s : Nat) : m_ou (f_ends M s) = m_ou M := rfl
theorem g_ends_ru (M : SM) (s : Nat) : m_ru (f_ends M s) = upd (m_ru M) s 0 := rfl
theorem g_ends_so (M : SM) (s : Nat) : m_so (f_ends M s) = m_so M := rfl
theorem g_ends_mt (M : SM) (s : Nat) : m_mt (f_ends M s) = m_mt M := rfl
theorem g_ends_vo (M : SM) (s : Nat) : m_vo (f_ends M s) = m_vo M := rfl
theorem g_ends_gi (M : SM) (s : Nat) : m_gi (f_ends M s) = m_gi M := rfl
theorem g_ends_ca (M : SM) (s : Nat) : m_ca (f_ends M s) = (l_en (m_so M) s (m_ca M) (m_wa M) (m_np M)).1 := rfl
theorem g_ends_tr (M : SM) (s : Nat) : m_tr (f_ends M s) = m_tr M := rfl
theorem g_ends_sw (M : SM) (s : Nat) : m_sw (f_ends M s) = m_sw (f_drop M (nI s) 99) := rfl
theorem g_ends_ss (M : SM) (s : Nat) : m_ss (f_ends M s) = m_ss (f_drop M (nI s) 99) := rfl
theorem g_ends_sg (M : SM) (s : Nat) : m_sg (f_ends M s) = m_sg (f_drop M (nI s) 99) := rfl
theorem g_mix_ni (M Y : SM) : m_ni (mix9 M Y) = m_ni M := rfl
theorem g_mix_wa (M Y : SM) : m_wa (mix9 M Y) = m_wa Y := rfl
theorem g_mix_un (M Y : SM) : m_un (mix9 M Y) = m_un M := rfl
theorem g_mix_ns (M Y : SM) : m_ns (mix9 M Y) = m_ns M := rfl
theorem g_mix_np (M Y : SM) : m_np (mix9 M Y) = m_np M := rfl
theorem g_mix_nw (M Y : SM) : m_nw (mix9 M Y) = m_nw M := rfl
theorem g_mix_ng (M Y : SM) : m_ng (mix9 M Y) = m_ng Y := rfl
theorem g_mix_ma (M Y : SM) : m_ma (mix9 M Y) = m_ma M := rfl
theorem g_mix_st (M Y : SM) : m_st (mix9 M Y) = m_st Y := rfl
theorem g_mix_ou (M Y : SM) : m_ou (mix9 M Y) = m_ou Y := rfl
theorem g_mix_ru (M Y : SM) : m_ru (mix9 M Y) = m_ru Y := rfl
theorem g_mix_so (M Y : SM) : m_so (mix9 M Y) = m_so M := rfl
theorem g_mix_mt (M Y : SM) : m_mt (mix9 M Y) = m_mt M := rfl
theorem g_mix_vo (M Y : SM) : m_vo (mix9 M Y) = m_vo M := rfl
theorem g_mix_gi (M Y : SM) : m_gi (mix9 M Y) = m_gi M := rfl
theorem g_mix_ca (M Y : SM) : m_ca (mix9 M Y) = m_ca Y := rfl
theorem g_mix_tr (M Y : SM) : m_tr (mix9 M Y) = m_tr M := rfl
theorem g_mix_sw (M Y : SM) : m_sw (mix9 M Y) = m_sw Y := rfl
theorem g_mix_ss (M Y : SM) : m_ss (mix9 M Y) = m_ss Y := rfl
theorem g_mix_sg (M Y : SM) : m_sg (mix9 M Y) = m_sg Y := rfl
theorem MOK_of {A B : SM} (h : MOK A) (h1 : m_ns B = m_ns A) (h2 : m_np B = m_np A) (h3 : m_nw B = m_nw A) (h4 : m_ng B = m_ng A) (h5 : m_so B = m_so A) (h6 : m_sw B = m_sw A) : MOK B := by
  unfold MOK at h ⊢
  rw [h1, h2, h3, h4, h5, h6]
  exact h
theorem MOK_drop {M : SM} (h : MOK M) (s o : Int32) : MOK (f_drop M s o) := by
  obtain ⟨h1, h2, h3, h4, h5, h6⟩ := h
  refine ⟨h1, h2, h3, Nat.le_trans (d_n_le _ _ _ _ _) h4, h5, fun j hj => ?_⟩
  exact h6 _ (d_ix_lt _ _ _ _ _ j hj)
theorem MOK_ends {M : SM} (h : MOK M) (s : Nat) : MOK (f_ends M s) := MOK_of (MOK_drop h (nI s) 99) (g_ends_ns M s) (g_ends_np M s) (g_ends_nw M s) (g_ends_ng M s) (g_ends_so M s) (g_ends_sw M s)
/-- only the nine have changed -/
def is9 (M Y : SM) : Prop := mix9 M Y = Y
theorem is9_of {M Y : SM} (h0 : m_ni Y = m_ni M) (h1 : m_un Y = m_un M) (h2 : m_ns Y = m_ns M) (h3 : m_np Y = m_np M) (h4 : m_nw Y = m_nw M) (h5 : m_ma Y = m_ma M) (h6 : m_so Y = m_so M) (h7 : m_mt Y = m_mt M) (h8 : m_vo Y = m_vo M) (h9 : m_gi Y = m_gi M) (h10 : m_tr Y = m_tr M) : mix9 M Y = Y :=
  SM_ext h0.symm rfl h1.symm h2.symm h3.symm h4.symm rfl h5.symm rfl rfl rfl h6.symm h7.symm h8.symm h9.symm rfl h10.symm rfl rfl rfl
def f_lo2 (X : SM) (i : Nat) : SM := q_ou X (upd (m_ou X) i (m_ou X i + 1))
def f_lo3 (X : SM) (i : Nat) : SM := q_st (f_lo2 X i) (upd (m_st X) i 2)
theorem lo2_is9 {M X : SM} (i : Nat) (h : mix9 M X = X) : mix9 M (f_lo2 X i) = f_lo2 X i := by
  rw [f_lo2, ← h]
  exact is9_of rfl rfl rfl rfl rfl rfl rfl rfl rfl rfl rfl
theorem lo3_is9 {M X : SM} (i : Nat) (h : mix9 M X = X) : mix9 M (f_lo3 X i) = f_lo3 X i := by
  have h2 := lo2_is9 i h
  rw [f_lo3]
  generalize f_lo2 X i = Z at h2
  rw [← h2]
  exact is9_of rfl rfl rfl rfl rfl rfl rfl rfl rfl rfl rfl
theorem ends_is9 {M X : SM} (i : Nat) (h : mix9 M X = X) : mix9 M (f_ends X i) = f_ends X i := by
  rw [← h]
  exact is9_of (g_ends_ni _ _) (g_ends_un _ _) (g_ends_ns _ _) (g_ends_np _ _) (g_ends_nw _ _) (g_ends_ma _ _) (g_ends_so _ _) (g_ends_mt _ _) (g_ends_vo _ _) (g_ends_gi _ _) (g_ends_tr _ _)
theorem lo2_MOK {X : SM} (i : Nat) (h : MOK X) : MOK (f_lo2 X i) := MOK_of h rfl rfl rfl rfl rfl rfl
theorem lo3_MOK {X : SM} (i : Nat) (h : MOK X) : MOK (f_lo3 X i) := MOK_of (lo2_MOK i h) rfl rfl rfl rfl rfl rfl
theorem lo1_ok {M X : SM} (hM : MOK X) (h : mix9 M X = X) (i : Nat) : MOK (f_lo1 X i) ∧ mix9 M (f_lo1 X i) = f_lo1 X i := by
  rw [f_lo1]
  split
  · split
    · exact ⟨lo2_MOK i hM, lo2_is9 i h⟩
    · split
      · exact ⟨MOK_ends (lo3_MOK i hM) i, ends_is9 i (lo3_is9 i h)⟩
      · exact ⟨lo2_MOK i hM, lo2_is9 i h⟩
  · exact ⟨hM, h⟩
theorem mix9_self (M : SM) : mix9 M M = M := is9_of rfl rfl rfl rfl rfl rfl rfl rfl rfl rfl rfl
theorem lo_ok {M : SM} (h : MOK M) : ∀ i, MOK (mix9 M (l_lo M i)) ∧ mix9 M (l_lo M i) = l_lo M i
  | 0 => ⟨by rw [l_lo, mix9_self]; exact h, mix9_self M⟩
  | i + 1 => by
    obtain ⟨h1, h2⟩ := lo_ok h i
    have h3 := lo1_ok (M := M) (X := mix9 M (l_lo M i)) h1 (by rw [h2]; exact h2) i
    rw [l_lo, h3.2]
    exact ⟨h3.1, rfl⟩
theorem MOK_lo {M : SM} (h : MOK M) (i : Nat) : MOK (mix9 M (l_lo M i)) := (lo_ok h i).1
theorem mix_lo {M : SM} (h : MOK M) (i : Nat) : mix9 M (l_lo M (i + 1)) = f_lo1 (mix9 M (l_lo M i)) i := by rw [(lo_ok h (i + 1)).2, l_lo]
theorem MOK_ngA {M : SM} (h : MOK M) : MOK (f_ngA M) := MOK_drop (MOK_of (B := q_sg (q_tr M (l_ag (m_sw M) (m_tr M) (m_sg M) (m_ng M)).1) (l_ag (m_sw M) (m_tr M) (m_sg M) (m_ng M)).2) h rfl rfl rfl rfl rfl rfl) (-1) 3
theorem MOK_ngB {M : SM} (h : MOK M) : MOK (f_ngB M) := MOK_of h rfl rfl rfl rfl rfl rfl
theorem MOK_ngC {M : SM} (h : MOK M) : MOK (f_ngC M) := MOK_of h rfl rfl rfl rfl rfl rfl
theorem MOK_spass {M : SM} (h : MOK M) : MOK (f_spass M) := MOK_of (A := f_ngD (f_ngC (f_ngB (f_ngA M)))) (MOK_lo (MOK_ngC (MOK_ngB (MOK_ngA h))) _) rfl rfl rfl rfl rfl rfl
/-- what is kept of the sightings' rows lies among them -/
theorem drop_part {E : Ev} {w : Nat} {r : Nat → Nat} {f : Nat → Fn} (ss : FnN) (sg : Fn) (s o : Int32) : ∀ i, ∃ wr, (rowsW E w r f i).Perm (rowsW E w (fun j => r (d_ix ss sg s o i j)) (fun j => f (d_ix ss sg s o i j)) (d_n ss sg s o i) ++ wr)
  | 0 => ⟨[], List.Perm.refl _⟩
  | i + 1 => by
    obtain ⟨wr, h⟩ := drop_part (E := E) (w := w) (r := r) (f := f) ss sg s o i
    rw [d_ix, d_n, rowsW]
    by_cases h1 : nI (ss i) = s
    · rw [if_pos h1, if_pos h1]
      exact ⟨(r i, aI E w (f i)) :: wr, (List.Perm.cons _ h).trans List.perm_middle.symm⟩
    · rw [if_neg h1, if_neg h1]
      by_cases h2 : o ≤ sg i
      · rw [if_pos h2, if_pos h2]
        exact ⟨(r i, aI E w (f i)) :: wr, (List.Perm.cons _ h).trans List.perm_middle.symm⟩
      · rw [if_neg h2, if_neg h2]
        refine ⟨wr, ?_⟩
        rw [rowsW]
        have e1 : updN (d_ix ss sg s o i) (d_n ss sg s o i) i (d_n ss sg s o i) = i := if_pos rfl
        have e2 : rowsW E w (fun j => r (updN (d_ix ss sg s o i) (d_n ss sg s o i) i j)) (fun j => f (updN (d_ix ss sg s o i) (d_n ss sg s o i) i j)) (d_n ss sg s o i) = rowsW E w (fun j => r (d_ix ss sg s o i j)) (fun j => f (d_ix ss sg s o i j)) (d_n ss sg s o i) := rows_congr (fun j hj => by
          have e3 : updN (d_ix ss sg s o i) (d_n ss sg s o i) i j = d_ix ss sg s o i j := if_neg (by omega)
          rw [e3]; exact ⟨rfl, rfl⟩)
        rw [e2, e1]
        exact List.Perm.cons _ h
/-- the sightings' outer row has been made anew, out of some of the old one's -/
theorem drop_S {E : Ev} {A : Nat → Prop} {H0 H : Heap} {locs : List Loc} {q u : Nat} {P : AP} {M : SM} {s o : Int32} (hw : Wd E A H0 (wSo E q P M [.int (m_ni M), .int (m_wa M), .int (m_un M), .ref (P.1 1), .ref (P.1 2), .ref (P.1 3), .ref u] ++ [(u, aQ E (d_n (m_ss M) (m_sg M) s o (m_ng M)) (fun j => some (P.2.2.2 (d_ix (m_ss M) (m_sg M) s o (m_ng M) j))))]) H locs) :
    Wd E A H0 (wS E q (updN P.1 4 u, P.2.1, P.2.2.1, fun j => P.2.2.2 (f_dropI M s o j)) (f_drop M s o)) H locs := by
  obtain ⟨wr, h⟩ := drop_part (E := E) (w := 3) (r := P.2.2.2) (f := row3 M) (m_ss M) (m_sg M) s o (m_ng M)
  refine hw.part (wr := (P.1 4, aQ E (m_ng M) (fun j => some (P.2.2.2 j))) :: wr) (perm9 (fun a => ?_))
  have h' := cnt9_perm (a := a) h
  rw [cnt9_app] at h'
  show cnt9 a (((q, .inr (3, [.int (m_ni M), .int (m_wa M), .int (m_un M), .ref (P.1 1), .ref (P.1 2), .ref (P.1 3), .ref u])) :: (P.1 1, aQ E (m_ns M) (fun j => some (P.2.1 j))) :: (P.1 2, aQ E (m_np M) (fun j => some (P.2.2.1 j))) :: (P.1 3, aI E (m_nw M) (m_tr M)) :: (P.1 4, aQ E (m_ng M) (fun j => some (P.2.2.2 j))) :: (rowsW E 4 P.2.1 (row4 M) (m_ns M) ++ (rowsW E 5 P.2.2.1 (row5 M) (m_np M) ++ rowsW E 3 P.2.2.2 (row3 M) (m_ng M)))) ++ [(u, aQ E (d_n (m_ss M) (m_sg M) s o (m_ng M)) (fun j => some (P.2.2.2 (f_dropI M s o j))))]) = cnt9 a (((q, .inr (3, [.int (m_ni M), .int (m_wa M), .int (m_un M), .ref (P.1 1), .ref (P.1 2), .ref (P.1 3), .ref u])) :: (P.1 1, aQ E (m_ns M) (fun j => some (P.2.1 j))) :: (P.1 2, aQ E (m_np M) (fun j => some (P.2.2.1 j))) :: (P.1 3, aI E (m_nw M) (m_tr M)) :: (u, aQ E (d_n (m_ss M) (m_sg M) s o (m_ng M)) (fun j => some (P.2.2.2 (f_dropI M s o j)))) :: (rowsW E 4 P.2.1 (row4 M) (m_ns M) ++ (rowsW E 5 P.2.2.1 (row5 M) (m_np M) ++ rowsW E 3 (fun j => P.2.2.2 (f_dropI M s o j)) (fun j => row3 M (f_dropI M s o j)) (d_n (m_ss M) (m_sg M) s o (m_ng M))))) ++ ((P.1 4, aQ E (m_ng M) (fun j => some (P.2.2.2 j))) :: wr))
  have h2 : cnt9 a (rowsW E 3 P.2.2.2 (row3 M) (m_ng M)) = cnt9 a (rowsW E 3 (fun j => P.2.2.2 (f_dropI M s o j)) (fun j => row3 M (f_dropI M s o j)) (d_n (m_ss M) (m_sg M) s o (m_ng M))) + cnt9 a wr := h'
  simp only [cnt9_app, cnt9_cons, cnt9_nil]
  omega
theorem nQ_ext {r : Nat → Nat} {ix : FnN} {n i : Nat} : (fun j => if j = n then some (r i) else some (r (ix j))) = fun j => some (r (updN ix n i j)) := by
  funext j
  by_cases e : j = n
  · rw [if_pos e, updN, if_pos e]
  · rw [if_neg e, updN, if_neg e]
theorem lo1_a {X : SM} {i : Nat} (h : ¬ m_st X i = 1) : X = f_lo1 X i := by rw [f_lo1, if_neg h]
theorem lo1_b {X : SM} {i : Nat} (h : m_st X i = 1) (h2 : m_ou X i + 1 < 21) : q_ou X (upd (m_ou X) i (m_ou X i + 1)) = f_lo1 X i := by rw [f_lo1, if_pos h, if_pos h2]
theorem lo1_c {X : SM} {i : Nat} (h : m_st X i = 1) (h2 : ¬ m_ou X i + 1 < 21) (h3 : ¬ l_vot (m_so X) (m_vo X) (m_gi X) i false (m_np X) < l_vot (m_so X) (m_vo X) (m_gi X) i true (m_np X) * 2) : q_ou X (upd (m_ou X) i (m_ou X i + 1)) = f_lo1 X i := by rw [f_lo1, if_pos h, if_neg h2, if_neg h3]
theorem lo1_d {X : SM} {i : Nat} (h : m_st X i = 1) (h2 : ¬ m_ou X i + 1 < 21) (h3 : l_vot (m_so X) (m_vo X) (m_gi X) i false (m_np X) < l_vot (m_so X) (m_vo X) (m_gi X) i true (m_np X) * 2) : f_ends (q_st (q_ou X (upd (m_ou X) i (m_ou X i + 1))) (upd (m_st X) i 2)) i = f_lo1 X i := by rw [f_lo1, if_pos h, if_neg h2, if_pos h3]
theorem rows_fst {E : Ev} {w : Nat} {r : Nat → Nat} {f g : Nat → Fn} : ∀ n, (rowsW E w r f n).map Prod.fst = (rowsW E w r g n).map Prod.fst
  | 0 => rfl
  | n + 1 => by rw [rowsW, rowsW, List.map_cons, List.map_cons, rows_fst n]
theorem wS_fst {E : Ev} {q : Nat} {P : AP} {V S : SM} (h : m_ns V = m_ns S ∧ m_np V = m_np S ∧ m_ng V = m_ng S) : (wS E q P V).map Prod.fst = (wS E q P S).map Prod.fst := by
  obtain ⟨h1, h2, h3⟩ := h
  rw [wS_cut, wS_cut]
  simp only [List.map_append]
  rw [h1, h2, h3, rows_fst (f := row4 V) (g := row4 S), rows_fst (f := row5 V) (g := row5 S), rows_fst (f := row3 V) (g := row3 S)]
  rfl
theorem wS_eq {E : Ev} {q : Nat} {P : AP} {M M' : SM} (h : M = M') : wS E q P M = wS E q P M' := by rw [h]
section KIOR
variable {p : Program} {l : Launch} {e : Env} {R : Room} {s : State} {m : MethodId} {args : Array Value} {below : List Frame} {meth : Method} {c : Code} {H : Heap} {locs : List Loc} {cells slots : Nat} {Q : State → Prop}
variable {cc : ByteArray} {pc : Nat} {ls : Array Slot} {rest : List Value}
theorem k_iorT (hx : p.tables.exec = Jvm.exec) (hb : c.code = cc) {b : Bool} (hdg : decode cc pc = .ok (.ior, 1)) (kk : W p l e R s m args below meth c H locs cells slots Q (F0 m (pc + 1) ls (.int (bI true) :: rest))) : W p l e R s m args below meth c H locs cells slots Q (F0 m pc ls (.int 1 :: .int (bI b) :: rest)) :=
  lv_ior hx hb hdg (by rw [show bI b ||| 1 = bI true from by cases b <;> decide]; exact kk)
theorem k_iorF (hx : p.tables.exec = Jvm.exec) (hb : c.code = cc) {b : Bool} (hdg : decode cc pc = .ok (.ior, 1)) (kk : W p l e R s m args below meth c H locs cells slots Q (F0 m (pc + 1) ls (.int (bI b) :: rest))) : W p l e R s m args below meth c H locs cells slots Q (F0 m pc ls (.int 0 :: .int (bI b) :: rest)) :=
  lv_ior hx hb hdg (by rw [show bI b ||| 0 = bI b from by cases b <;> decide]; exact kk)
end KIOR
