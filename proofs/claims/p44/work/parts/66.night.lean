/-! ===== a night: losses, and all of it ===== -/
theorem le2021 (x : Int32) : x ≤ 20 ↔ x < 21 := by
  rw [Int32.le_iff_toInt_le, Int32.lt_iff_toInt_lt]
  show x.toInt ≤ 20 ↔ x.toInt < (21 : Int)
  omega
theorem RR_MOK {B : Nat} {G : HS} {S : CS} {M : SM} (h : RA B G S M) : MOK M := by
  obtain ⟨hH, -, -, -, -, -, -, hsg, -⟩ := h
  have n5 : m_ns M ≤ 5 := hH.1.2.2.2.1
  have n4 : m_nw M ≤ 4 := hH.1.2.2.2.2.2
  exact ⟨n5, hH.1.2.2.2.2.1, n4, (SG_scnt n4 n5 hsg).2, fun p hp => (HR_so hH hp).1, fun j hj => (SG_bd hsg j hj).1⟩
theorem RR_le {B B' : Nat} {G : HS} {S : CS} {M : SM} (h : RR B G S M) (hb : B ≤ B') : RR B' G S M := by
  obtain ⟨⟨h1, h2, h3, h4, h5, h6, h7, h8, h9, h10, h11, h12⟩, lb⟩ := h
  exact ⟨⟨h1, h2, h3, h4, h5, h6, h7, h8, h9, Ino_le h10 hb, Ino_le h11 hb, h12⟩, lb⟩
theorem RR_ou {B : Nat} {G : HS} {S : CS} {M : SM} (h : RR B G S M) (s : Nat) (v : Int32) : RR B G (p_ou S (upd (c_ou S) s v)) (q_ou M (upd (m_ou M) s v)) := by
  obtain ⟨⟨h1, h2, h3, h4, h5, h6, h7, h8, h9, h10, h11, h12⟩, lb⟩ := h
  exact ⟨⟨h1, h2, Iou_up h3 s v, h4, h5, h6, h7, h8, h9, h10, h11, h12⟩, lb⟩
def ZL (S T : CS) : Prop := (∃ s, s < 5 ∧ c_st S s = 1 ∧ c_st T s = 2) ∨ ∃ o, T = p_ou S o
theorem loss_ok {B : Nat} {G : HS} {S : CS} {M : SM} (h : RR B G S M) : ∀ i, i ≤ 5 → RR (B + 192 * i) G (l_loss G S i) (l_lo M (min i (m_ns M))) ∧ c_un (l_loss G S i) = c_un S ∧ ZL S (l_loss G S i) ∧ ∀ s, i ≤ s → s < 5 → c_st (l_loss G S i) s = c_st S s
  | 0, _ => ⟨by rw [Nat.zero_min]; exact h, rfl, .inr ⟨c_ou S, rfl⟩, fun _ _ _ => rfl⟩
  | i + 1, q => by
    obtain ⟨h1, h2, h3, h4⟩ := loss_ok h i (by omega)
    have hi5 : i < 5 := by omega
    have eNS : m_ns (l_lo M (min i (m_ns M))) = m_ns M := h1.1.1.1.1.symm.trans h.1.1.1.1
    rw [l_loss]
    have eS : f_stay (l_loss G S i) (nI i) = c_st (l_loss G S i) i := fstay_n hi5
    have eO : f_at 5 (c_ou (l_loss G S i)) (nI i) = c_ou (l_loss G S i) i := fat hi5 (by omega)
    have eF : f_out1 (l_loss G S i) (nI i) = p_ou (l_loss G S i) (upd (c_ou (l_loss G S i)) i (c_ou (l_loss G S i) i + 1)) := by
      rw [f_out1, eO, fput hi5 (by omega)]
    rw [eS, eO, eF]
    rcases Nat.lt_or_ge i (m_ns M) with hi | hi
    · rw [(min_lo hi).2] at h1 eNS
      rw [(min_lo hi).1, l_lo, (lo_ok (RR_MOK h.1) i).2, f_lo1]
      have x1 : c_st (l_loss G S i) i = m_st (l_lo M i) i := (h1.1.2.1.1 i (by omega)).1
      have x2 : c_ou (l_loss G S i) i = m_ou (l_lo M i) i := h1.1.2.2.1 i (by omega)
      rw [← x1, ← x2]
      have hZ : ∀ T, (∀ s, s < 5 → c_st T s = c_st (l_loss G S i) s) → (∃ o, T = p_ou (l_loss G S i) o) → ZL S T := fun T a b => by
        rcases h3 with ⟨s, k1, k2, k3⟩ | ⟨o, k⟩
        · exact .inl ⟨s, k1, k2, (a s k1).trans k3⟩
        · obtain ⟨o2, b⟩ := b
          exact .inr ⟨o2, by rw [b, k]; rfl⟩
      by_cases c1 : c_st (l_loss G S i) i = 1
      · rw [if_pos c1, if_pos c1]
        have h5 := RR_ou h1 i (c_ou (l_loss G S i) i + 1)
        have hO : RR (B + 192 * (i + 1)) G (p_ou (l_loss G S i) (upd (c_ou (l_loss G S i)) i (c_ou (l_loss G S i) i + 1))) (q_ou (l_lo M i) (upd (m_ou (l_lo M i)) i (c_ou (l_loss G S i) i + 1))) ∧ c_un (p_ou (l_loss G S i) (upd (c_ou (l_loss G S i)) i (c_ou (l_loss G S i) i + 1))) = c_un S ∧ ZL S (p_ou (l_loss G S i) (upd (c_ou (l_loss G S i)) i (c_ou (l_loss G S i) i + 1))) ∧ ∀ s, i + 1 ≤ s → s < 5 → c_st (p_ou (l_loss G S i) (upd (c_ou (l_loss G S i)) i (c_ou (l_loss G S i) i + 1))) s = c_st S s := ⟨RR_le h5 (by omega), h2, hZ _ (fun _ _ => rfl) ⟨_, rfl⟩, fun s a b => h4 s (by omega) b⟩
        by_cases c2 : c_ou (l_loss G S i) i + 1 ≤ 20
        · rw [if_pos c2, if_pos ((le2021 _).mp c2)]
          exact hO
        · rw [if_neg c2, if_neg (fun k => c2 ((le2021 _).mpr k))]
          have hv := vtl_ok h1.1.1 (s := i) hi5
          by_cases c3 : f_vtl G (nI i) = 0
          · rw [if_pos c3, if_pos (hv.mp c3)]
            obtain ⟨e1, e2, e3, -⟩ := end_ok (s := i) (x := 2) h5 (show i < m_ns (l_lo M i) by omega) (.inr rfl)
            refine ⟨RR_le e1 (by omega), e3.trans h2, .inl ⟨i, hi5, ?_, ?_⟩, fun s a b => ?_⟩
            · rw [← h4 i (Nat.le_refl _) hi5]; exact c1
            · rw [e2 i hi5, if_pos rfl]
            · rw [e2 s b, if_neg (by omega)]; exact h4 s (by omega) b
          · rw [if_neg c3, if_neg (fun k => c3 (hv.mpr k))]
            exact hO
      · rw [if_neg c1, if_neg c1]
        exact ⟨RR_le h1 (by omega), h2, h3, fun s a b => h4 s (by omega) b⟩
    · rw [(min_hi (by omega)).2] at h1 eNS
      rw [(min_hi (by omega)).1]
      have x1 : c_st (l_loss G S i) i = 0 := h1.1.2.1.2 i (by omega) hi5
      rw [x1, if_neg (by decide)]
      exact ⟨RR_le h1 (by omega), h2, h3, fun s a b => h4 s (by omega) b⟩
theorem su_tr {ag tr tr' : Fn} {s : Nat} : ∀ {i : Nat}, (∀ w, w < i → ¬ ag (5 * w + s) = -1 → tr w = tr' w) → t_su ag tr s i = t_su ag tr' s i
  | 0, _ => rfl
  | i + 1, h => by
    rw [t_su, t_su, su_tr (i := i) (fun w hw => h w (by omega))]
    by_cases e : ag (5 * i + s) = -1
    · rw [if_pos e, if_pos e]
    · rw [if_neg e, if_neg e, h i (by omega) e]
theorem tin_ok {nw ns n : Nat} {sw ss : FnN} {sg ag ctr mtr : Fn} (h4 : nw ≤ 4) (h5 : ns ≤ 5) (hg : SG nw ns sw ss sg n ag) (ht : Itr nw ctr mtr) {s : Nat} (hs : s < 5) : l_tin ss sw mtr s n = t_su ag ctr s 4 := by
  rw [SG_tin h4 h5 hs hg]
  exact su_tr (fun w hw hn => (ht.1 w (SG_in h4 h5 hg w s (by omega) hs hn).1).symm)
theorem min_5 {n : Nat} (h : n ≤ 5) : min 5 n = n := Nat.min_eq_right h
theorem min_16 {n : Nat} (h : n ≤ 16) : min 16 n = n := Nat.min_eq_right h
theorem nightA_ok {B : Nat} {G : HS} {S : CS} {M : SM} (h : RA B G S M) : RR (B + 5) G (f_nightA S) (f_ngB (f_ngA M)) ∧ c_st (f_nightA S) = c_st S ∧ c_ca (f_nightA S) = c_ca S ∧ c_wa (f_nightA S) = c_wa S ∧ ∃ T1 : Nat → Int32, (∀ s, s < 5 → c_ru (f_nightA S) s = (c_ru S s && decide (6 ≤ T1 s))) ∧ c_un (f_nightA S) = c_un S + l_sb (fun s => c_ru S s && !decide (6 ≤ T1 s)) 5 := by
  obtain ⟨hH, hst, hou, hru, hca, htr, hag, hsg, hni, hwa, hun, l1, l2, l3⟩ := h
  have n5 : m_ns M ≤ 5 := hH.1.2.2.2.1
  have n4 : m_nw M ≤ 4 := hH.1.2.2.2.2.2
  obtain ⟨t, a, e, a1, a2, a3, a4⟩ := age_ok (S := S) (M := M) n4 n5 htr hag hsg
  obtain ⟨r, u, e2, b1, b2, b3, b4⟩ := unr_ok (S := p_ag (p_tr S t) a) (ns := m_ns M) (ng := m_ng (f_ngA M)) (U := B) (sw := m_sw (f_ngA M)) (ss := m_ss (f_ngA M)) (tr := m_tr (f_ngA M)) (ru := m_ru M) (un := m_un M) n5 (fun s hs => tin_ok n4 n5 a3 a1 (by omega)) hru hun 5 (by omega)
  rw [min_5 n5] at b1 b2
  have eA : f_nightA S = p_un (p_ru (p_ag (p_tr S t) a) r) u := by rw [f_nightA, e, e2]
  rw [eA]
  have hT : ∃ T1 : Nat → Int32, T1 = fun s => t_su a t s 4 := ⟨_, rfl⟩
  obtain ⟨T1, hT⟩ := hT
  have hTs : ∀ s, t_su (c_ag (p_ag (p_tr S t) a)) (c_tr (p_ag (p_tr S t) a)) s 4 = T1 s := fun s => by rw [hT]; rfl
  have b3' : ∀ s, s < 5 → r s = (c_ru S s && decide (6 ≤ T1 s)) := fun s hs => by
    rw [b3, if_pos hs, hTs]; rfl
  have b4' : u = c_un S + l_sb (fun s => c_ru S s && !decide (6 ≤ T1 s)) 5 := by
    rw [b4, funext (f := fun s => c_ru (p_ag (p_tr S t) a) s && !decide (6 ≤ t_su (c_ag (p_ag (p_tr S t) a)) (c_tr (p_ag (p_tr S t) a)) s 4)) (g := fun s => c_ru S s && !decide (6 ≤ T1 s)) (fun s => by rw [hTs]; rfl)]
    rfl
  have g1 : HR G (f_ngB (f_ngA M)) := hH
  have g2 : Ist (m_ns (f_ngB (f_ngA M))) (c_st (p_un (p_ru (p_ag (p_tr S t) a) r) u)) (m_st (f_ngB (f_ngA M))) := hst
  sorry
