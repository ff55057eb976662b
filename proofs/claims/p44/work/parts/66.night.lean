/-! ===== a night: losses, and all of it ===== -/
theorem le2021 (x : Int32) : x ≤ 20 ↔ x < 21 := by
  rw [Int32.le_iff_toInt_le, Int32.lt_iff_toInt_lt]
  show x.toInt ≤ 20 ↔ x.toInt < (21 : Int)
  omega
theorem RR_MOK {B : Nat} {G : HS} {S : CS} {M : SM} (h : RA B G S M) : MOK M := by
  obtain ⟨hH, -, -, -, -, -, -, hsg, -⟩ := h
  have n5 : m_ns M ≤ 5 := hH.1.2.2.2.1
  have n4 : m_nw M ≤ 4 := hH.1.2.2.2.2.2
  exact ⟨n5, hH.1.2.2.2.2.1, n4, (SG_scnt n4 n5 hsg).2, fun p hp => (HR_so hH hp).1, fun j hj => (SG_bd hsg j hj).1⟩
theorem RR_le {B B' : Nat} {G : HS} {S : CS} {M : SM} (h : RR B G S M) (hb : B ≤ B') : RR B' G S M := by
  obtain ⟨⟨h1, h2, h3, h4, h5, h6, h7, h8, h9, h10, h11, h12⟩, lb⟩ := h
  exact ⟨⟨h1, h2, h3, h4, h5, h6, h7, h8, h9, Ino_le h10 hb, Ino_le h11 hb, h12⟩, lb⟩
theorem RR_ou {B : Nat} {G : HS} {S : CS} {M : SM} (h : RR B G S M) {s : Nat} (hs : s < m_ns M) (v : Int32) : RR B G (p_ou S (upd (c_ou S) s v)) (q_ou M (upd (m_ou M) s v)) := by
  obtain ⟨⟨h1, h2, h3, h4, h5, h6, h7, h8, h9, h10, h11, h12⟩, lb⟩ := h
  exact ⟨⟨h1, h2, Iou_up h3 hs v, h4, h5, h6, h7, h8, h9, h10, h11, h12⟩, lb⟩
def ZL (S T : CS) : Prop := (∃ s, s < 5 ∧ c_st S s = 1 ∧ c_st T s = 2) ∨ ∃ o, T = p_ou S o
theorem loss_ok {B : Nat} {G : HS} {S : CS} {M : SM} (h : RR B G S M) : ∀ i, i ≤ 5 → RR (B + 192 * i) G (l_loss G S i) (l_lo M (min i (m_ns M))) ∧ c_un (l_loss G S i) = c_un S ∧ ZL S (l_loss G S i) ∧ ∀ s, i ≤ s → s < 5 → c_st (l_loss G S i) s = c_st S s
  | 0, _ => ⟨by rw [Nat.zero_min]; exact h, rfl, .inr ⟨c_ou S, rfl⟩, fun _ _ _ => rfl⟩
  | i + 1, q => by
    obtain ⟨h1, h2, h3, h4⟩ := loss_ok h i (by omega)
    have hi5 : i < 5 := by omega
    have eNS : m_ns (l_lo M (min i (m_ns M))) = m_ns M := h1.1.1.1.1.symm.trans h.1.1.1.1
    rw [l_loss]
    have eS : f_stay (l_loss G S i) (nI i) = c_st (l_loss G S i) i := fstay_n hi5
    have eO : f_at 5 (c_ou (l_loss G S i)) (nI i) = c_ou (l_loss G S i) i := fat hi5 (by omega)
    have eF : f_out1 (l_loss G S i) (nI i) = p_ou (l_loss G S i) (upd (c_ou (l_loss G S i)) i (c_ou (l_loss G S i) i + 1)) := by
      rw [f_out1, eO, fput hi5 (by omega)]
    rw [eS, eO, eF]
    rcases Nat.lt_or_ge i (m_ns M) with hi | hi
    · rw [(min_lo hi).2] at h1 eNS
      rw [(min_lo hi).1, l_lo, (lo_ok (RR_MOK h.1) i).2, f_lo1]
      have x1 : c_st (l_loss G S i) i = m_st (l_lo M i) i := (h1.1.2.1.1 i (by omega)).1
      have x2 : c_ou (l_loss G S i) i = m_ou (l_lo M i) i := h1.1.2.2.1.1 i (by omega)
      rw [← x1, ← x2]
      have hZ : ∀ T, (∀ s, s < 5 → c_st T s = c_st (l_loss G S i) s) → (∃ o, T = p_ou (l_loss G S i) o) → ZL S T := fun T a b => by
        rcases h3 with ⟨s, k1, k2, k3⟩ | ⟨o, k⟩
        · exact .inl ⟨s, k1, k2, (a s k1).trans k3⟩
        · obtain ⟨o2, b⟩ := b
          exact .inr ⟨o2, by rw [b, k]; rfl⟩
      by_cases c1 : c_st (l_loss G S i) i = 1
      · rw [if_pos c1, if_pos c1]
        have h5 := RR_ou h1 (s := i) (by omega) (c_ou (l_loss G S i) i + 1)
        have hO : RR (B + 192 * (i + 1)) G (p_ou (l_loss G S i) (upd (c_ou (l_loss G S i)) i (c_ou (l_loss G S i) i + 1))) (q_ou (l_lo M i) (upd (m_ou (l_lo M i)) i (c_ou (l_loss G S i) i + 1))) ∧ c_un (p_ou (l_loss G S i) (upd (c_ou (l_loss G S i)) i (c_ou (l_loss G S i) i + 1))) = c_un S ∧ ZL S (p_ou (l_loss G S i) (upd (c_ou (l_loss G S i)) i (c_ou (l_loss G S i) i + 1))) ∧ ∀ s, i + 1 ≤ s → s < 5 → c_st (p_ou (l_loss G S i) (upd (c_ou (l_loss G S i)) i (c_ou (l_loss G S i) i + 1))) s = c_st S s := ⟨RR_le h5 (by omega), h2, hZ _ (fun _ _ => rfl) ⟨_, rfl⟩, fun s a b => h4 s (by omega) b⟩
        by_cases c2 : c_ou (l_loss G S i) i + 1 ≤ 20
        · rw [if_pos c2, if_pos ((le2021 _).mp c2)]
          exact hO
        · rw [if_neg c2, if_neg (fun k => c2 ((le2021 _).mpr k))]
          have hv := vtl_ok h1.1.1 (s := i) hi5
          by_cases c3 : f_vtl G (nI i) = 0
          · rw [if_pos c3, if_pos (hv.mp c3)]
            obtain ⟨e1, e2, e3, -⟩ := end_ok (s := i) (x := 2) h5 (show i < m_ns (l_lo M i) by omega) (.inr rfl)
            refine ⟨RR_le e1 (by omega), e3.trans h2, .inl ⟨i, hi5, ?_, ?_⟩, fun s a b => ?_⟩
            · rw [← h4 i (Nat.le_refl _) hi5]; exact c1
            · rw [e2 i hi5, if_pos rfl]
            · rw [e2 s b, if_neg (by omega)]; exact h4 s (by omega) b
          · rw [if_neg c3, if_neg (fun k => c3 (hv.mpr k))]
            exact hO
      · rw [if_neg c1, if_neg c1]
        exact ⟨RR_le h1 (by omega), h2, h3, fun s a b => h4 s (by omega) b⟩
    · rw [(min_hi (by omega)).2] at h1 eNS
      rw [(min_hi (by omega)).1]
      have x1 : c_st (l_loss G S i) i = 0 := h1.1.2.1.2 i (by omega) hi5
      rw [x1, if_neg (by decide)]
      exact ⟨RR_le h1 (by omega), h2, h3, fun s a b => h4 s (by omega) b⟩
theorem su_tr {ag tr tr' : Fn} {s : Nat} : ∀ {i : Nat}, (∀ w, w < i → ¬ ag (5 * w + s) = -1 → tr w = tr' w) → t_su ag tr s i = t_su ag tr' s i
  | 0, _ => rfl
  | i + 1, h => by
    rw [t_su, t_su, su_tr (i := i) (fun w hw => h w (by omega))]
    by_cases e : ag (5 * i + s) = -1
    · rw [if_pos e, if_pos e]
    · rw [if_neg e, if_neg e, h i (by omega) e]
theorem tin_ok {nw ns n : Nat} {sw ss : FnN} {sg ag ctr mtr : Fn} (h4 : nw ≤ 4) (h5 : ns ≤ 5) (hg : SG nw ns sw ss sg n ag) (ht : Itr nw ctr mtr) {s : Nat} (hs : s < 5) : l_tin ss sw mtr s n = t_su ag ctr s 4 := by
  rw [SG_tin h4 h5 hs hg]
  exact su_tr (fun w hw hn => (ht.1 w (SG_in h4 h5 hg w s (by omega) hs hn).1).symm)
theorem min_5 {n : Nat} (h : n ≤ 5) : min 5 n = n := Nat.min_eq_right h
theorem min_16 {n : Nat} (h : n ≤ 16) : min 16 n = n := Nat.min_eq_right h
theorem HR_cg {G : HS} {M N : SM} (h : HR G M) (e1 : m_ns N = m_ns M) (e2 : m_np N = m_np M) (e3 : m_nw N = m_nw M) (e4 : m_ma N = m_ma M) (e5 : m_so N = m_so M) (e6 : m_mt N = m_mt M) (e7 : m_vo N = m_vo M) (e8 : m_gi N = m_gi M) : HR G N := by
  unfold HR at h ⊢
  rw [e1, e2, e3, e4, e5, e6, e7, e8]
  exact h
section NCOLS
variable (M : SM)
theorem gA_ni : m_ni (f_ngA M) = m_ni M := rfl
theorem gA_wa : m_wa (f_ngA M) = m_wa M := rfl
theorem gA_un : m_un (f_ngA M) = m_un M := rfl
theorem gA_ns : m_ns (f_ngA M) = m_ns M := rfl
theorem gA_np : m_np (f_ngA M) = m_np M := rfl
theorem gA_nw : m_nw (f_ngA M) = m_nw M := rfl
theorem gA_ma : m_ma (f_ngA M) = m_ma M := rfl
theorem gA_st : m_st (f_ngA M) = m_st M := rfl
theorem gA_ou : m_ou (f_ngA M) = m_ou M := rfl
theorem gA_ru : m_ru (f_ngA M) = m_ru M := rfl
theorem gA_so : m_so (f_ngA M) = m_so M := rfl
theorem gA_mt : m_mt (f_ngA M) = m_mt M := rfl
theorem gA_vo : m_vo (f_ngA M) = m_vo M := rfl
theorem gA_gi : m_gi (f_ngA M) = m_gi M := rfl
theorem gA_ca : m_ca (f_ngA M) = m_ca M := rfl
theorem gB_ni : m_ni (f_ngB M) = m_ni M := rfl
theorem gB_wa : m_wa (f_ngB M) = m_wa M := rfl
theorem gB_un : m_un (f_ngB M) = (l_ub (m_ss M) (m_sw M) (m_tr M) (m_ng M) (m_ru M) (m_un M) (m_ns M)).2 := rfl
theorem gB_ns : m_ns (f_ngB M) = m_ns M := rfl
theorem gB_np : m_np (f_ngB M) = m_np M := rfl
theorem gB_nw : m_nw (f_ngB M) = m_nw M := rfl
theorem gB_ng : m_ng (f_ngB M) = m_ng M := rfl
theorem gB_ma : m_ma (f_ngB M) = m_ma M := rfl
theorem gB_st : m_st (f_ngB M) = m_st M := rfl
theorem gB_ou : m_ou (f_ngB M) = m_ou M := rfl
theorem gB_ru : m_ru (f_ngB M) = (l_ub (m_ss M) (m_sw M) (m_tr M) (m_ng M) (m_ru M) (m_un M) (m_ns M)).1 := rfl
theorem gB_so : m_so (f_ngB M) = m_so M := rfl
theorem gB_mt : m_mt (f_ngB M) = m_mt M := rfl
theorem gB_vo : m_vo (f_ngB M) = m_vo M := rfl
theorem gB_gi : m_gi (f_ngB M) = m_gi M := rfl
theorem gB_ca : m_ca (f_ngB M) = m_ca M := rfl
theorem gB_tr : m_tr (f_ngB M) = m_tr M := rfl
theorem gB_sw : m_sw (f_ngB M) = m_sw M := rfl
theorem gB_ss : m_ss (f_ngB M) = m_ss M := rfl
theorem gB_sg : m_sg (f_ngB M) = m_sg M := rfl
theorem gC_ni : m_ni (f_ngC M) = m_ni M := rfl
theorem gC_wa : m_wa (f_ngC M) = (l_cd (m_st M) (m_ru M) (m_mt M) (m_so M) (m_ca M) (m_wa M) (m_np M)).2.1 := rfl
theorem gC_un : m_un (f_ngC M) = m_un M := rfl
theorem gC_ns : m_ns (f_ngC M) = m_ns M := rfl
theorem gC_np : m_np (f_ngC M) = m_np M := rfl
theorem gC_nw : m_nw (f_ngC M) = m_nw M := rfl
theorem gC_ng : m_ng (f_ngC M) = m_ng M := rfl
theorem gC_ma : m_ma (f_ngC M) = m_ma M := rfl
theorem gC_st : m_st (f_ngC M) = m_st M := rfl
theorem gC_ou : m_ou (f_ngC M) = m_ou M := rfl
theorem gC_ru : m_ru (f_ngC M) = m_ru M := rfl
theorem gC_so : m_so (f_ngC M) = m_so M := rfl
theorem gC_mt : m_mt (f_ngC M) = m_mt M := rfl
theorem gC_vo : m_vo (f_ngC M) = m_vo M := rfl
theorem gC_gi : m_gi (f_ngC M) = m_gi M := rfl
theorem gC_ca : m_ca (f_ngC M) = (l_cd (m_st M) (m_ru M) (m_mt M) (m_so M) (m_ca M) (m_wa M) (m_np M)).1 := rfl
theorem gC_tr : m_tr (f_ngC M) = m_tr M := rfl
theorem gC_sw : m_sw (f_ngC M) = m_sw M := rfl
theorem gC_ss : m_ss (f_ngC M) = m_ss M := rfl
theorem gC_sg : m_sg (f_ngC M) = m_sg M := rfl
end NCOLS
/-- the relation over columns given one by one -/
theorem RA_of {B : Nat} {G : HS} {S : CS} {M : SM} {st ou ca tr ag : Fn} {ru : FnB} {ni wa un : Int32} (e1 : c_st S = st) (e2 : c_ou S = ou) (e3 : c_ru S = ru) (e4 : c_ca S = ca) (e5 : c_tr S = tr) (e6 : c_ag S = ag) (e7 : c_ni S = ni) (e8 : c_wa S = wa) (e9 : c_un S = un)
    (h : HR G M) (h1 : Ist (m_ns M) st (m_st M)) (h2 : Iou (m_ns M) ou (m_ou M)) (h3 : Iru (m_ns M) ru (m_ru M)) (h4 : Ica (m_np M) ca (m_ca M)) (h5 : Itr (m_nw M) tr (m_tr M)) (h6 : Iag ag) (h7 : SG (m_nw M) (m_ns M) (m_sw M) (m_ss M) (m_sg M) (m_ng M) ag) (h8 : ni = m_ni M) (h9 : Ino B wa (m_wa M)) (h10 : Ino B un (m_un M)) (h11 : LA G S) : RA B G S M := by
  subst e1; subst e2; subst e3; subst e4; subst e5; subst e6; subst e7; subst e8; subst e9
  exact ⟨h, h1, h2, h3, h4, h5, h6, h7, h8, h9, h10, h11⟩
theorem nightA_ok {B : Nat} {G : HS} {S : CS} {M : SM} (h : RA B G S M) : RR (B + 5) G (f_nightA S) (f_ngB (f_ngA M)) ∧ c_st (f_nightA S) = c_st S ∧ c_ca (f_nightA S) = c_ca S ∧ c_wa (f_nightA S) = c_wa S ∧ ∃ T1 : Nat → Int32, (∀ s, s < 5 → c_ru (f_nightA S) s = (c_ru S s && decide (6 ≤ T1 s))) ∧ c_un (f_nightA S) = c_un S + l_sb (fun s => c_ru S s && !decide (6 ≤ T1 s)) 5 := by
  obtain ⟨hH, hst, hou, hru, hca, htr, hag, hsg, hni, hwa, hun, l1, l2, l3⟩ := h
  have n5 : m_ns M ≤ 5 := hH.1.2.2.2.1
  have n4 : m_nw M ≤ 4 := hH.1.2.2.2.2.2
  obtain ⟨t, a, e, a1, a2, a3, a4⟩ := age_ok (S := S) (M := M) n4 n5 htr hag hsg
  obtain ⟨r, u, e2, b1, b2, b3, b4⟩ := unr_ok (S := p_ag (p_tr S t) a) (ns := m_ns M) (ng := m_ng (f_ngA M)) (U := B) (sw := m_sw (f_ngA M)) (ss := m_ss (f_ngA M)) (tr := m_tr (f_ngA M)) (ru := m_ru M) (un := m_un M) n5 (fun s hs => tin_ok n4 n5 a3 a1 (by omega)) hru hun 5 (by omega)
  rw [min_5 n5] at b1 b2
  have eA : f_nightA S = p_un (p_ru (p_ag (p_tr S t) a) r) u := by rw [f_nightA, e, e2]
  generalize hY : p_ag (p_tr S t) a = Y at e2 b3 b4 eA
  have y1 : c_st Y = c_st S := by rw [← hY]; rfl
  have y2 : c_ou Y = c_ou S := by rw [← hY]; rfl
  have y3 : c_ru Y = c_ru S := by rw [← hY]; rfl
  have y4 : c_ca Y = c_ca S := by rw [← hY]; rfl
  have y5 : c_tr Y = t := by rw [← hY]; rfl
  have y6 : c_ag Y = a := by rw [← hY]; rfl
  have y7 : c_ni Y = c_ni S := by rw [← hY]; rfl
  have y8 : c_wa Y = c_wa S := by rw [← hY]; rfl
  have y9 : c_un Y = c_un S := by rw [← hY]; rfl
  rw [y3, y5, y6] at b3 b4
  rw [y9] at b4
  generalize hZ : p_un (p_ru Y r) u = Z at eA
  have z1 : c_st Z = c_st S := by rw [← hZ]; exact y1
  have z2 : c_ou Z = c_ou S := by rw [← hZ]; exact y2
  have z3 : c_ru Z = r := by rw [← hZ]; rfl
  have z4 : c_ca Z = c_ca S := by rw [← hZ]; exact y4
  have z5 : c_tr Z = t := by rw [← hZ]; exact y5
  have z6 : c_ag Z = a := by rw [← hZ]; exact y6
  have z7 : c_ni Z = c_ni S := by rw [← hZ]; exact y7
  have z8 : c_wa Z = c_wa S := by rw [← hZ]; exact y8
  have z9 : c_un Z = u := by rw [← hZ]; rfl
  clear hY hZ
  rw [eA]
  generalize hT : (fun s => t_su a t s 4) = T1
  have hTs : ∀ s, t_su a t s 4 = T1 s := fun s => congrFun hT s
  have hT' : (fun s => c_ru S s && !decide (6 ≤ t_su a t s 4)) = fun s => c_ru S s && !decide (6 ≤ T1 s) := funext (fun s => by rw [hTs s])
  rw [hT'] at b4
  have b3' : ∀ s, s < 5 → r s = (c_ru S s && decide (6 ≤ T1 s)) := fun s hs => by
    rw [b3, if_pos hs, hTs]
  have fs : ∀ p, f_stay Z p = f_stay S p := fun p => by rw [f_stay, f_stay, z1]
  refine ⟨⟨RA_of z1 z2 z3 z4 z5 z6 z7 z8 z9 ?_ ?_ ?_ ?_ ?_ ?_ a2 ?_ ?_ ?_ ?_ ⟨fun s hs hr => ?_, fun w s hw hs hn => ?_, fun p hp hn => ?_⟩, fun s hs hr => ?_⟩, z1, z4, z8, T1, fun s hs => by rw [z3]; exact b3' s hs, by rw [z9]; exact b4⟩
  · exact HR_cg hH (by rw [gB_ns, gA_ns]) (by rw [gB_np, gA_np]) (by rw [gB_nw, gA_nw]) (by rw [gB_ma, gA_ma]) (by rw [gB_so, gA_so]) (by rw [gB_mt, gA_mt]) (by rw [gB_vo, gA_vo]) (by rw [gB_gi, gA_gi])
  · rw [gB_ns, gA_ns, gB_st, gA_st]; exact hst
  · rw [gB_ns, gA_ns, gB_ou, gA_ou]; exact hou
  · rw [gB_ns, gA_ns, gB_ru, gA_ru, gA_un, gA_ns]; exact b1
  · rw [gB_np, gA_np, gB_ca, gA_ca]; exact hca
  · rw [gB_nw, gA_nw, gB_tr]; exact a1
  · rw [gB_nw, gA_nw, gB_ns, gA_ns, gB_sw, gB_ss, gB_sg, gB_ng]; exact a3
  · rw [gB_ni, gA_ni]; exact hni
  · rw [gB_wa, gA_wa]; exact Ino_le hwa (by omega)
  · rw [gB_un, gA_ns, gA_ru, gA_un]; exact b2
  · rw [z3, b3' s hs, Bool.and_eq_true] at hr
    rw [z1]; exact l1 s hs hr.1
  · rw [z6] at hn
    rw [z1]; exact l2 w s hw hs (fun k => hn (a4 _ (by omega) k))
  · rw [fs] at hn
    rw [z4]; exact l3 p hp hn
  · rw [z3, b3' s hs, Bool.and_eq_true, decide_eq_true_iff] at hr
    rw [z5, z6, hTs]; exact hr.2
theorem nightB_ok {B : Nat} {G : HS} {S : CS} {M : SM} (hB : B < 2 ^ 29) (h : RR B G S M) : RR (B + 960) G (p_ni (l_loss G (l_burnS G S 16) 5) (c_ni (l_loss G (l_burnS G S 16) 5) + 1)) (f_tlD (f_ngC M)) ∧ l_burnN G S 16 = f_ngN M ∧ c_un (l_loss G (l_burnS G S 16) 5) = c_un S ∧
    ((∃ s, s < 5 ∧ c_st S s = 1 ∧ c_st (l_loss G (l_burnS G S 16) 5) s = 2) ∨ (c_st (l_loss G (l_burnS G S 16) 5) = c_st S ∧ c_ru (l_loss G (l_burnS G S 16) 5) = c_ru S ∧ l_sc (c_ca (l_loss G (l_burnS G S 16) 5)) (c_wa (l_loss G (l_burnS G S 16) 5)) (m_np M) + l_bu (z_c S M) (z_f S M) (m_np M) = l_sc (c_ca S) (c_wa S) (m_np M))) := by
  obtain ⟨⟨hH, hst, hou, hru, hca, htr, hag, hsg, hni, hwa, hun, l1, l2, l3⟩, lb⟩ := h
  have n5 : m_ns M ≤ 5 := hH.1.2.2.2.1
  have n16 : m_np M ≤ 16 := hH.1.2.2.2.2.1
  obtain ⟨c, w, e, d1, d2, d3, d4, -, d6⟩ := burn_ok (B := B) hH hst hru hca hwa (by omega) 16 (by omega)
  rw [min_16 n16] at d1 d2 d3 d6
  rw [e]
  generalize hY : p_wa (p_ca S c) w = Y
  have y1 : c_st Y = c_st S := by rw [← hY]; rfl
  have y2 : c_ou Y = c_ou S := by rw [← hY]; rfl
  have y3 : c_ru Y = c_ru S := by rw [← hY]; rfl
  have y4 : c_ca Y = c := by rw [← hY]; rfl
  have y5 : c_tr Y = c_tr S := by rw [← hY]; rfl
  have y6 : c_ag Y = c_ag S := by rw [← hY]; rfl
  have y7 : c_ni Y = c_ni S := by rw [← hY]; rfl
  have y8 : c_wa Y = w := by rw [← hY]; rfl
  have y9 : c_un Y = c_un S := by rw [← hY]; rfl
  clear hY
  have fs : ∀ p, f_stay Y p = f_stay S p := fun p => by rw [f_stay, f_stay, y1]
  have h3 : RR B G Y (f_ngC M) := by
    refine ⟨RA_of y1 y2 y3 y4 y5 y6 y7 y8 y9 ?_ ?_ ?_ ?_ ?_ ?_ hag ?_ ?_ ?_ ?_ ⟨fun s hs hr => ?_, fun w s hw hs hn => ?_, fun p hp hn => ?_⟩, fun s hs hr => ?_⟩
    · exact HR_cg hH (gC_ns M) (gC_np M) (gC_nw M) (gC_ma M) (gC_so M) (gC_mt M) (gC_vo M) (gC_gi M)
    · rw [gC_ns, gC_st]; exact hst
    · rw [gC_ns, gC_ou]; exact hou
    · rw [gC_ns, gC_ru]; exact hru
    · rw [gC_np, gC_ca]; exact d1
    · rw [gC_nw, gC_tr]; exact htr
    · rw [gC_nw, gC_ns, gC_sw, gC_ss, gC_sg, gC_ng]; exact hsg
    · rw [gC_ni]; exact hni
    · rw [gC_wa]; exact d2
    · rw [gC_un]; exact hun
    · rw [y3] at hr; rw [y1]; exact l1 s hs hr
    · rw [y6] at hn; rw [y1]; exact l2 w s hw hs hn
    · rw [fs] at hn; rw [y4, d4 p hp hn]; exact l3 p hp hn
    · rw [y3] at hr; rw [y5, y6]; exact lb s hs hr
  have eN : f_ngN M = (l_cd (m_st M) (m_ru M) (m_mt M) (m_so M) (m_ca M) (m_wa M) (m_np M)).2.2 := rfl
  have n5' : m_ns (f_ngC M) ≤ 5 := by rw [gC_ns]; exact n5
  have n9 := gC_ni M
  have q9 := gC_np M
  generalize f_ngC M = X at h3 n5' n9
  obtain ⟨f1, f2, f3, -⟩ := loss_ok h3 5 (by omega)
  rw [min_5 n5'] at f1
  generalize hL : l_loss G Y 5 = L at f1 f2 f3
  rw [f_tlD, f_ngD, (lo_ok (RR_MOK h3.1) _).2]
  have e9 : m_ni (l_lo X (m_ns X)) = m_ni X := by rw [← (lo_ok (RR_MOK h3.1) (m_ns X)).2, g_mix_ni]
  generalize l_lo X (m_ns X) = W at f1 e9
  refine ⟨?_, by rw [d3, eN], f2.trans y9, ?_⟩
  · obtain ⟨⟨gH, gst, gou, gru, gca, gtr, gag, gsg, gni, gwa, gun, g1, g2, g3⟩, gb⟩ := f1
    have v1 : c_st (p_ni L (c_ni L + 1)) = c_st L := rfl
    have v3 : c_ru (p_ni L (c_ni L + 1)) = c_ru L := rfl
    have v4 : c_ca (p_ni L (c_ni L + 1)) = c_ca L := rfl
    have v5 : c_tr (p_ni L (c_ni L + 1)) = c_tr L := rfl
    have v6 : c_ag (p_ni L (c_ni L + 1)) = c_ag L := rfl
    have v0 : f_stay (p_ni L (c_ni L + 1)) = f_stay L := rfl
    refine ⟨RA_of (M := q_ni W (m_ni X + 1)) v1 (rfl : _ = c_ou L) v3 v4 v5 v6 (rfl : _ = c_ni L + 1) (rfl : _ = c_wa L) (rfl : _ = c_un L) (HR_cg gH rfl rfl rfl rfl rfl rfl rfl rfl) gst gou gru gca gtr gag gsg ?_ (Ino_le gwa (by omega)) (Ino_le gun (by omega)) ⟨?_, ?_, ?_⟩, ?_⟩
    · show c_ni L + 1 = m_ni X + 1
      rw [gni, e9]
    · rw [v1, v3]; exact g1
    · rw [v1, v6]; exact g2
    · rw [v0, v4]; exact g3
    · rw [LB, v3, v5, v6]; exact gb
  · rcases f3 with ⟨s, k1, k2, k3⟩ | ⟨o, k⟩
    · exact .inl ⟨s, k1, by rw [← y1]; exact k2, k3⟩
    · have u1 : c_st L = c_st Y := by rw [k]; rfl
      have u3 : c_ru L = c_ru Y := by rw [k]; rfl
      have u4 : c_ca L = c_ca Y := by rw [k]; rfl
      have u8 : c_wa L = c_wa Y := by rw [k]; rfl
      refine .inr ⟨u1.trans y1, u3.trans y3, ?_⟩
      rw [u4, u8, y4, y8]
      exact d6
theorem night_ok {B : Nat} {G : HS} {S : CS} {M : SM} (hB : B < 2 ^ 28) (h : RR B G S M) : RR (B + 1000) G (f_night G S) (f_spass M) ∧ f_nightN G S = f_spN M ∧
    ∃ T1 : Nat → Int32, c_un (f_night G S) = c_un S + l_sb (fun s => c_ru S s && !decide (6 ≤ T1 s)) 5 ∧
    ((∃ s, s < 5 ∧ c_st S s = 1 ∧ c_st (f_night G S) s = 2) ∨ (c_st (f_night G S) = c_st S ∧ (∀ s, s < 5 → c_ru (f_night G S) s = (c_ru S s && decide (6 ≤ T1 s))) ∧ l_sc (c_ca (f_night G S)) (c_wa (f_night G S)) (m_np M) + l_bu (z_c (f_night G S) M) (z_f S M) (m_np M) = l_sc (c_ca S) (c_wa S) (m_np M))) := by
  obtain ⟨h1, c1, c2, c3, T1, c4, c5⟩ := nightA_ok h.1
  have mp : m_np (f_ngB (f_ngA M)) = m_np M := by rw [gB_np, gA_np]
  have ms : m_so (f_ngB (f_ngA M)) = m_so M := by rw [gB_so, gA_so]
  have mt : m_mt (f_ngB (f_ngA M)) = m_mt M := by rw [gB_mt, gA_mt]
  rw [f_night, f_nightN, f_spass, f_tlB, f_tlC, f_spN]
  generalize f_nightA S = S1 at h1 c1 c2 c3 c4 c5
  generalize f_ngB (f_ngA M) = M1 at h1 mp ms mt
  obtain ⟨k1, k2, k3, k4⟩ := nightB_ok (by omega) h1
  generalize l_loss G (l_burnS G S1 16) 5 = L at k1 k3 k4
  have v1 : c_st (p_ni L (c_ni L + 1)) = c_st L := rfl
  have v3 : c_ru (p_ni L (c_ni L + 1)) = c_ru L := rfl
  have v4 : c_ca (p_ni L (c_ni L + 1)) = c_ca L := rfl
  have v8 : c_wa (p_ni L (c_ni L + 1)) = c_wa L := rfl
  have v9 : c_un (p_ni L (c_ni L + 1)) = c_un L := rfl
  have hz : ∀ N, c_st N = c_st S1 → c_ru N = c_ru S1 → z_c N M = z_c S1 M1 := fun N a b => by
    funext j; rw [z_c, z_c, a, b, ms]
  have hf : z_f S1 M1 = z_f S M := by funext j; rw [z_f, z_f, mt, c2]
  generalize p_ni L (c_ni L + 1) = N at k1 v1 v3 v4 v8 v9
  refine ⟨RR_le k1 (by omega), k2, T1, by rw [v9, k3]; exact c5, ?_⟩
  rw [v1, v4, v8]
  rcases k4 with ⟨s, a1, a2, a3⟩ | ⟨a1, a2, a3⟩
  · exact .inl ⟨s, a1, by rw [← c1]; exact a2, a3⟩
  · refine .inr ⟨a1.trans c1, fun s hs => by rw [v3, a2]; exact c4 s hs, ?_⟩
    rw [hz N (v1.trans a1) (v3.trans a2), ← hf, ← mp, ← c2, ← c3]
    exact a3
theorem pass_ok {B : Nat} {G : HS} {S : CS} {M : SM} (h : RR B G S M) : ∀ i, B + 1000 * i < 2 ^ 28 → RR (B + 1000 * i) G (l_passS G S i) (l_ps M i) ∧ l_passN G S i = l_pn M i
  | 0, _ => ⟨h, rfl⟩
  | i + 1, q => by
    obtain ⟨h1, h2⟩ := pass_ok h i (by omega)
    obtain ⟨n1, n2, -⟩ := night_ok (by omega) h1
    exact ⟨RR_le n1 (by omega), by rw [l_passN, l_pn, h2, n2]⟩
