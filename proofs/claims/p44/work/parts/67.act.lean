/-! ===== act: what its cases ask, and the relation behind them ===== -/
def HF (G : HS) (ns np nw : Nat) (ma : Fn) (so : FnN) (mt vo gi : Fn) : Prop :=
  (g_sc G = ns ∧ g_pc G = np ∧ g_wc G = nw ∧ ns ≤ 5 ∧ np ≤ 16 ∧ nw ≤ 4) ∧
  (∀ s, s < ns → g_ma G s = ma s ∧ ∃ k, 1 ≤ k ∧ k ≤ 3 ∧ ma s = nI k) ∧
  (∀ p, p < np → g_sh G p = nI (so p) ∧ so p < ns ∧ g_mt G p = mt p ∧ (∃ k, k < 3 ∧ mt p = nI k) ∧ mt p < ma (so p) ∧ bI (g_vo G p) = vo p ∧ bI (g_gi G p) = gi p ∧ (g_gi G p = true → g_vo G p = true)) ∧
  (∀ p, np ≤ p → p < 16 → g_sh G p = -1 ∧ g_vo G p = false ∧ g_gi G p = false)
/-- the relation, over columns -/
def RF (B : Nat) (G : HS) (S : CS) (ni wa un : Int32) (ns np nw ng : Nat) (ma st ou ru : Fn) (so : FnN) (mt vo gi ca tr : Fn) (sw ss : FnN) (sg : Fn) : Prop :=
  (HF G ns np nw ma so mt vo gi ∧ Ist ns (c_st S) st ∧ Iou ns (c_ou S) ou ∧ Iru ns (c_ru S) ru ∧ Ica np (c_ca S) ca ∧ Itr nw (c_tr S) tr ∧ Iag (c_ag S) ∧ SG nw ns sw ss sg ng (c_ag S) ∧ c_ni S = ni ∧ Ino B (c_wa S) wa ∧ Ino B (c_un S) un ∧ LA G S) ∧ LB S
theorem fship_cg {G G' : HS} (h : g_sh G' = g_sh G) (p : Int32) : f_ship G' p = f_ship G p := by rw [f_ship, f_ship, h]
theorem fstay_cg {S S' : CS} (h : c_st S' = c_st S) (p : Int32) : f_stay S' p = f_stay S p := by rw [f_stay, f_stay, h]
theorem Ist_gr {ns : Nat} {c m : Fn} (h : Ist ns c m) (h5 : ns < 5) : Ist (ns + 1) c (upd m ns 0) := by
  refine ⟨fun s hs => ?_, fun s a b => h.2 s (by omega) b⟩
  by_cases e : s = ns
  · subst e; rw [pk_us]; exact ⟨h.2 s (Nat.le_refl _) h5, .inl rfl⟩
  · rw [pk_un e]; exact h.1 s (by omega)
theorem Iou_gr {ns : Nat} {c m : Fn} (h : Iou ns c m) (h5 : ns < 5) : Iou (ns + 1) c (upd m ns 0) := by
  refine ⟨fun s hs => ?_, fun s a b => h.2 s (by omega) b⟩
  by_cases e : s = ns
  · subst e; rw [pk_us]; exact h.2 s (Nat.le_refl _) h5
  · rw [pk_un e]; exact h.1 s (by omega)
theorem Iru_gr {ns : Nat} {c : FnB} {m : Fn} (h : Iru ns c m) (h5 : ns < 5) : Iru (ns + 1) c (upd m ns 0) := by
  refine ⟨fun s hs => ?_, fun s a b => h.2 s (by omega) b⟩
  by_cases e : s = ns
  · subst e; rw [pk_us, h.2 s (Nat.le_refl _) h5]; rfl
  · rw [pk_un e]; exact h.1 s (by omega)
theorem Ica_gr {np : Nat} {c m : Fn} (h : Ica np c m) (h16 : np < 16) : Ica (np + 1) c (upd m np 0) := by
  refine ⟨fun p hp => ?_, fun p a b => h.2.1 p (by omega) b, h.2.2⟩
  by_cases e : p = np
  · subst e; rw [pk_us]; exact h.2.1 p (Nat.le_refl _) h16
  · rw [pk_un e]; exact h.1 p (by omega)
/-- trust as numbers -/
theorem su_num {ag tr : Fn} {s : Nat} (ht : ∀ w, w < 4 → ∃ k, k ≤ 9 ∧ tr w = nI k) : ∀ i, i ≤ 4 → ∃ k, k ≤ 9 * i ∧ t_su ag tr s i = nI k
  | 0, _ => ⟨0, by omega, rfl⟩
  | i + 1, q => by
    obtain ⟨k, hk, e⟩ := su_num ht i (by omega)
    obtain ⟨j, hj, e2⟩ := ht i (by omega)
    rw [t_su]
    by_cases c : ag (5 * i + s) = -1
    · rw [if_pos c]; exact ⟨k, by omega, e⟩
    · rw [if_neg c]; exact ⟨k + j, by omega, by rw [e, e2, nI_add]⟩
theorem su_mono {ag tr tr' : Fn} {s : Nat} (ht : ∀ w, w < 4 → ∃ k k', k ≤ k' ∧ k' ≤ 9 ∧ tr w = nI k ∧ tr' w = nI k') : ∀ i, i ≤ 4 → ∃ k k', k ≤ k' ∧ k' ≤ 9 * i ∧ t_su ag tr s i = nI k ∧ t_su ag tr' s i = nI k'
  | 0, _ => ⟨0, 0, by omega, by omega, rfl, rfl⟩
  | i + 1, q => by
    obtain ⟨k, k', h1, h2, e, e'⟩ := su_mono ht i (by omega)
    obtain ⟨j, j', h3, h4, f, f'⟩ := ht i (by omega)
    rw [t_su, t_su]
    by_cases c : ag (5 * i + s) = -1
    · rw [if_pos c, if_pos c]; exact ⟨k, k', h1, by omega, e, e'⟩
    · rw [if_neg c, if_neg c]; exact ⟨k + j, k' + j', by omega, by omega, by rw [e, f, nI_add], by rw [e', f', nI_add]⟩
theorem six_le {k k' : Nat} (h : k ≤ k') (hk : k' ≤ 100) (h6 : 6 ≤ nI k) : 6 ≤ nI k' := by
  have : 6 ≤ k := (nI_leI (a := 6) (by omega) (by omega)).mp h6
  exact nI_le (a := 6) (by omega) (by omega)
section ACT
variable {B : Nat} {G : HS} {S : CS} {v_ni v_wa v_un : Int32} {v_ns v_np v_nw v_ng : Nat} {v_ma v_st v_ou v_ru : Fn} {v_so : FnN} {v_mt v_vo v_gi v_ca v_tr : Fn} {v_sw v_ss : FnN} {v_sg : Fn}
theorem RF_of (h : RR B G S (mkS v_ni v_wa v_un v_ns v_np v_nw v_ng v_ma v_st v_ou v_ru v_so v_mt v_vo v_gi v_ca v_tr v_sw v_ss v_sg)) : (RF B G S v_ni v_wa v_un v_ns v_np v_nw v_ng v_ma v_st v_ou v_ru v_so v_mt v_vo v_gi v_ca v_tr v_sw v_ss v_sg) := h
theorem RF_to (h : (RF B G S v_ni v_wa v_un v_ns v_np v_nw v_ng v_ma v_st v_ou v_ru v_so v_mt v_vo v_gi v_ca v_tr v_sw v_ss v_sg)) : RR B G S (mkS v_ni v_wa v_un v_ns v_np v_nw v_ng v_ma v_st v_ou v_ru v_so v_mt v_vo v_gi v_ca v_tr v_sw v_ss v_sg) := h
theorem a_stv (h : (RF B G S v_ni v_wa v_un v_ns v_np v_nw v_ng v_ma v_st v_ou v_ru v_so v_mt v_vo v_gi v_ca v_tr v_sw v_ss v_sg)) {s : Nat} (hs : s < v_ns) : c_st S s = v_st s ∧ (v_st s = 0 ∨ v_st s = 1 ∨ v_st s = 2) ∧ s < 5 := by
  obtain ⟨⟨⟨⟨-, -, -, n5, -, -⟩, -⟩, hst, -⟩, -⟩ := h
  exact ⟨(hst.1 s hs).1, (hst.1 s hs).2, by omega⟩
theorem a_st0 (h : (RF B G S v_ni v_wa v_un v_ns v_np v_nw v_ng v_ma v_st v_ou v_ru v_so v_mt v_vo v_gi v_ca v_tr v_sw v_ss v_sg)) {s : Nat} (hs : s < v_ns) : (0 < v_st s ↔ ¬ c_st S s = 0) ∧ (v_st s ≤ 0 ↔ c_st S s = 0) := by
  obtain ⟨e, q, -⟩ := a_stv h hs
  rw [e]
  rcases q with q | q | q <;> rw [q] <;> decide
theorem a_tship (h : (RF B G S v_ni v_wa v_un v_ns v_np v_nw v_ng v_ma v_st v_ou v_ru v_so v_mt v_vo v_gi v_ca v_tr v_sw v_ss v_sg)) {s : Nat} (hs : s < v_ns) : t_ship G (nI s) = 0 := by
  obtain ⟨⟨⟨⟨g1, -, -, n5, -, -⟩, -⟩, -⟩, -⟩ := h
  rw [t_ship, if_neg (nI_pos (by omega)), g1, if_pos (nI_lt hs (by omega))]
theorem a_ship_t {k : Nat} (h1 : 1 ≤ k) (h3 : k ≤ 3) : t_addShip G (nI k) = if nI (g_sc G) < 5 then 0 else 2 := by
  rw [t_addShip, if_neg (show ¬ nI k < 1 from nI_nlt (b := 1) h1 (by omega)), if_pos (show nI k ≤ 3 from nI_le (b := 3) h3 (by omega))]
theorem a_ship_r (h : (RF B G S v_ni v_wa v_un v_ns v_np v_nw v_ng v_ma v_st v_ou v_ru v_so v_mt v_vo v_gi v_ca v_tr v_sw v_ss v_sg)) (hf : nI v_ns = 5) {k : Nat} (h1 : 1 ≤ k) (h3 : k ≤ 3) : t_addShip G (nI k) = 2 := by
  rw [a_ship_t h1 h3, h.1.1.1.1, hf, if_neg (by decide)]
theorem a_ship (h : (RF B G S v_ni v_wa v_un v_ns v_np v_nw v_ng v_ma v_st v_ou v_ru v_so v_mt v_vo v_gi v_ca v_tr v_sw v_ss v_sg)) (hf : ¬ nI v_ns = 5) {k : Nat} (h1 : 1 ≤ k) (h3 : k ≤ 3) : t_addShip G (nI k) = 0 ∧ nI (g_sc G) = nI (v_ns + 1) - 1 ∧ (RF B (f_eship G (nI k)) S v_ni v_wa v_un (v_ns + 1) v_np v_nw v_ng (upd v_ma v_ns (nI k)) (upd v_st v_ns 0) (upd v_ou v_ns 0) (upd v_ru v_ns 0) v_so v_mt v_vo v_gi v_ca v_tr v_sw v_ss v_sg) := by
  obtain ⟨⟨⟨⟨g1, g2, g3, n5, n16, n4⟩, hA, hP, hO⟩, hst, hou, hru, hca, htr, hag, hsg, hni, hwa, hun, l1, l2, l3⟩, lb⟩ := h
  have hlt : v_ns < 5 := by
    rcases Nat.lt_or_ge v_ns 5 with q | q
    · exact q
    · exact absurd (congrArg nI (show v_ns = 5 by omega)) hf
  have eG : f_eship G (nI k) = h_sc (h_ma G (upd (g_ma G) v_ns (nI k))) (v_ns + 1) := by
    rw [f_eship, g1, fput hlt (by omega)]
  refine ⟨?_, ?_, ?_⟩
  · rw [a_ship_t h1 h3, g1, if_pos (show nI v_ns < 5 from nI_lt (b := 5) hlt (by omega))]
  · rw [g1, nI_pre]
  · rw [eG]
    refine ⟨⟨⟨⟨rfl, g2, g3, hlt, n16, n4⟩, fun s hs => ?_, fun p hp => ?_, hO⟩, Ist_gr hst hlt, Iou_gr hou hlt, Iru_gr hru hlt, hca, htr, hag, SG_more (Nat.le_refl _) (Nat.le_succ _) hsg, hni, hwa, hun, l1, l2, fun p hp hn => l3 p hp (by rw [fship_cg (G' := h_sc (h_ma G (upd (g_ma G) v_ns (nI k))) (v_ns + 1)) (G := G) rfl] at hn; exact hn)⟩, lb⟩
    · show upd (g_ma G) v_ns (nI k) s = upd v_ma v_ns (nI k) s ∧ ∃ j, 1 ≤ j ∧ j ≤ 3 ∧ upd v_ma v_ns (nI k) s = nI j
      by_cases e : s = v_ns
      · subst e; rw [pk_us, pk_us]; exact ⟨rfl, k, h1, h3, rfl⟩
      · rw [pk_un e, pk_un e]; exact hA s (by omega)
    · obtain ⟨p1, p2, p3, p4, p5, p6, p7, p8⟩ := hP p hp
      refine ⟨p1, by omega, p3, p4, ?_, p6, p7, p8⟩
      show v_mt p < upd v_ma v_ns (nI k) (v_so p)
      rw [pk_un (by omega)]; exact p5
theorem a_mast (h : (RF B G S v_ni v_wa v_un v_ns v_np v_nw v_ng v_ma v_st v_ou v_ru v_so v_mt v_vo v_gi v_ca v_tr v_sw v_ss v_sg)) {s : Nat} (hs : s < v_ns) (z : Int32) : ¬ v_ma s = 0 ∧ ∃ y, y < 3 ∧ (z &&& 2147483647) - (z &&& 2147483647) / v_ma s * v_ma s = nI y ∧ nI y < v_ma s := by
  obtain ⟨⟨⟨-, hA, -⟩, -⟩, -⟩ := h
  obtain ⟨-, k, h1, h3, e⟩ := hA s hs
  rw [e]
  exact ⟨nI_ne0 (by omega) (by omega), bl z k, Nat.lt_of_lt_of_le (bl_lt (by omega)) h3, bl_val (by omega) (by omega), nI_lt (bl_lt (by omega)) (by omega)⟩
theorem a_sailor_t (h : (RF B G S v_ni v_wa v_un v_ns v_np v_nw v_ng v_ma v_st v_ou v_ru v_so v_mt v_vo v_gi v_ca v_tr v_sw v_ss v_sg)) {s y : Nat} (hs : s < v_ns) (hy : y < 3) (hlt : nI y < v_ma s) : t_addSailor G S (nI s) (nI y) = if c_st S s = 0 then (if nI v_np < 16 then 0 else 2) else 2 := by
  have t := a_tship h hs
  obtain ⟨⟨⟨⟨g1, g2, -, n5, -, -⟩, hA, -⟩, -⟩, -⟩ := h
  rw [t_addSailor, t, if_pos rfl, if_neg (nI_pos (by omega)), fat (by omega) (by omega), (hA s hs).1, if_pos hlt, fstay_n (by omega), g2]
theorem a_sailor_r (h : (RF B G S v_ni v_wa v_un v_ns v_np v_nw v_ng v_ma v_st v_ou v_ru v_so v_mt v_vo v_gi v_ca v_tr v_sw v_ss v_sg)) {s : Nat} (hs : s < v_ns) (hf : (if 0 < v_st s then true else if nI v_np = 16 then true else false) = true) (z : Int32) : t_addSailor G S (nI s) ((z &&& 2147483647) - (z &&& 2147483647) / v_ma s * v_ma s) = 2 := by
  obtain ⟨-, y, hy, e, hlt⟩ := a_mast h hs z
  rw [e, a_sailor_t h hs hy hlt]
  by_cases c : c_st S s = 0
  · rw [if_neg (fun q => (a_st0 h hs).1.mp q c)] at hf
    rw [if_pos c]
    by_cases d : nI v_np = 16
    · rw [d, if_neg (by decide)]
    · rw [if_neg d] at hf; exact absurd hf (by decide)
  · rw [if_neg c]
theorem a_sailor (h : (RF B G S v_ni v_wa v_un v_ns v_np v_nw v_ng v_ma v_st v_ou v_ru v_so v_mt v_vo v_gi v_ca v_tr v_sw v_ss v_sg)) {s : Nat} (hs : s < v_ns) (hf : (if 0 < v_st s then true else if nI v_np = 16 then true else false) = false) (z : Int32) {v : Bool} {u : Int32} (hu : bI v = u) : t_addSailor G S (nI s) ((z &&& 2147483647) - (z &&& 2147483647) / v_ma s * v_ma s) = 0 ∧ nI (g_pc G) = nI (v_np + 1) - 1 ∧ (RF B (f_esail G (nI s) ((z &&& 2147483647) - (z &&& 2147483647) / v_ma s * v_ma s) v) S v_ni v_wa v_un v_ns (v_np + 1) v_nw v_ng v_ma v_st v_ou v_ru (updN v_so v_np s) (upd v_mt v_np ((z &&& 2147483647) - (z &&& 2147483647) / v_ma s * v_ma s)) (upd v_vo v_np u) (upd v_gi v_np 0) (upd v_ca v_np 0) v_tr v_sw v_ss v_sg) := by
  obtain ⟨-, y, hy, e, hlt⟩ := a_mast h hs z
  have c : c_st S s = 0 := by
    by_cases c : c_st S s = 0
    · exact c
    · rw [if_pos ((a_st0 h hs).1.mpr c)] at hf; exact absurd hf (by decide)
  have d : v_np < 16 := by
    rw [if_neg (fun q => (a_st0 h hs).1.mp q c)] at hf
    have n16 : v_np ≤ 16 := h.1.1.1.2.2.2.2.1
    rcases Nat.lt_or_ge v_np 16 with q | q
    · exact q
    · rw [if_pos (show nI v_np = 16 from congrArg nI (show v_np = 16 by omega))] at hf; exact absurd hf (by decide)
  rw [e, a_sailor_t h hs hy hlt, if_pos c, if_pos (show nI v_np < 16 from nI_lt (b := 16) d (by omega))]
  obtain ⟨⟨⟨⟨g1, g2, g3, n5, n16, n4⟩, hA, hP, hO⟩, hst, hou, hru, hca, htr, hag, hsg, hni, hwa, hun, l1, l2, l3⟩, lb⟩ := h
  have eG : f_esail G (nI s) (nI y) v = h_pc (h_vo (h_mt (h_sh G (upd (g_sh G) v_np (nI s))) (upd (g_mt G) v_np (nI y))) (updB (g_vo G) v_np v)) (v_np + 1) := by
    rw [f_esail, g2, fput d (by omega), fput d (by omega), fmark d (by omega)]
  refine ⟨rfl, by rw [g2, nI_pre], ?_⟩
  rw [eG]
  refine ⟨⟨⟨⟨g1, rfl, g3, n5, d, n4⟩, hA, fun p hp => ?_, fun p hp h16 => ?_⟩, hst, hou, hru, Ica_gr hca d, htr, hag, hsg, hni, hwa, hun, l1, l2, fun p hp hn => ?_⟩, lb⟩
  · show upd (g_sh G) v_np (nI s) p = nI (updN v_so v_np s p) ∧ updN v_so v_np s p < v_ns ∧ upd (g_mt G) v_np (nI y) p = upd v_mt v_np (nI y) p ∧ (∃ k, k < 3 ∧ upd v_mt v_np (nI y) p = nI k) ∧ upd v_mt v_np (nI y) p < v_ma (updN v_so v_np s p) ∧ bI (updB (g_vo G) v_np v p) = upd v_vo v_np u p ∧ bI (g_gi G p) = upd v_gi v_np 0 p ∧ (g_gi G p = true → updB (g_vo G) v_np v p = true)
    by_cases x : p = v_np
    · subst x
      have o := (hO p (Nat.le_refl _) d).2.2
      rw [pk_us, updN_s, pk_us, pk_us, updB_s, pk_us, pk_us, o]
      exact ⟨rfl, hs, rfl, ⟨y, hy, rfl⟩, hlt, hu, rfl, fun q => absurd q (by decide)⟩
    · rw [pk_un x, updN_n x, pk_un x, pk_un x, updB_n x, pk_un x, pk_un x]
      exact hP p (by omega)
  · show upd (g_sh G) v_np (nI s) p = -1 ∧ updB (g_vo G) v_np v p = false ∧ g_gi G p = false
    rw [pk_un (by omega), updB_n (by omega)]
    exact hO p (by omega) h16
  · by_cases x : p = v_np
    · subst x; exact hca.2.1 p (Nat.le_refl _) d
    · rw [fship hp] at hn
      refine l3 p hp (fun q => hn ?_)
      rw [fship hp] at q
      show f_stay S (upd (g_sh G) v_np (nI s) p) = 1
      rw [pk_un x]; exact q
theorem a_wat_t (h : (RF B G S v_ni v_wa v_un v_ns v_np v_nw v_ng v_ma v_st v_ou v_ru v_so v_mt v_vo v_gi v_ca v_tr v_sw v_ss v_sg)) : t_addWatcher G = if nI v_nw < 4 then 0 else 2 := by
  rw [t_addWatcher, h.1.1.1.2.2.1]
theorem a_wat_r (h : (RF B G S v_ni v_wa v_un v_ns v_np v_nw v_ng v_ma v_st v_ou v_ru v_so v_mt v_vo v_gi v_ca v_tr v_sw v_ss v_sg)) (hf : nI v_nw = 4) : t_addWatcher G = 2 := by
  rw [a_wat_t h, hf, if_neg (by decide)]
theorem cpy_at (f : Fn) : ∀ n j, j < n → l_cpy f (fun _ => 0) n j = f j
  | 0, j, h => absurd h (by omega)
  | n + 1, j, h => by
    rw [l_cpy]
    by_cases e : j = n
    · subst e; rw [pk_us]
    · rw [pk_un e]; exact cpy_at f n j (by omega)
theorem a_wat (h : (RF B G S v_ni v_wa v_un v_ns v_np v_nw v_ng v_ma v_st v_ou v_ru v_so v_mt v_vo v_gi v_ca v_tr v_sw v_ss v_sg)) (hf : ¬ nI v_nw = 4) : t_addWatcher G = 0 ∧ nI (g_wc G) = nI (v_nw + 1) - 1 ∧ (RF B (f_ewat G) (f_addWatcher G S) v_ni v_wa v_un v_ns v_np (v_nw + 1) v_ng v_ma v_st v_ou v_ru v_so v_mt v_vo v_gi v_ca (upd (l_cpy v_tr (fun _ => 0) v_nw) v_nw 5) v_sw v_ss v_sg) := by
  have t := a_wat_t h
  obtain ⟨⟨⟨⟨g1, g2, g3, n5, n16, n4⟩, hA, hP, hO⟩, hst, hou, hru, hca, htr, hag, hsg, hni, hwa, hun, l1, l2, l3⟩, lb⟩ := h
  have hlt : v_nw < 4 := by
    rcases Nat.lt_or_ge v_nw 4 with q | q
    · exact q
    · exact absurd (congrArg nI (show v_nw = 4 by omega)) hf
  have eS : f_addWatcher G S = p_tr S (upd (c_tr S) v_nw 5) := by rw [f_addWatcher, g3, fput hlt (by omega)]
  have eG : f_ewat G = h_wc G (v_nw + 1) := by rw [f_ewat, g3]
  rw [if_pos (show nI v_nw < 4 from nI_lt (b := 4) hlt (by omega))] at t
  refine ⟨t, by rw [g3, nI_pre], ?_⟩
  rw [eS, eG]
  refine ⟨⟨⟨⟨g1, g2, rfl, n5, n16, hlt⟩, hA, hP, hO⟩, hst, hou, hru, hca, ⟨fun w hw => ?_, fun w hw => ?_⟩, hag, SG_more (Nat.le_succ _) (Nat.le_refl _) hsg, hni, hwa, hun, l1, l2, l3⟩, fun s hs hr => ?_⟩
  · show upd (c_tr S) v_nw 5 w = _
    by_cases e : w = v_nw
    · subst e; rw [pk_us, pk_us]
    · rw [pk_un e, pk_un e, cpy_at _ _ _ (by omega)]; exact htr.1 w (by omega)
  · show ∃ k, k ≤ 9 ∧ upd (c_tr S) v_nw 5 w = nI k
    by_cases e : w = v_nw
    · subst e; rw [pk_us]; exact ⟨5, by omega, rfl⟩
    · rw [pk_un e]; exact htr.2 w hw
  · show 6 ≤ t_su (c_ag S) (upd (c_tr S) v_nw 5) s 4
    rw [su_tr (tr' := c_tr S) (fun w hw hn => pk_un (by have := (SG_in n4 n5 hsg w s hw hs hn).1; omega))]
    exact lb s hs hr
theorem a_wax (h : (RF B G S v_ni v_wa v_un v_ns v_np v_nw v_ng v_ma v_st v_ou v_ru v_so v_mt v_vo v_gi v_ca v_tr v_sw v_ss v_sg)) {k : Nat} (h1 : 1 ≤ k) (h5 : k ≤ 500) : t_buyWax (nI k) = 0 ∧ c_wa S + nI k = v_wa + nI k ∧ (RF (B + 500) G (p_wa S (c_wa S + nI k)) v_ni (v_wa + nI k) v_un v_ns v_np v_nw v_ng v_ma v_st v_ou v_ru v_so v_mt v_vo v_gi v_ca v_tr v_sw v_ss v_sg) := by
  obtain ⟨⟨hH, hst, hou, hru, hca, htr, hag, hsg, hni, hwa, hun, l1, l2, l3⟩, lb⟩ := h
  refine ⟨?_, by rw [hwa.1], ⟨hH, hst, hou, hru, hca, htr, hag, hsg, hni, ⟨?_, ?_⟩, Ino_le hun (by omega), l1, l2, l3⟩, lb⟩
  · rw [t_buyWax, if_neg (show ¬ nI k < 1 from nI_nlt (b := 1) h1 (by omega)), if_pos (show nI k ≤ 500 from nI_le (b := 500) h5 (by omega))]
  · show c_wa S + nI k = v_wa + nI k
    rw [hwa.1]
  · obtain ⟨W, hW, e⟩ := hwa.2
    exact ⟨W + k, by omega, by show c_wa S + nI k = _; rw [e, nI_add]⟩
end ACT
