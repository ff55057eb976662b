/-! ===== act: a sighting, a vote, nights ===== -/
section ACT
variable {B : Nat} {G : HS} {S : CS} {v_ni v_wa v_un : Int32} {v_ns v_np v_nw v_ng : Nat} {v_ma v_st v_ou v_ru : Fn} {v_so : FnN} {v_mt v_vo v_gi v_ca v_tr : Fn} {v_sw v_ss : FnN} {v_sg : Fn}
theorem a_twat (h : (RF B G S v_ni v_wa v_un v_ns v_np v_nw v_ng v_ma v_st v_ou v_ru v_so v_mt v_vo v_gi v_ca v_tr v_sw v_ss v_sg)) {w : Nat} (hw : w < v_nw) : t_wat G (nI w) = 0 := by
  obtain ⟨⟨⟨⟨-, -, g3, -, -, n4⟩, -⟩, -⟩, -⟩ := h
  rw [t_wat, if_neg (nI_pos (by omega)), g3, if_pos (nI_lt hw (by omega))]
theorem a_new_t (h : (RF B G S v_ni v_wa v_un v_ns v_np v_nw v_ng v_ma v_st v_ou v_ru v_so v_mt v_vo v_gi v_ca v_tr v_sw v_ss v_sg)) {s w : Nat} (hs : s < v_ns) (hw : w < v_nw) : t_new G S (nI w) (nI s) = (if v_st s = 1 then (if l_sig v_ss v_sw w s v_ng = true then 2 else 0) else 2) ∧ l_sig v_ss v_sw w s v_ng = (if c_ag S (5 * w + s) = -1 then false else true) := by
  have t1 := a_twat h hw
  have t2 := a_tship h hs
  obtain ⟨s1, -, h5⟩ := a_stv h hs
  obtain ⟨⟨⟨⟨g1, g2, g3, n5, n16, n4⟩, -⟩, -, -, -, -, -, -, hsg, -⟩, -⟩ := h
  have e := SG_sig n4 n5 (w := w) (s := s) (by omega) h5 hsg
  refine ⟨?_, e⟩
  rw [t_new, t1, if_pos rfl, t2, if_pos rfl, fstay_n h5, s1, fhas (by omega) h5, e]
theorem a_sight_r (h : (RF B G S v_ni v_wa v_un v_ns v_np v_nw v_ng v_ma v_st v_ou v_ru v_so v_mt v_vo v_gi v_ca v_tr v_sw v_ss v_sg)) {s w : Nat} (hs : s < v_ns) (hw : w < v_nw) (hf : (if v_st s = 1 then (if l_sig v_ss v_sw w s v_ng = true then true else false) else true) = true) : t_new G S (nI w) (nI s) = 2 := by
  rw [(a_new_t h hs hw).1]
  by_cases c : v_st s = 1
  · rw [if_pos c] at hf ⊢
    by_cases d : l_sig v_ss v_sw w s v_ng = true
    · rw [if_pos d]
    · rw [if_neg d] at hf; exact absurd hf (by decide)
  · rw [if_neg c]
/-- the sighting, entered: what trust there is then -/
theorem a_sight (h : (RF B G S v_ni v_wa v_un v_ns v_np v_nw v_ng v_ma v_st v_ou v_ru v_so v_mt v_vo v_gi v_ca v_tr v_sw v_ss v_sg)) {s w : Nat} (hs : s < v_ns) (hw : w < v_nw) (hf : (if v_st s = 1 then (if l_sig v_ss v_sw w s v_ng = true then true else false) else true) = false) : t_new G S (nI w) (nI s) = 0 ∧ v_ng + 1 ≤ 20 ∧ v_st s = 1 ∧
    ∃ T, f_ent1 S (nI w) (nI s) = T ∧ c_ru T = c_ru S ∧ c_st T = c_st S ∧ (RF B G T v_ni v_wa v_un v_ns v_np v_nw (v_ng + 1) v_ma v_st v_ou v_ru v_so v_mt v_vo v_gi v_ca v_tr (updN v_sw v_ng w) (updN v_ss v_ng s) (upd v_sg v_ng 0)) ∧ f_trust T (nI s) = l_tin (updN v_ss v_ng s) (updN v_sw v_ng w) v_tr s (v_ng + 1) ∧ f_trust T (nI s) = f_trust S (nI s) + c_tr S w := by
  have ht := a_new_t h hs hw
  have sv := a_stv h hs
  have c : v_st s = 1 := by
    by_cases c : v_st s = 1
    · exact c
    · rw [if_neg c] at hf; exact absurd hf (by decide)
  rw [if_pos c] at hf ht
  have d : ¬ l_sig v_ss v_sw w s v_ng = true := by
    intro d; rw [if_pos d] at hf; exact absurd hf (by decide)
  rw [if_neg d] at ht
  obtain ⟨⟨⟨⟨g1, g2, g3, n5, n16, n4⟩, hH⟩, hst, hou, hru, hca, htr, hag, hsg, hni, hwa, hun, l1, l2, l3⟩, lb⟩ := h
  have h5 : s < 5 := by omega
  have h4 : w < 4 := by omega
  have a0 : c_ag S (5 * w + s) = -1 := by
    by_cases a : c_ag S (5 * w + s) = -1
    · exact a
    · rw [ht.2, if_neg a] at d; exact absurd rfl d
  have hS := SG_add n4 n5 hsg hw hs a0 (v := 0) (by decide)
  have eT : f_ent1 S (nI w) (nI s) = p_ag S (upd (c_ag S) (5 * w + s) 0) := by
    rw [f_ent1, fplace h4 h5, fput (by omega) (by omega)]
  have eu : upd (upd (c_ag S) (5 * w + s) 0) (5 * w + s) (-1) = c_ag S := by rw [upd_upd, ← a0, upd_self]
  have hsu : ∀ t, t < 5 → t_su (upd (c_ag S) (5 * w + s) 0) (c_tr S) t 4 = if s = t then t_su (c_ag S) (c_tr S) t 4 + c_tr S w else t_su (c_ag S) (c_tr S) t 4 := fun t ht => by
    have := su_upd (ag := upd (c_ag S) (5 * w + s) 0) (tr := c_tr S) (w0 := w) (s0 := s) (s := t) h5 ht (by rw [pk_us]; decide) 4
    rw [eu] at this
    rw [this]
    by_cases x : s = t
    · rw [if_pos ⟨x, h4⟩, if_pos x]
    · rw [if_neg (fun q => x q.1), if_neg x]
  refine ⟨ht.1, (SG_scnt n4 n5 hS).2, c, p_ag S (upd (c_ag S) (5 * w + s) 0), eT, rfl, rfl, ⟨⟨⟨⟨g1, g2, g3, n5, n16, n4⟩, hH⟩, hst, hou, hru, hca, htr, fun i hi => ?_, hS, hni, hwa, hun, l1, fun a t ha ht' hn => ?_, l3⟩, fun t ht' hr => ?_⟩, ?_, ?_⟩
  · show upd (c_ag S) (5 * w + s) 0 i = -1 ∨ ∃ k, k < 3 ∧ upd (c_ag S) (5 * w + s) 0 i = nI k
    by_cases x : i = 5 * w + s
    · subst x; rw [pk_us]; exact .inr ⟨0, by omega, rfl⟩
    · rw [pk_un x]; exact hag i hi
  · have hn : ¬ upd (c_ag S) (5 * w + s) 0 (5 * a + t) = -1 := hn
    show c_st S t = 1
    by_cases x : 5 * a + t = 5 * w + s
    · rw [((pl_inj ht' h5).mp x).2, sv.1]; exact c
    · rw [pk_un x] at hn; exact l2 a t ha ht' hn
  · show 6 ≤ t_su (upd (c_ag S) (5 * w + s) 0) (c_tr S) t 4
    have l := lb t ht' hr
    rw [hsu t ht']
    by_cases x : s = t
    · rw [if_pos x]
      obtain ⟨k, hk, e⟩ := su_num (ag := c_ag S) (s := t) htr.2 4 (by omega)
      obtain ⟨j, hj, e2⟩ := htr.2 w h4
      rw [e, e2, nI_add]
      exact six_le (Nat.le_add_right k j) (by omega) (by rw [← e]; exact l)
    · rw [if_neg x]; exact l
  · rw [trust_su h5]
    exact (tin_ok n4 n5 hS htr h5).symm
  · rw [trust_su h5, trust_su h5]
    show t_su (upd (c_ag S) (5 * w + s) 0) (c_tr S) s 4 = _
    rw [hsu s h5, if_pos rfl]
theorem a_sight_n (h : (RF B G S v_ni v_wa v_un v_ns v_np v_nw v_ng v_ma v_st v_ou v_ru v_so v_mt v_vo v_gi v_ca v_tr v_sw v_ss v_sg)) {s w : Nat} (hs : s < v_ns) (hw : w < v_nw) (hf : (if v_st s = 1 then (if l_sig v_ss v_sw w s v_ng = true then true else false) else true) = false) (hb : l_tin (updN v_ss v_ng s) (updN v_sw v_ng w) v_tr s (v_ng + 1) ≤ 5) : bI (f_is 5 (c_ru (f_enter S (nI w) (nI s))) (nI s)) = (if v_ru s = 1 then 1 else 0) ∧ (RF B G (f_enter S (nI w) (nI s)) v_ni v_wa v_un v_ns v_np v_nw (v_ng + 1) v_ma v_st v_ou v_ru v_so v_mt v_vo v_gi v_ca v_tr (updN v_sw v_ng w) (updN v_ss v_ng s) (upd v_sg v_ng 0)) := by
  obtain ⟨-, -, -, T, e, e1, -, h2, e3, -⟩ := a_sight h hs hw hf
  have h5 := (a_stv h hs).2.2
  have r := h.1.2.2.2.1.1 s hs
  have eE : f_enter S (nI w) (nI s) = T := by
    rw [f_enter, e, e3, if_pos (nle.mp ((le56 _).mp hb))]
  rw [eE]
  refine ⟨?_, h2⟩
  rw [fis h5 (by omega), e1, ← r]
  cases c_ru S s <;> decide
theorem a_sight_y (h : (RF B G S v_ni v_wa v_un v_ns v_np v_nw v_ng v_ma v_st v_ou v_ru v_so v_mt v_vo v_gi v_ca v_tr v_sw v_ss v_sg)) {s w : Nat} (hs : s < v_ns) (hw : w < v_nw) (hf : (if v_st s = 1 then (if l_sig v_ss v_sw w s v_ng = true then true else false) else true) = false) (hb : ¬ l_tin (updN v_ss v_ng s) (updN v_sw v_ng w) v_tr s (v_ng + 1) ≤ 5) : bI (f_is 5 (c_ru (f_enter S (nI w) (nI s))) (nI s)) = 1 ∧ (RF B G (f_enter S (nI w) (nI s)) v_ni v_wa v_un v_ns v_np v_nw (v_ng + 1) v_ma v_st v_ou (upd v_ru s 1) v_so v_mt v_vo v_gi v_ca v_tr (updN v_sw v_ng w) (updN v_ss v_ng s) (upd v_sg v_ng 0)) := by
  obtain ⟨-, -, c, T, e, e1, e4, h2, e3, -⟩ := a_sight h hs hw hf
  have sv := a_stv h hs
  have h5 := sv.2.2
  have h6 : 6 ≤ f_trust T (nI s) := by
    rw [e3]
    by_cases q : 6 ≤ l_tin (updN v_ss v_ng s) (updN v_sw v_ng w) v_tr s (v_ng + 1)
    · exact q
    · exact absurd ((le56 _).mpr q) hb
  have eE : f_enter S (nI w) (nI s) = p_ru T (updB (c_ru T) s true) := by
    rw [f_enter, e, if_neg (nlt.mpr h6), fmark h5 (by omega), e1]
  rw [eE]
  obtain ⟨⟨hH, hst, hou, hru, hca, htr, hag, hsg, hni, hwa, hun, l1, l2, l3⟩, lb⟩ := h2
  refine ⟨by rw [show c_ru (p_ru T (updB (c_ru T) s true)) = updB (c_ru T) s true from rfl, fis h5 (by omega), updB_s]; rfl, ⟨hH, hst, hou, Iru_up hru hs true, hca, htr, hag, hsg, hni, hwa, hun, fun t ht hr => ?_, l2, l3⟩, fun t ht hr => ?_⟩
  · have hr : updB (c_ru T) s true t = true := hr
    show c_st T t = 1
    by_cases x : t = s
    · rw [x, e4, sv.1]; exact c
    · rw [updB_n x] at hr; exact l1 t ht hr
  · have hr : updB (c_ru T) s true t = true := hr
    show 6 ≤ t_su (c_ag T) (c_tr T) t 4
    by_cases x : t = s
    · rw [x, ← trust_su h5]; exact h6
    · rw [updB_n x] at hr; exact lb t ht hr
theorem a_tsail (h : (RF B G S v_ni v_wa v_un v_ns v_np v_nw v_ng v_ma v_st v_ou v_ru v_so v_mt v_vo v_gi v_ca v_tr v_sw v_ss v_sg)) {p : Nat} (hp : p < v_np) : t_sail G (nI p) = 0 := by
  obtain ⟨⟨⟨⟨-, g2, -, -, n16, -⟩, -⟩, -⟩, -⟩ := h
  rw [t_sail, if_neg (nI_pos (by omega)), g2, if_pos (nI_lt hp (by omega))]
theorem a_vote_t (h : (RF B G S v_ni v_wa v_un v_ns v_np v_nw v_ng v_ma v_st v_ou v_ru v_so v_mt v_vo v_gi v_ca v_tr v_sw v_ss v_sg)) {p : Nat} (hp : p < v_np) : t_vote G S (nI p) = (if v_vo p = 0 then 2 else if v_st (v_so p) = 1 then 0 else 2) ∧ f_ship G (nI p) = nI (v_so p) := by
  have t := a_tsail h hp
  have hh := h
  obtain ⟨⟨⟨⟨g1, g2, g3, n5, n16, n4⟩, hA, hP, hO⟩, -⟩, -⟩ := hh
  obtain ⟨p1, p2, -, -, -, p6, -, -⟩ := hP p hp
  have eS : f_ship G (nI p) = nI (v_so p) := by rw [fship (by omega)]; exact p1
  obtain ⟨s1, -, s5⟩ := a_stv h p2
  refine ⟨?_, eS⟩
  rw [t_vote, t, if_pos rfl, fis (by omega) (by omega), eS, fstay_n s5, s1, ← p6]
  cases g_vo G p
  · rw [if_neg (by decide), if_pos (by decide)]
  · rw [if_pos rfl, if_neg (c := bI true = 0) (by decide)]
theorem a_vote_r (h : (RF B G S v_ni v_wa v_un v_ns v_np v_nw v_ng v_ma v_st v_ou v_ru v_so v_mt v_vo v_gi v_ca v_tr v_sw v_ss v_sg)) {p : Nat} (hp : p < v_np) (hf : (if nI v_np ≤ 0 then false else if v_vo p = 0 then true else if v_st (v_so p) = 1 then false else true) = true) : t_vote G S (nI p) = 2 := by
  have n16 : v_np ≤ 16 := h.1.1.1.2.2.2.2.1
  rw [(a_vote_t h hp).1]
  rw [if_neg (nI_nle (by omega) (by omega))] at hf
  by_cases c : v_vo p = 0
  · rw [if_pos c]
  · rw [if_neg c] at hf ⊢
    by_cases d : v_st (v_so p) = 1
    · rw [if_pos d] at hf; exact absurd hf (by decide)
    · rw [if_neg d]
theorem a_vote (h : (RF B G S v_ni v_wa v_un v_ns v_np v_nw v_ng v_ma v_st v_ou v_ru v_so v_mt v_vo v_gi v_ca v_tr v_sw v_ss v_sg)) {p : Nat} (hp : p < v_np) (hf : (if nI v_np ≤ 0 then false else if v_vo p = 0 then true else if v_st (v_so p) = 1 then false else true) = false) {v : Bool} {u : Int32} (hu : bI v = u) : t_vote G S (nI p) = 0 ∧ f_votes (f_vote G (nI p) v) (f_ship G (nI p)) = l_vot v_so v_vo (upd v_gi p u) (v_so p) true v_np ∧ (RF B (f_vote G (nI p) v) S v_ni v_wa v_un v_ns v_np v_nw v_ng v_ma v_st v_ou v_ru v_so v_mt v_vo (upd v_gi p u) v_ca v_tr v_sw v_ss v_sg) := by
  have n16 : v_np ≤ 16 := h.1.1.1.2.2.2.2.1
  have t := a_vote_t h hp
  rw [if_neg (nI_nle (by omega) (by omega))] at hf
  have c : ¬ v_vo p = 0 := by
    intro c; rw [if_pos c] at hf; exact absurd hf (by decide)
  rw [if_neg c] at hf t
  have d : v_st (v_so p) = 1 := by
    by_cases d : v_st (v_so p) = 1
    · exact d
    · rw [if_neg d] at hf; exact absurd hf (by decide)
  rw [if_pos d] at t
  have eG : f_vote G (nI p) v = h_gi G (updB (g_gi G) p v) := by rw [f_vote, fmark (by omega) (by omega)]
  rw [eG, t.2]
  have o : v_so p < 5 := by
    have := (h.1.1.2.2.1 p hp).2.1
    have : v_ns ≤ 5 := h.1.1.1.2.2.2.1
    omega
  have h2 : (RF B (h_gi G (updB (g_gi G) p v)) S v_ni v_wa v_un v_ns v_np v_nw v_ng v_ma v_st v_ou v_ru v_so v_mt v_vo (upd v_gi p u) v_ca v_tr v_sw v_ss v_sg) := by
    obtain ⟨⟨⟨⟨g1, g2, g3, n5, n16, n4⟩, hA, hP, hO⟩, hst, hou, hru, hca, htr, hag, hsg, hni, hwa, hun, l1, l2, l3⟩, lb⟩ := h
    refine ⟨⟨⟨⟨g1, g2, g3, n5, n16, n4⟩, hA, fun j hj => ?_, fun j hj h16 => ?_⟩, hst, hou, hru, hca, htr, hag, hsg, hni, hwa, hun, l1, l2, l3⟩, lb⟩
    · obtain ⟨p1, p2, p3, p4, p5, p6, p7, p8⟩ := hP j hj
      refine ⟨p1, p2, p3, p4, p5, p6, ?_, ?_⟩
      · show bI (updB (g_gi G) p v j) = upd v_gi p u j
        by_cases e : j = p
        · subst e; rw [updB_s, pk_us]; exact hu
        · rw [updB_n e, pk_un e]; exact p7
      · show updB (g_gi G) p v j = true → g_vo G j = true
        by_cases e : j = p
        · subst e
          intro _
          rw [← p6] at c
          exact bI_nz c
        · rw [updB_n e]; exact p8
    · show g_sh G j = -1 ∧ g_vo G j = false ∧ updB (g_gi G) p v j = false
      rw [updB_n (by omega)]; exact hO j hj h16
  exact ⟨t.1, (votes_ok (RF_to h2).1.1 o).1, h2⟩
theorem a_nights {k : Nat} (h1 : 1 ≤ k) (h6 : k ≤ 60) : t_nights (nI k) 60 = 0 ∧ (nI k).toNatClampNeg = k := by
  rw [t_nights, if_neg (show ¬ nI k < 1 from nI_nlt (b := 1) h1 (by omega)), if_pos (show nI k ≤ 60 from nI_le (b := 60) h6 (by omega))]
  exact ⟨rfl, nI_clamp (by omega)⟩
theorem a_burn (h : RR B G S (mkS v_ni v_wa v_un v_ns v_np v_nw v_ng v_ma v_st v_ou v_ru v_so v_mt v_vo v_gi v_ca v_tr v_sw v_ss v_sg)) {k : Nat} (h1 : 1 ≤ k) (h6 : k ≤ 60) (hB : B + 1000 * k < 2 ^ 28) : l_passN G S (nI k).toNatClampNeg = l_pn (mkS v_ni v_wa v_un v_ns v_np v_nw v_ng v_ma v_st v_ou v_ru v_so v_mt v_vo v_gi v_ca v_tr v_sw v_ss v_sg) k ∧ RR (B + 1000 * k) G (l_passS G S (nI k).toNatClampNeg) (l_ps (mkS v_ni v_wa v_un v_ns v_np v_nw v_ng v_ma v_st v_ou v_ru v_so v_mt v_vo v_gi v_ca v_tr v_sw v_ss v_sg) k) := by
  rw [(a_nights h1 h6).2]
  obtain ⟨q1, q2⟩ := pass_ok h k hB
  exact ⟨q2, q1⟩
end ACT
