/-! ===== act: a ship sails, a ship comes home ===== -/
theorem clr_at (sh : Fn) (s : Int32) (b : FnB) : ∀ n p, l_clr sh s b n p = if p < n ∧ sh p = s then false else b p
  | 0, p => by rw [if_neg (by omega)]; rfl
  | n + 1, p => by
    rw [l_clr]
    by_cases c : sh n = s
    · rw [if_pos c]
      by_cases e : p = n
      · subst e; rw [updB_s, if_pos ⟨by omega, c⟩]
      · rw [updB_n e, clr_at sh s b n p]
        by_cases d : p < n ∧ sh p = s
        · rw [if_pos d, if_pos ⟨by omega, d.2⟩]
        · rw [if_neg d, if_neg (fun q => d ⟨by omega, q.2⟩)]
    · rw [if_neg c, clr_at sh s b n p]
      by_cases d : p < n ∧ sh p = s
      · rw [if_pos d, if_pos ⟨by omega, d.2⟩]
      · rw [if_neg d, if_neg (fun q => d ⟨by
          rcases Nat.lt_or_ge p n with x | x
          · exact x
          · have : p = n := by omega
            subst this; exact absurd q.2 c, q.2⟩)]
theorem sl_gi (so : FnN) (s : Nat) (gi ca : Fn) (wa : Int32) : ∀ n p, (l_sl so s gi ca wa n).1 p = if p < n ∧ nI (so p) = nI s then 0 else gi p
  | 0, p => by rw [if_neg (by omega)]; rfl
  | n + 1, p => by
    rw [l_sl]
    by_cases c : nI (so n) = nI s
    · rw [if_pos c]
      show upd (l_sl so s gi ca wa n).1 n 0 p = _
      by_cases e : p = n
      · subst e; rw [pk_us, if_pos ⟨by omega, c⟩]
      · rw [pk_un e, sl_gi so s gi ca wa n p]
        by_cases d : p < n ∧ nI (so p) = nI s
        · rw [if_pos d, if_pos ⟨by omega, d.2⟩]
        · rw [if_neg d, if_neg (fun q => d ⟨by omega, q.2⟩)]
    · rw [if_neg c, sl_gi so s gi ca wa n p]
      by_cases d : p < n ∧ nI (so p) = nI s
      · rw [if_pos d, if_pos ⟨by omega, d.2⟩]
      · rw [if_neg d, if_neg (fun q => d ⟨by
          rcases Nat.lt_or_ge p n with x | x
          · exact x
          · have : p = n := by omega
            subst this; exact absurd q.2 c, q.2⟩)]
theorem sl_ok {B np s : Nat} {G : HS} {T : CS} {so : FnN} {gi ca : Fn} {wa : Int32} (n16 : np ≤ 16) (hs : s < 5) (hP : ∀ p, p < np → f_ship G (nI p) = nI (so p)) (hO : ∀ p, np ≤ p → p < 16 → f_ship G (nI p) = -1) (hca : Ica np (c_ca T) ca) (hwa : Ino B (c_wa T) wa) (hB : B < 2 ^ 30) :
    ∀ i, i ≤ 16 → ∃ c w, l_sendS G (nI s) T i = p_wa (p_ca T c) w ∧ Ica np c (l_sl so s gi ca wa (min i np)).2.1 ∧ Ino B w (l_sl so s gi ca wa (min i np)).2.2.1 ∧ l_sendN G (nI s) T i = (l_sl so s gi ca wa (min i np)).2.2.2 ∧ ∀ p, p < 16 → ¬ f_ship G (nI p) = nI s → c p = c_ca T p
  | 0, _ => by
    rw [Nat.zero_min]
    exact ⟨c_ca T, c_wa T, rfl, hca, hwa, rfl, fun _ _ _ => rfl⟩
  | i + 1, q => by
    obtain ⟨c, w, e, h1, h2, h3, h4⟩ := sl_ok n16 hs hP hO hca hwa hB i (by omega)
    rw [l_sendS, l_sendN, h3, e]
    rcases Nat.lt_or_ge i np with hi | hi
    · rw [(min_lo hi).2] at h1 h2
      rw [(min_lo hi).1, (min_lo hi).2, l_sl, hP i hi]
      by_cases d : nI (so i) = nI s
      · rw [if_pos d, if_pos d, if_pos d, f_light, f_litB, f_lca, f_lwa, f_lB]
        show ∃ c' w', (if 12 ≤ w then p_ca (p_wa (p_wa (p_ca T c) w) (w - 12)) (f_put 16 c (nI i) 12) else p_wa (p_ca T c) w) = p_wa (p_ca T c') w' ∧ Ica np c' (if 12 ≤ (l_sl so s gi ca wa i).2.2.1 then upd (l_sl so s gi ca wa i).2.1 i 12 else (l_sl so s gi ca wa i).2.1) ∧ Ino B w' (if 12 ≤ (l_sl so s gi ca wa i).2.2.1 then (l_sl so s gi ca wa i).2.2.1 - 12 else (l_sl so s gi ca wa i).2.2.1) ∧ (if (if 12 ≤ w then true else false) = true then (l_sl so s gi ca wa i).2.2.2 + 1 else (l_sl so s gi ca wa i).2.2.2) = (if (if 12 ≤ (l_sl so s gi ca wa i).2.2.1 then true else false) = true then (l_sl so s gi ca wa i).2.2.2 + 1 else (l_sl so s gi ca wa i).2.2.2 + 0) ∧ ∀ p, p < 16 → ¬ f_ship G (nI p) = nI s → c' p = c_ca T p
        rw [fput (show i < 16 by omega) (by omega)]
        obtain ⟨e1, W, hW, eW⟩ := h2
        rw [← e1]
        by_cases a : 12 ≤ w
        · rw [if_pos a, if_pos a, if_pos a, if_pos a, if_pos rfl, if_pos rfl]
          have : 12 ≤ W := (nI_leI (a := 12) (by omega) (by omega)).mp (by rw [← eW]; exact a)
          refine ⟨upd c i 12, w - 12, rfl, Ica_up (k := 12) h1 hi (by omega), ⟨rfl, W - 12, by omega, by rw [eW]; exact pk_sub (b := 12) this⟩, rfl, fun p hp hn => ?_⟩
          rw [pk_un (fun x => hn (by rw [x, hP i hi, d]))]; exact h4 p hp hn
        · rw [if_neg a, if_neg a, if_neg a, if_neg a, if_neg (c := false = true) (by decide), if_neg (c := false = true) (by decide), Int32.add_zero]
          exact ⟨c, w, rfl, h1, ⟨rfl, W, hW, eW⟩, rfl, h4⟩
      · rw [if_neg d, if_neg d, if_neg d]
        exact ⟨c, w, rfl, h1, h2, rfl, h4⟩
    · rw [(min_hi (by omega)).2] at h1 h2
      have hn : ¬ f_ship G (nI i) = nI s := by rw [hO i hi (by omega)]; exact m1_ne s (by omega)
      rw [(min_hi (by omega)).1, (min_hi (by omega)).2, if_neg hn, if_neg hn]
      exact ⟨c, w, rfl, h1, h2, rfl, h4⟩
section ACT
variable {B : Nat} {G : HS} {S : CS} {v_ni v_wa v_un : Int32} {v_ns v_np v_nw v_ng : Nat} {v_ma v_st v_ou v_ru : Fn} {v_so : FnN} {v_mt v_vo v_gi v_ca v_tr : Fn} {v_sw v_ss : FnN} {v_sg : Fn}
theorem a_goes (h : (RF B G S v_ni v_wa v_un v_ns v_np v_nw v_ng v_ma v_st v_ou v_ru v_so v_mt v_vo v_gi v_ca v_tr v_sw v_ss v_sg)) {s : Nat} (hs : s < v_ns) : t_goes G S (nI s) = if c_st S s = 0 then 0 else 2 := by
  obtain ⟨-, -, h5⟩ := a_stv h hs
  rw [t_goes, a_tship h hs, if_pos rfl, fstay_n h5]
theorem a_sail_r (h : (RF B G S v_ni v_wa v_un v_ns v_np v_nw v_ng v_ma v_st v_ou v_ru v_so v_mt v_vo v_gi v_ca v_tr v_sw v_ss v_sg)) {s : Nat} (hs : s < v_ns) (hf : ¬ v_st s ≤ 0) : t_goes G S (nI s) = 2 := by
  rw [a_goes h hs, if_neg (fun q => hf ((a_st0 h hs).2.mpr q))]
theorem a_sail (h : (RF B G S v_ni v_wa v_un v_ns v_np v_nw v_ng v_ma v_st v_ou v_ru v_so v_mt v_vo v_gi v_ca v_tr v_sw v_ss v_sg)) (hB : B < 2 ^ 30) {s : Nat} (hs : s < v_ns) (hf : v_st s ≤ 0) : t_goes G S (nI s) = 0 ∧ f_sailN (f_clear G (nI s)) S (nI s) = (l_sl v_so s v_gi v_ca v_wa v_np).2.2.2 ∧ (RF B (f_clear G (nI s)) (f_sailS (f_clear G (nI s)) S (nI s)) v_ni ((l_sl v_so s v_gi v_ca v_wa v_np).2.2.1) v_un v_ns v_np v_nw v_ng v_ma (upd v_st s 1) (upd v_ou s 0) v_ru v_so v_mt v_vo ((l_sl v_so s v_gi v_ca v_wa v_np).1) ((l_sl v_so s v_gi v_ca v_wa v_np).2.1) v_tr v_sw v_ss v_sg) := by
  have c0 := (a_st0 h hs).2.mp hf
  refine ⟨by rw [a_goes h hs, if_pos c0], ?_⟩
  obtain ⟨⟨⟨⟨g1, g2, g3, n5, n16, n4⟩, hA, hP, hO⟩, hst, hou, hru, hca, htr, hag, hsg, hni, hwa, hun, l1, l2, l3⟩, lb⟩ := h
  have h5 : s < 5 := by omega
  have cg : g_sh (f_clear G (nI s)) = g_sh G := rfl
  have eT : f_send1 S (nI s) = p_ou (p_st S (upd (c_st S) s 1)) (upd (c_ou S) s 0) := by rw [f_send1, fput h5 (by omega), fput h5 (by omega)]
  have hsh : ∀ p, p < v_np → f_ship (f_clear G (nI s)) (nI p) = nI (v_so p) := fun p hp => by rw [fship_cg cg, fship (by omega)]; exact (hP p hp).1
  have hso : ∀ p, v_np ≤ p → p < 16 → f_ship (f_clear G (nI s)) (nI p) = -1 := fun p hp h16 => by rw [fship_cg cg, fship h16]; exact (hO p hp h16).1
  obtain ⟨c, w, e, e1, e2, e3, e4⟩ := sl_ok (gi := v_gi) (T := f_send1 S (nI s)) n16 h5 hsh hso (by rw [eT]; exact hca) (by rw [eT]; exact hwa) hB 16 (by omega)
  rw [min_16 n16] at e1 e2 e3
  refine ⟨e3, ?_⟩
  rw [f_sailS, e, eT]
  rw [eT] at e4
  have eX : f_clear G (nI s) = h_gi G (l_clr (g_sh G) (nI s) (g_gi G) 16) := rfl
  rw [eX] at e4 ⊢
  have hgi := clr_at (g_sh G) (nI s) (g_gi G) 16
  generalize l_clr (g_sh G) (nI s) (g_gi G) 16 = gi' at e4 hgi ⊢
  have hg := sl_gi v_so s v_gi v_ca v_wa v_np
  generalize l_sl v_so s v_gi v_ca v_wa v_np = L at e1 e2 hg ⊢
  refine ⟨⟨⟨⟨g1, g2, g3, n5, n16, n4⟩, hA, fun p hp => ?_, fun p hp h16 => ?_⟩, Ist_up hst hs (.inr (.inl rfl)), Iou_up hou hs 0, hru, e1, htr, hag, hsg, hni, e2, hun, fun t ht hr => ?_, fun a t ha ht hn => ?_, fun p hp hn => ?_⟩, lb⟩
  · obtain ⟨p1, p2, p3, p4, p5, p6, p7, p8⟩ := hP p hp
    refine ⟨p1, p2, p3, p4, p5, p6, ?_, ?_⟩
    · show bI (gi' p) = L.1 p
      rw [hgi, hg, p1]
      by_cases d : nI (v_so p) = nI s
      · rw [if_pos ⟨by omega, d⟩, if_pos ⟨hp, d⟩]; rfl
      · rw [if_neg (fun q => d q.2), if_neg (fun q => d q.2)]; exact p7
    · show gi' p = true → g_vo G p = true
      rw [hgi]
      by_cases d : p < 16 ∧ g_sh G p = nI s
      · rw [if_pos d]; exact fun q => absurd q (by decide)
      · rw [if_neg d]; exact p8
  · obtain ⟨p1, p2, p3⟩ := hO p hp h16
    refine ⟨p1, p2, ?_⟩
    show gi' p = false
    rw [hgi, if_neg (fun q => m1_ne s (by omega) (p1.symm.trans q.2))]; exact p3
  · show upd (c_st S) s 1 t = 1
    by_cases d : t = s
    · subst d; rw [pk_us]
    · rw [pk_un d]; exact l1 t ht hr
  · show upd (c_st S) s 1 t = 1
    by_cases d : t = s
    · subst d; rw [pk_us]
    · rw [pk_un d]; exact l2 a t ha ht hn
  · have hn : ¬ f_at 5 (upd (c_st S) s 1) (f_ship G (nI p)) = 1 := hn
    show c p = 0
    rcases Nat.lt_or_ge p v_np with y | y
    · obtain ⟨p1, p2, -⟩ := hP p y
      have o : v_so p < 5 := by omega
      have eS : f_ship G (nI p) = nI (v_so p) := by rw [fship hp]; exact p1
      rw [eS, fat o (by omega)] at hn
      by_cases d : v_so p = s
      · rw [d, pk_us] at hn; exact absurd rfl hn
      · rw [pk_un d] at hn
        rw [e4 p hp (fun q => d (nI_inj5 (by omega) (by omega) (eS.symm.trans q)))]
        exact l3 p hp (by rw [eS, fstay_n o]; exact hn)
    · have eS : f_ship G (nI p) = -1 := by rw [fship hp]; exact (hO p y hp).1
      rw [e4 p hp (fun q => m1_ne s (by omega) (eS.symm.trans q))]
      exact l3 p hp (by rw [eS, fstay_m]; decide)
theorem a_home_t (h : (RF B G S v_ni v_wa v_un v_ns v_np v_nw v_ng v_ma v_st v_ou v_ru v_so v_mt v_vo v_gi v_ca v_tr v_sw v_ss v_sg)) {s : Nat} (hs : s < v_ns) : t_home G S (nI s) = if c_st S s = 0 then 2 else 0 := by
  obtain ⟨-, -, h5⟩ := a_stv h hs
  rw [t_home, a_tship h hs, if_pos rfl, fstay_n h5]
theorem a_home_r (h : (RF B G S v_ni v_wa v_un v_ns v_np v_nw v_ng v_ma v_st v_ou v_ru v_so v_mt v_vo v_gi v_ca v_tr v_sw v_ss v_sg)) {s : Nat} (hs : s < v_ns) (hf : v_st s = 0) : t_home G S (nI s) = 2 := by
  rw [a_home_t h hs, if_pos ((a_stv h hs).1.trans hf)]
end ACT
def be1 (v : Int32) : Int32 := if v + 1 < 9 then v + 1 else 9
theorem be1_nI : ∀ k, k ≤ 9 → be1 (nI k) = nI (min (k + 1) 9) ∧ (if 9 ≤ nI k then nI k else nI k + 1) = be1 (nI k) := by decide
theorem bel_ok {S : CS} {s : Nat} (hs : s < 5) : ∀ i, i ≤ 4 → ∃ t, l_bel (nI s) S i = p_tr S t ∧ ∀ w, t w = if w < i ∧ ¬ c_ag S (5 * w + s) = -1 then be1 (c_tr S w) else c_tr S w
  | 0, _ => ⟨c_tr S, rfl, fun w => by rw [if_neg (by omega)]⟩
  | i + 1, q => by
    obtain ⟨t, e, h⟩ := bel_ok hs i (by omega)
    have eh : f_hasS (p_tr S t) (nI i) (nI s) = if c_ag S (5 * i + s) = -1 then false else true := fhas (by omega) hs
    have et : c_tr (p_tr S t) = t := rfl
    rw [l_bel, e, eh, et, fat (by omega) (by omega), fput (by omega) (by omega)]
    have hi : t i = c_tr S i := by rw [h, if_neg (by omega)]
    by_cases c : c_ag S (5 * i + s) = -1
    · rw [if_pos c, if_neg (by decide)]
      refine ⟨t, rfl, fun w => ?_⟩
      rw [h]
      by_cases d : w < i ∧ ¬ c_ag S (5 * w + s) = -1
      · rw [if_pos d, if_pos ⟨by omega, d.2⟩]
      · rw [if_neg d, if_neg (fun q => d ⟨by
          rcases Nat.lt_or_ge w i with x | x
          · exact x
          · have : w = i := by omega
            subst this; exact absurd c q.2, q.2⟩)]
    · rw [if_neg c, if_pos rfl]
      refine ⟨upd t i (be1 (c_tr S i)), by rw [hi]; rfl, fun w => ?_⟩
      by_cases x : w = i
      · subst x; rw [pk_us, if_pos ⟨by omega, c⟩]
      · rw [pk_un x, h]
        by_cases d : w < i ∧ ¬ c_ag S (5 * w + s) = -1
        · rw [if_pos d, if_pos ⟨by omega, d.2⟩]
        · rw [if_neg d, if_neg (fun q => d ⟨by omega, q.2⟩)]
theorem bw_ok {nw ns s : Nat} {sw ss : FnN} {sg tr : Fn} (h4 : nw ≤ 4) (h5 : ns ≤ 5) (hs : s < 5) (ht : ∀ w, w < nw → ∃ k, k ≤ 9 ∧ tr w = nI k) : ∀ {n : Nat} {ag : Fn}, SG nw ns sw ss sg n ag → ∀ w, w < nw → l_bw ss sw s tr n w = if ag (5 * w + s) = -1 then tr w else be1 (tr w)
  | 0, ag, h, w, hw => by rw [if_pos (h _ (by omega))]; rfl
  | n + 1, ag, h, w, hw => by
    obtain ⟨h1, h2, h3, hm, hr⟩ := h
    have ih := bw_ok h4 h5 hs ht hr
    rw [l_bw]
    by_cases c : nI (ss n) = nI s
    · have cs : ss n = s := nI_inj5 (by omega) (by omega) c
      rw [cs] at h3 ih
      rw [if_pos c]
      have e0 : l_bw ss sw s tr n (sw n) = tr (sw n) := by rw [ih _ h1, pk_us, if_pos rfl]
      obtain ⟨k, hk, ek⟩ := ht (sw n) h1
      have eb : (if 9 ≤ l_bw ss sw s tr n (sw n) then l_bw ss sw s tr n else upd (l_bw ss sw s tr n) (sw n) (l_bw ss sw s tr n (sw n) + 1)) w = if w = sw n then be1 (tr w) else l_bw ss sw s tr n w := by
        rw [e0]
        have := (be1_nI k hk).2
        rw [← ek] at this
        by_cases x : w = sw n
        · rw [if_pos x, x, ← this]
          by_cases y : 9 ≤ tr (sw n)
          · rw [if_pos y, if_pos y]; exact e0
          · rw [if_neg y, if_neg y, pk_us]
        · rw [if_neg x]
          by_cases y : 9 ≤ tr (sw n)
          · rw [if_pos y]
          · rw [if_neg y, pk_un x]
      rw [eb]
      by_cases x : w = sw n
      · rw [if_pos x, x, h3, if_neg hm]
      · rw [if_neg x, ih w hw, pk_un (fun q => x ((pl_inj hs hs).mp q).1)]
    · rw [if_neg c, ih w hw, pk_un (fun q => c (by rw [((pl_inj hs (by omega)).mp q).2]))]
section ACT
variable {B : Nat} {G : HS} {S : CS} {v_ni v_wa v_un : Int32} {v_ns v_np v_nw v_ng : Nat} {v_ma v_st v_ou v_ru : Fn} {v_so : FnN} {v_mt v_vo v_gi v_ca v_tr : Fn} {v_sw v_ss : FnN} {v_sg : Fn}
theorem a_bel (h : (RF B G S v_ni v_wa v_un v_ns v_np v_nw v_ng v_ma v_st v_ou v_ru v_so v_mt v_vo v_gi v_ca v_tr v_sw v_ss v_sg)) {s : Nat} (hs : s < v_ns) : ∃ T, l_bel (nI s) S 4 = T ∧ c_st T = c_st S ∧ c_ou T = c_ou S ∧ (RF B G T v_ni v_wa v_un v_ns v_np v_nw v_ng v_ma v_st v_ou v_ru v_so v_mt v_vo v_gi v_ca (l_bw v_ss v_sw s v_tr v_ng) v_sw v_ss v_sg) := by
  obtain ⟨⟨⟨⟨g1, g2, g3, n5, n16, n4⟩, hH⟩, hst, hou, hru, hca, htr, hag, hsg, hni, hwa, hun, l1, l2, l3⟩, lb⟩ := h
  have h5 : s < 5 := by omega
  obtain ⟨t, e, ht⟩ := bel_ok (S := S) h5 4 (by omega)
  have ht' : ∀ w, w < 4 → t w = if c_ag S (5 * w + s) = -1 then c_tr S w else be1 (c_tr S w) := fun w hw => by
    rw [ht]
    by_cases c : c_ag S (5 * w + s) = -1
    · rw [if_pos c, if_neg (fun q => q.2 c)]
    · rw [if_neg c, if_pos ⟨hw, c⟩]
  have hm : ∀ w, w < 4 → ∃ k k', k ≤ k' ∧ k' ≤ 9 ∧ c_tr S w = nI k ∧ t w = nI k' := fun w hw => by
    obtain ⟨k, hk, ek⟩ := htr.2 w hw
    rw [ht' w hw]
    by_cases c : c_ag S (5 * w + s) = -1
    · rw [if_pos c]; exact ⟨k, k, Nat.le_refl _, hk, ek, ek⟩
    · rw [if_neg c]; exact ⟨k, min (k + 1) 9, by omega, by omega, ek, by rw [ek]; exact (be1_nI k hk).1⟩
  refine ⟨_, e, rfl, rfl, ⟨⟨⟨g1, g2, g3, n5, n16, n4⟩, hH⟩, hst, hou, hru, hca, ⟨fun w hw => ?_, fun w hw => ?_⟩, hag, hsg, hni, hwa, hun, l1, l2, l3⟩, fun a ha hr => ?_⟩
  · show t w = _
    rw [ht' w (by omega), bw_ok n4 n5 h5 (fun w hw => by rw [← htr.1 w hw]; exact htr.2 w (by omega)) hsg w hw, htr.1 w hw]
  · show ∃ k, k ≤ 9 ∧ t w = nI k
    obtain ⟨k, k', -, q, -, e⟩ := hm w hw
    exact ⟨k', q, e⟩
  · show 6 ≤ t_su (c_ag S) t a 4
    obtain ⟨k, k', q1, q2, q3, q4⟩ := su_mono (ag := c_ag S) (s := a) hm 4 (by omega)
    rw [q4]
    exact six_le q1 (by omega) (by rw [← q3]; exact lb a ha hr)
theorem a_home (h : (RF B G S v_ni v_wa v_un v_ns v_np v_nw v_ng v_ma v_st v_ou v_ru v_so v_mt v_vo v_gi v_ca v_tr v_sw v_ss v_sg)) {s : Nat} (hs : s < v_ns) (hf : ¬ v_st s = 0) : t_home G S (nI s) = 0 ∧ f_at 5 (c_ou (f_comes G S (nI s))) (nI s) = v_ou s ∧ (RF (B + 192) G (f_comes G S (nI s)) v_ni ((l_en v_so s v_ca v_wa v_np).2) v_un v_ns v_np v_nw (d_n v_ss v_sg (nI s) 99 v_ng) v_ma (upd v_st s 0) v_ou (upd v_ru s 0) v_so v_mt v_vo v_gi ((l_en v_so s v_ca v_wa v_np).1) (l_bw v_ss v_sw s v_tr v_ng) (fun j => v_sw (d_ix v_ss v_sg (nI s) 99 v_ng j)) (fun j => v_ss (d_ix v_ss v_sg (nI s) 99 v_ng j)) (fun j => v_sg (d_ix v_ss v_sg (nI s) 99 v_ng j))) := by
  have n5 := (a_stv h hs).2.2
  have ou := h.1.2.2.1.1 s hs
  obtain ⟨T, e, e1, e2, h2⟩ := a_bel h hs
  have h3 := end_ok (s := s) (x := 0) (RF_to h2) hs (.inl rfl)
  refine ⟨by rw [a_home_t h hs, if_neg (fun q => hf ((a_stv h hs).1.symm.trans q))], ?_, ?_⟩
  · rw [f_comes, e, h3.2.2.2, e2, fat n5 (by omega)]; exact ou
  · rw [f_comes, e]
    exact h3.1
end ACT
