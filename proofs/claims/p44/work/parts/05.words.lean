/-! ===== the class, in words ===== -/
def f_at (n : Nat) (a : Fn) (i : Int32) : Int32 := if i < 0 then 0 else if nI n ≤ i then 0 else a i.toNatClampNeg
def f_is (n : Nat) (a : FnB) (i : Int32) : Bool := if i < 0 then false else if nI n ≤ i then false else a i.toNatClampNeg
def f_put (n : Nat) (a : Fn) (i v : Int32) : Fn := if i < 0 then a else if nI n ≤ i then a else upd a i.toNatClampNeg v
def f_mark (n : Nat) (a : FnB) (i : Int32) (v : Bool) : FnB := if i < 0 then a else if nI n ≤ i then a else updB a i.toNatClampNeg v
def l_cpy (f t : Fn) : Nat → Fn | 0 => t | i + 1 => upd (l_cpy f t i) i (f i)
def l_cpyB (f t : FnB) : Nat → FnB | 0 => t | i + 1 => updB (l_cpyB f t i) i (f i)
def f_mix (d : Int64) (x : Int32) : Int64 := d * 31 + x.toInt64
-- the harbour
def f_ship (G : HS) (p : Int32) : Int32 := if p < 0 then -1 else if nI 16 ≤ p then -1 else g_sh G p.toNatClampNeg
def f_eship (G : HS) (x : Int32) : HS := h_sc (h_ma G (f_put 5 (g_ma G) (nI (g_sc G)) x)) (g_sc G + 1)
def f_esail (G : HS) (s x : Int32) (v : Bool) : HS := h_pc (h_vo (h_mt (h_sh G (f_put 16 (g_sh G) (nI (g_pc G)) s)) (f_put 16 (g_mt G) (nI (g_pc G)) x)) (f_mark 16 (g_vo G) (nI (g_pc G)) v)) (g_pc G + 1)
def f_ewat (G : HS) : HS := h_wc G (g_wc G + 1)
def l_clr (sh : Fn) (s : Int32) (b : FnB) : Nat → FnB | 0 => b | i + 1 => if sh i = s then updB (l_clr sh s b i) i false else l_clr sh s b i
def l_cnt (sh : Fn) (b : FnB) (s : Int32) : Nat → Int32 | 0 => 0 | i + 1 => if sh i = s then (if b i = true then l_cnt sh b s i + 1 else l_cnt sh b s i) else l_cnt sh b s i
def f_voters (G : HS) (s : Int32) : Int32 := l_cnt (g_sh G) (g_vo G) s 16
def f_votes (G : HS) (s : Int32) : Int32 := l_cnt (g_sh G) (g_gi G) s 16
def f_vtl (G : HS) (s : Int32) : Int32 := if 0 < f_voters G s / 2 + 1 - f_votes G s then f_voters G s / 2 + 1 - f_votes G s else 0
-- the chapel
def f_copy (U S : CS) : CS := p_un (p_wa (p_ni (p_ag (p_tr (p_ca (p_ru (p_ou (p_st U (l_cpy (c_st S) (c_st U) 5)) (l_cpy (c_ou S) (c_ou U) 5)) (l_cpyB (c_ru S) (c_ru U) 5)) (l_cpy (c_ca S) (c_ca U) 16)) (l_cpy (c_tr S) (c_tr U) 4)) (l_cpy (c_ag S) (c_ag U) 20)) (c_ni S)) (c_wa S)) (c_un S)
def f_stay (S : CS) (s : Int32) : Int32 := f_at 5 (c_st S) s
def f_place (w s : Int32) : Int32 := if w < 0 then -1 else if 4 ≤ w then -1 else if s < 0 then -1 else if s < 5 then w * 5 + s else -1
def f_hasS (S : CS) (w s : Int32) : Bool := if f_place w s < 0 then false else if nI 20 ≤ f_place w s then false else if c_ag S (f_place w s).toNatClampNeg = -1 then false else true
def l_trust (S : CS) (s : Int32) : Nat → Int32 | 0 => 0 | i + 1 => if f_hasS S (nI i) s = true then l_trust S s i + f_at 4 (c_tr S) (nI i) else l_trust S s i
def f_trust (S : CS) (s : Int32) : Int32 := l_trust S s 4
def f_litB (S : CS) : Bool := if 12 ≤ c_wa S then true else false
def f_light (S : CS) (p : Int32) : CS := if 12 ≤ c_wa S then p_ca (p_wa S (c_wa S - 12)) (f_put 16 (c_ca S) p 12) else S
def f_send1 (S : CS) (s : Int32) : CS := p_ou (p_st S (f_put 5 (c_st S) s 1)) (f_put 5 (c_ou S) s 0)
def l_sendS (G : HS) (s : Int32) (S : CS) : Nat → CS | 0 => S | i + 1 => if f_ship G (nI i) = s then f_light (l_sendS G s S i) (nI i) else l_sendS G s S i
def l_sendN (G : HS) (s : Int32) (S : CS) : Nat → Int32 | 0 => 0 | i + 1 => if f_ship G (nI i) = s then (if f_litB (l_sendS G s S i) = true then l_sendN G s S i + 1 else l_sendN G s S i) else l_sendN G s S i
def f_end1 (S : CS) (s x : Int32) : CS := p_ru (p_st S (f_put 5 (c_st S) s x)) (f_mark 5 (c_ru S) s false)
def l_endA (s : Int32) (a : Fn) : Nat → Fn | 0 => a | i + 1 => f_put 20 (l_endA s a i) (f_place (nI i) s) (-1)
def f_end2 (S : CS) (s x : Int32) : CS := p_ag (f_end1 S s x) (l_endA s (c_ag S) 4)
def l_endC (G : HS) (s : Int32) (S : CS) : Nat → CS | 0 => S | i + 1 => if f_ship G (nI i) = s then p_ca (p_wa (l_endC G s S i) (c_wa (l_endC G s S i) + f_at 16 (c_ca (l_endC G s S i)) (nI i))) (f_put 16 (c_ca (l_endC G s S i)) (nI i) 0) else l_endC G s S i
def f_end (G : HS) (S : CS) (s x : Int32) : CS := l_endC G s (f_end2 S s x) 16
def l_lost (G : HS) (S : CS) : Nat → Int32 | 0 => 0 | i + 1 => if f_stay S (f_ship G (nI i)) = 2 then l_lost G S i + 1 else l_lost G S i
def f_ent1 (S : CS) (w s : Int32) : CS := p_ag S (f_put 20 (c_ag S) (f_place w s) 0)
def f_enter (S : CS) (w s : Int32) : CS := if f_trust (f_ent1 S w s) s < 6 then f_ent1 S w s else p_ru (f_ent1 S w s) (f_mark 5 (c_ru S) s true)
def l_scnt (a : Fn) : Nat → Int32 | 0 => 0 | i + 1 => if a i = -1 then l_scnt a i else l_scnt a i + 1
def l_bel (s : Int32) (S : CS) : Nat → CS | 0 => S | i + 1 => if f_hasS (l_bel s S i) (nI i) s = true then p_tr (l_bel s S i) (f_put 4 (c_tr (l_bel s S i)) (nI i) (if f_at 4 (c_tr (l_bel s S i)) (nI i) + 1 < 9 then f_at 4 (c_tr (l_bel s S i)) (nI i) + 1 else 9)) else l_bel s S i
def f_dark (G : HS) (S : CS) (p : Int32) : Bool := if f_stay S (f_ship G p) = 1 then (if f_at 16 (c_ca S) p = 0 then true else false) else false
def l_dark (G : HS) (S : CS) : Nat → Int32 | 0 => 0 | i + 1 => if f_dark G S (nI i) = true then l_dark G S i + 1 else l_dark G S i
-- nights
def f_doubt (S : CS) (w : Int32) : CS := p_tr S (f_put 4 (c_tr S) w (if 0 < f_at 4 (c_tr S) w - 2 then f_at 4 (c_tr S) w - 2 else 0))
def f_age1 (S : CS) (i : Nat) : CS := p_ag S (upd (c_ag S) i (c_ag S i + 1))
def l_age (S : CS) : Nat → CS | 0 => S | i + 1 => if c_ag (l_age S i) i = -1 then l_age S i else if c_ag (f_age1 (l_age S i) i) i < 3 then f_age1 (l_age S i) i else f_doubt (p_ag (f_age1 (l_age S i) i) (upd (c_ag (f_age1 (l_age S i) i)) i (-1))) (nI i / 5)
def l_unr (S : CS) : Nat → CS | 0 => S | i + 1 => if f_is 5 (c_ru (l_unr S i)) (nI i) = true then (if 6 ≤ f_trust (l_unr S i) (nI i) then l_unr S i else p_un (p_ru (l_unr S i) (f_mark 5 (c_ru (l_unr S i)) (nI i) false)) (c_un (l_unr S i) + 1)) else l_unr S i
def f_burn1 (G : HS) (S : CS) (p : Int32) : CS := p_ca S (f_put 16 (c_ca S) p (if 0 < f_at 16 (c_ca S) p - (1 + f_at 16 (g_mt G) p) then f_at 16 (c_ca S) p - (1 + f_at 16 (g_mt G) p) else 0))
def f_burns (G : HS) (S : CS) (p : Int32) : Bool := if f_stay S (f_ship G p) = 1 then (if f_is 5 (c_ru S) (f_ship G p) = true then false else true) else false
def l_burnS (G : HS) (S : CS) : Nat → CS | 0 => S | i + 1 => if f_stay (l_burnS G S i) (f_ship G (nI i)) = 1 then (if f_is 5 (c_ru (l_burnS G S i)) (f_ship G (nI i)) = true then l_burnS G S i else if f_at 16 (c_ca (f_burn1 G (l_burnS G S i) (nI i))) (nI i) = 0 then f_light (f_burn1 G (l_burnS G S i) (nI i)) (nI i) else f_burn1 G (l_burnS G S i) (nI i)) else l_burnS G S i
def l_burnN (G : HS) (S : CS) : Nat → Int32 | 0 => 0 | i + 1 => if f_stay (l_burnS G S i) (f_ship G (nI i)) = 1 then (if f_is 5 (c_ru (l_burnS G S i)) (f_ship G (nI i)) = true then l_burnN G S i else if f_at 16 (c_ca (f_burn1 G (l_burnS G S i) (nI i))) (nI i) = 0 then (if f_litB (f_burn1 G (l_burnS G S i) (nI i)) = true then l_burnN G S i + 1 else l_burnN G S i) else l_burnN G S i) else l_burnN G S i
def f_out1 (S : CS) (s : Int32) : CS := p_ou S (f_put 5 (c_ou S) s (f_at 5 (c_ou S) s + 1))
def l_loss (G : HS) (S : CS) : Nat → CS | 0 => S | i + 1 => if f_stay (l_loss G S i) (nI i) = 1 then (if f_at 5 (c_ou (l_loss G S i)) (nI i) + 1 ≤ 20 then f_out1 (l_loss G S i) (nI i) else if f_vtl G (nI i) = 0 then f_end G (f_out1 (l_loss G S i) (nI i)) (nI i) 2 else f_out1 (l_loss G S i) (nI i)) else l_loss G S i
def f_nightA (S : CS) : CS := l_unr (l_age S 20) 5
def f_nightN (G : HS) (S : CS) : Int32 := l_burnN G (f_nightA S) 16
def f_night (G : HS) (S : CS) : CS := p_ni (l_loss G (l_burnS G (f_nightA S) 16) 5) (c_ni (l_loss G (l_burnS G (f_nightA S) 16) 5) + 1)
def l_passS (G : HS) (S : CS) : Nat → CS | 0 => S | i + 1 => f_night G (l_passS G S i)
def l_passN (G : HS) (S : CS) : Nat → Int32 | 0 => 0 | i + 1 => l_passN G S i + f_nightN G (l_passS G S i)
-- refusals: 0 none, 1 a wrong index, 2 a wrong state, 3 a wrong argument
def t_ship (G : HS) (s : Int32) : Nat := if s < 0 then 1 else if s < nI (g_sc G) then 0 else 1
def t_sail (G : HS) (p : Int32) : Nat := if p < 0 then 1 else if p < nI (g_pc G) then 0 else 1
def t_wat (G : HS) (w : Int32) : Nat := if w < 0 then 1 else if w < nI (g_wc G) then 0 else 1
def t_new (G : HS) (S : CS) (w s : Int32) : Nat := if t_wat G w = 0 then (if t_ship G s = 0 then (if f_stay S s = 1 then (if f_hasS S w s = true then 2 else 0) else 2) else t_ship G s) else t_wat G w
def t_nights (n x : Int32) : Nat := if n < 1 then 3 else if n ≤ x then 0 else 3
def t_addShip (G : HS) (x : Int32) : Nat := if x < 1 then 3 else if x ≤ 3 then (if nI (g_sc G) < 5 then 0 else 2) else 3
def t_addSailor (G : HS) (S : CS) (s x : Int32) : Nat := if t_ship G s = 0 then (if x < 0 then 1 else if x < f_at 5 (g_ma G) s then (if f_stay S s = 0 then (if nI (g_pc G) < 16 then 0 else 2) else 2) else 1) else t_ship G s
def t_addWatcher (G : HS) : Nat := if nI (g_wc G) < 4 then 0 else 2
def t_buyWax (x : Int32) : Nat := if x < 1 then 3 else if x ≤ 500 then 0 else 3
def t_goes (G : HS) (S : CS) (s : Int32) : Nat := if t_ship G s = 0 then (if f_stay S s = 0 then 0 else 2) else t_ship G s
def t_home (G : HS) (S : CS) (s : Int32) : Nat := if t_ship G s = 0 then (if f_stay S s = 0 then 2 else 0) else t_ship G s
def t_vote (G : HS) (S : CS) (p : Int32) : Nat := if t_sail G p = 0 then (if f_is 16 (g_vo G) p = true then (if f_stay S (f_ship G p) = 1 then 0 else 2) else 2) else t_sail G p
def t_unr (G : HS) (S : CS) (s : Int32) : Nat := if t_ship G s = 0 then (if f_is 5 (c_ru S) s = true then 0 else 2) else t_ship G s
-- the face
def f_addWatcher (G : HS) (S : CS) : CS := p_tr S (f_put 4 (c_tr S) (nI (g_wc G)) 5)
def f_clear (G : HS) (s : Int32) : HS := h_gi G (l_clr (g_sh G) s (g_gi G) 16)
def f_sailS (G : HS) (S : CS) (s : Int32) : CS := l_sendS G s (f_send1 S s) 16
def f_sailN (G : HS) (S : CS) (s : Int32) : Int32 := l_sendN G s (f_send1 S s) 16
def f_comes (G : HS) (S : CS) (s : Int32) : CS := f_end G (l_bel s S 4) s 0
def f_vote (G : HS) (p : Int32) (v : Bool) : HS := h_gi G (f_mark 16 (g_gi G) p v)
def f_would (S : CS) (w s : Int32) : Bool := if f_is 5 (c_ru S) s = true then true else if f_trust S s + f_at 4 (c_tr S) w < 6 then false else true
def f_until (G : HS) (S : CS) (s : Int32) : Int32 := if f_is 5 (c_ru (f_night G S)) s = true then (if f_is 5 (c_ru (f_night G (f_night G S))) s = true then 3 else 2) else 1
/-- the least number below n with P, or n -/
def l_first (P : Nat → Bool) : Nat → Nat | 0 => 0 | n + 1 => if l_first P n < n then l_first P n else if P n = true then n else n + 1
theorem l_first_le (P : Nat → Bool) : ∀ n, l_first P n ≤ n
  | 0 => Nat.le_refl _
  | n + 1 => by
    rw [l_first]
    have := l_first_le P n
    split
    · omega
    · split <;> omega
theorem l_first_no (P : Nat → Bool) : ∀ n, (∀ j, j < n → P j = false) → l_first P n = n
  | 0, _ => rfl
  | n + 1, h => by
    rw [l_first, l_first_no P n (fun j hj => h j (by omega)), if_neg (by omega), if_neg (by rw [h n (by omega)]; decide)]
theorem l_first_at (P : Nat → Bool) (i : Nat) (h : ∀ j, j < i → P j = false) (hi : P i = true) : ∀ n, i < n → l_first P n = i
  | 0, q => absurd q (by omega)
  | n + 1, q => by
    rw [l_first]
    rcases Nat.lt_or_ge i n with a | a
    · rw [l_first_at P i h hi n a, if_pos a]
    · have e : i = n := by omega
      subst e
      rw [l_first_no P i h, if_neg (by omega), if_pos hi]
def f_isDk (G : HS) (S : CS) (j : Nat) : Bool := decide (0 < l_dark G (l_passS G S j) 16)
def f_untilD (G : HS) (S : CS) : Int32 := if l_first (f_isDk G S) 201 < 201 then nI (l_first (f_isDk G S) 201) else -1
/-- no candle is dark behind each of n nights -/
def l_lit (G : HS) (S : CS) : Nat → Bool | 0 => true | n + 1 => if l_lit G S n = true then !f_isDk G S (n + 1) else false
theorem l_lit_no (G : HS) (S : CS) {i : Nat} (h : l_lit G S i = false) : ∀ n, i ≤ n → l_lit G S n = false
  | 0, q => by have : i = 0 := by omega
               subst this; exact h
  | n + 1, q => by
    rcases Nat.lt_or_ge i (n + 1) with a | a
    · rw [l_lit, l_lit_no G S h n (by omega), if_neg (by decide)]
    · have e : i = n + 1 := by omega
      rw [← e]; exact h
def f_stayLit (G : HS) (S : CS) (b : Int32) (n : Nat) : Bool := l_lit G (p_wa S (c_wa S + b)) n
def l_want (P : Int32 → Bool) : Nat → Nat | 0 => 0 | i + 1 => if P (nI (l_want P i + 256 / 2 ^ i) - 1) = true then l_want P i else l_want P i + 256 / 2 ^ i
def f_want (G : HS) (S : CS) (n : Nat) : Int32 := if nI (l_want (fun b => f_stayLit G S b n) 9) ≤ 500 then nI (l_want (fun b => f_stayLit G S b n) 9) else -1
def l_sumT (a : Fn) : Nat → Int32 | 0 => 0 | i + 1 => l_sumT a i + f_at 4 a (nI i)
def f_mixShip (G : HS) (S : CS) (d : Int64) (s : Int32) : Int64 := f_mix (f_mix (f_mix (f_mix (f_mix (f_mix (f_mix (f_mix d (f_at 5 (g_ma G) s)) (bI (decide (¬ f_stay S s = 0)))) (bI (decide (f_stay S s = 2)))) (f_at 5 (c_ou S) s)) (bI (f_is 5 (c_ru S) s))) (f_trust S s)) (f_voters G s)) (f_votes G s)
def f_mixSailor (G : HS) (S : CS) (d : Int64) (p : Int32) : Int64 := f_mix (f_mix (f_mix (f_mix (f_mix d (f_ship G p)) (f_at 16 (g_mt G) p)) (bI (f_is 16 (g_vo G) p))) (bI (f_is 16 (g_gi G) p))) (f_at 16 (c_ca S) p)
def f_mean (G : HS) (S : CS) : UInt64 := if 0 < nI (g_wc G) then FP.ddiv (FP.i2d (l_sumT (c_tr S) (g_wc G))) (FP.i2d (nI (g_wc G))) else 0
def l_digS (G : HS) (S : CS) (d : Int64) : Nat → Int64 | 0 => d | i + 1 => f_mixShip G S (l_digS G S d i) (nI i)
def l_digP (G : HS) (S : CS) (d : Int64) : Nat → Int64 | 0 => d | i + 1 => f_mixSailor G S (l_digP G S d i) (nI i)
def l_digW (a : Fn) (d : Int64) : Nat → Int64 | 0 => d | i + 1 => f_mix (l_digW a d i) (f_at 4 a (nI i))
def f_dig1 (G : HS) (S : CS) : Int64 := f_mix (f_mix (f_mix (f_mix (f_mix (f_mix (f_mix (f_mix (f_mix 1949 (nI (g_sc G))) (nI (g_pc G))) (nI (g_wc G))) (l_scnt (c_ag S) 20)) (c_ni S)) (c_wa S)) (l_dark G S 16)) (c_un S)) (l_lost G S 16)
def f_digest (G : HS) (S : CS) : Int64 := l_digW (c_tr S) (l_digP G S (l_digS G S (f_dig1 G S) (g_sc G)) (g_pc G)) (g_wc G)
