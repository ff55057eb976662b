/-! ===== states, and what each method answers and does, in the words of this proof ===== -/
abbrev Fn : Type := Nat → Int32
abbrev FnB : Type := Nat → Bool
abbrev FnN : Type := Nat → Nat
abbrev CS : Type := Fn × Fn × FnB × Fn × Fn × Fn × Int32 × Int32 × Int32
def c_st (S : CS) : Fn := S.1
def c_ou (S : CS) : Fn := S.2.1
def c_ru (S : CS) : FnB := S.2.2.1
def c_ca (S : CS) : Fn := S.2.2.2.1
def c_tr (S : CS) : Fn := S.2.2.2.2.1
def c_ag (S : CS) : Fn := S.2.2.2.2.2.1
def c_ni (S : CS) : Int32 := S.2.2.2.2.2.2.1
def c_wa (S : CS) : Int32 := S.2.2.2.2.2.2.2.1
def c_un (S : CS) : Int32 := S.2.2.2.2.2.2.2.2
def p_st (S : CS) (x : Fn) : CS := (x, S.2)
def p_ou (S : CS) (x : Fn) : CS := (S.1, x, S.2.2)
def p_ru (S : CS) (x : FnB) : CS := (S.1, S.2.1, x, S.2.2.2)
def p_ca (S : CS) (x : Fn) : CS := (S.1, S.2.1, S.2.2.1, x, S.2.2.2.2)
def p_tr (S : CS) (x : Fn) : CS := (S.1, S.2.1, S.2.2.1, S.2.2.2.1, x, S.2.2.2.2.2)
def p_ag (S : CS) (x : Fn) : CS := (S.1, S.2.1, S.2.2.1, S.2.2.2.1, S.2.2.2.2.1, x, S.2.2.2.2.2.2)
def p_ni (S : CS) (x : Int32) : CS := (S.1, S.2.1, S.2.2.1, S.2.2.2.1, S.2.2.2.2.1, S.2.2.2.2.2.1, x, S.2.2.2.2.2.2.2)
def p_wa (S : CS) (x : Int32) : CS := (S.1, S.2.1, S.2.2.1, S.2.2.2.1, S.2.2.2.2.1, S.2.2.2.2.2.1, S.2.2.2.2.2.2.1, x, S.2.2.2.2.2.2.2.2)
def p_un (S : CS) (x : Int32) : CS := (S.1, S.2.1, S.2.2.1, S.2.2.2.1, S.2.2.2.2.1, S.2.2.2.2.2.1, S.2.2.2.2.2.2.1, S.2.2.2.2.2.2.2.1, x)
theorem cp_st (S : CS) (x : Fn) : c_st (p_st S x) = x := rfl
theorem cp_st_ou (S : CS) (x : Fn) : c_st (p_ou S x) = c_st S := rfl
theorem cp_st_ru (S : CS) (x : FnB) : c_st (p_ru S x) = c_st S := rfl
theorem cp_st_ca (S : CS) (x : Fn) : c_st (p_ca S x) = c_st S := rfl
theorem cp_st_tr (S : CS) (x : Fn) : c_st (p_tr S x) = c_st S := rfl
theorem cp_st_ag (S : CS) (x : Fn) : c_st (p_ag S x) = c_st S := rfl
theorem cp_st_ni (S : CS) (x : Int32) : c_st (p_ni S x) = c_st S := rfl
theorem cp_st_wa (S : CS) (x : Int32) : c_st (p_wa S x) = c_st S := rfl
theorem cp_st_un (S : CS) (x : Int32) : c_st (p_un S x) = c_st S := rfl
theorem cp_ou_st (S : CS) (x : Fn) : c_ou (p_st S x) = c_ou S := rfl
theorem cp_ou (S : CS) (x : Fn) : c_ou (p_ou S x) = x := rfl
theorem cp_ou_ru (S : CS) (x : FnB) : c_ou (p_ru S x) = c_ou S := rfl
theorem cp_ou_ca (S : CS) (x : Fn) : c_ou (p_ca S x) = c_ou S := rfl
theorem cp_ou_tr (S : CS) (x : Fn) : c_ou (p_tr S x) = c_ou S := rfl
theorem cp_ou_ag (S : CS) (x : Fn) : c_ou (p_ag S x) = c_ou S := rfl
theorem cp_ou_ni (S : CS) (x : Int32) : c_ou (p_ni S x) = c_ou S := rfl
theorem cp_ou_wa (S : CS) (x : Int32) : c_ou (p_wa S x) = c_ou S := rfl
theorem cp_ou_un (S : CS) (x : Int32) : c_ou (p_un S x) = c_ou S := rfl
theorem cp_ru_st (S : CS) (x : Fn) : c_ru (p_st S x) = c_ru S := rfl
theorem cp_ru_ou (S : CS) (x : Fn) : c_ru (p_ou S x) = c_ru S := rfl
theorem cp_ru (S : CS) (x : FnB) : c_ru (p_ru S x) = x := rfl
theorem cp_ru_ca (S : CS) (x : Fn) : c_ru (p_ca S x) = c_ru S := rfl
theorem cp_ru_tr (S : CS) (x : Fn) : c_ru (p_tr S x) = c_ru S := rfl
theorem cp_ru_ag (S : CS) (x : Fn) : c_ru (p_ag S x) = c_ru S := rfl
theorem cp_ru_ni (S : CS) (x : Int32) : c_ru (p_ni S x) = c_ru S := rfl
theorem cp_ru_wa (S : CS) (x : Int32) : c_ru (p_wa S x) = c_ru S := rfl
theorem cp_ru_un (S : CS) (x : Int32) : c_ru (p_un S x) = c_ru S := rfl
theorem cp_ca_st (S : CS) (x : Fn) : c_ca (p_st S x) = c_ca S := rfl
theorem cp_ca_ou (S : CS) (x : Fn) : c_ca (p_ou S x) = c_ca S := rfl
theorem cp_ca_ru (S : CS) (x : FnB) : c_ca (p_ru S x) = c_ca S := rfl
theorem cp_ca (S : CS) (x : Fn) : c_ca (p_ca S x) = x := rfl
theorem cp_ca_tr (S : CS) (x : Fn) : c_ca (p_tr S x) = c_ca S := rfl
theorem cp_ca_ag (S : CS) (x : Fn) : c_ca (p_ag S x) = c_ca S := rfl
theorem cp_ca_ni (S : CS) (x : Int32) : c_ca (p_ni S x) = c_ca S := rfl
theorem cp_ca_wa (S : CS) (x : Int32) : c_ca (p_wa S x) = c_ca S := rfl
theorem cp_ca_un (S : CS) (x : Int32) : c_ca (p_un S x) = c_ca S := rfl
theorem cp_tr_st (S : CS) (x : Fn) : c_tr (p_st S x) = c_tr S := rfl
theorem cp_tr_ou (S : CS) (x : Fn) : c_tr (p_ou S x) = c_tr S := rfl
theorem cp_tr_ru (S : CS) (x : FnB) : c_tr (p_ru S x) = c_tr S := rfl
theorem cp_tr_ca (S : CS) (x : Fn) : c_tr (p_ca S x) = c_tr S := rfl
theorem cp_tr (S : CS) (x : Fn) : c_tr (p_tr S x) = x := rfl
theorem cp_tr_ag (S : CS) (x : Fn) : c_tr (p_ag S x) = c_tr S := rfl
theorem cp_tr_ni (S : CS) (x : Int32) : c_tr (p_ni S x) = c_tr S := rfl
theorem cp_tr_wa (S : CS) (x : Int32) : c_tr (p_wa S x) = c_tr S := rfl
theorem cp_tr_un (S : CS) (x : Int32) : c_tr (p_un S x) = c_tr S := rfl
theorem cp_ag_st (S : CS) (x : Fn) : c_ag (p_st S x) = c_ag S := rfl
theorem cp_ag_ou (S : CS) (x : Fn) : c_ag (p_ou S x) = c_ag S := rfl
theorem cp_ag_ru (S : CS) (x : FnB) : c_ag (p_ru S x) = c_ag S := rfl
theorem cp_ag_ca (S : CS) (x : Fn) : c_ag (p_ca S x) = c_ag S := rfl
theorem cp_ag_tr (S : CS) (x : Fn) : c_ag (p_tr S x) = c_ag S := rfl
theorem cp_ag (S : CS) (x : Fn) : c_ag (p_ag S x) = x := rfl
theorem cp_ag_ni (S : CS) (x : Int32) : c_ag (p_ni S x) = c_ag S := rfl
theorem cp_ag_wa (S : CS) (x : Int32) : c_ag (p_wa S x) = c_ag S := rfl
theorem cp_ag_un (S : CS) (x : Int32) : c_ag (p_un S x) = c_ag S := rfl
theorem cp_ni_st (S : CS) (x : Fn) : c_ni (p_st S x) = c_ni S := rfl
theorem cp_ni_ou (S : CS) (x : Fn) : c_ni (p_ou S x) = c_ni S := rfl
theorem cp_ni_ru (S : CS) (x : FnB) : c_ni (p_ru S x) = c_ni S := rfl
theorem cp_ni_ca (S : CS) (x : Fn) : c_ni (p_ca S x) = c_ni S := rfl
theorem cp_ni_tr (S : CS) (x : Fn) : c_ni (p_tr S x) = c_ni S := rfl
theorem cp_ni_ag (S : CS) (x : Fn) : c_ni (p_ag S x) = c_ni S := rfl
theorem cp_ni (S : CS) (x : Int32) : c_ni (p_ni S x) = x := rfl
theorem cp_ni_wa (S : CS) (x : Int32) : c_ni (p_wa S x) = c_ni S := rfl
theorem cp_ni_un (S : CS) (x : Int32) : c_ni (p_un S x) = c_ni S := rfl
theorem cp_wa_st (S : CS) (x : Fn) : c_wa (p_st S x) = c_wa S := rfl
theorem cp_wa_ou (S : CS) (x : Fn) : c_wa (p_ou S x) = c_wa S := rfl
theorem cp_wa_ru (S : CS) (x : FnB) : c_wa (p_ru S x) = c_wa S := rfl
theorem cp_wa_ca (S : CS) (x : Fn) : c_wa (p_ca S x) = c_wa S := rfl
theorem cp_wa_tr (S : CS) (x : Fn) : c_wa (p_tr S x) = c_wa S := rfl
theorem cp_wa_ag (S : CS) (x : Fn) : c_wa (p_ag S x) = c_wa S := rfl
theorem cp_wa_ni (S : CS) (x : Int32) : c_wa (p_ni S x) = c_wa S := rfl
theorem cp_wa (S : CS) (x : Int32) : c_wa (p_wa S x) = x := rfl
theorem cp_wa_un (S : CS) (x : Int32) : c_wa (p_un S x) = c_wa S := rfl
theorem cp_un_st (S : CS) (x : Fn) : c_un (p_st S x) = c_un S := rfl
theorem cp_un_ou (S : CS) (x : Fn) : c_un (p_ou S x) = c_un S := rfl
theorem cp_un_ru (S : CS) (x : FnB) : c_un (p_ru S x) = c_un S := rfl
theorem cp_un_ca (S : CS) (x : Fn) : c_un (p_ca S x) = c_un S := rfl
theorem cp_un_tr (S : CS) (x : Fn) : c_un (p_tr S x) = c_un S := rfl
theorem cp_un_ag (S : CS) (x : Fn) : c_un (p_ag S x) = c_un S := rfl
theorem cp_un_ni (S : CS) (x : Int32) : c_un (p_ni S x) = c_un S := rfl
theorem cp_un_wa (S : CS) (x : Int32) : c_un (p_wa S x) = c_un S := rfl
theorem cp_un (S : CS) (x : Int32) : c_un (p_un S x) = x := rfl
abbrev HS : Type := Nat × Nat × Nat × Fn × Fn × Fn × FnB × FnB
def g_sc (S : HS) : Nat := S.1
def g_pc (S : HS) : Nat := S.2.1
def g_wc (S : HS) : Nat := S.2.2.1
def g_ma (S : HS) : Fn := S.2.2.2.1
def g_sh (S : HS) : Fn := S.2.2.2.2.1
def g_mt (S : HS) : Fn := S.2.2.2.2.2.1
def g_vo (S : HS) : FnB := S.2.2.2.2.2.2.1
def g_gi (S : HS) : FnB := S.2.2.2.2.2.2.2
def h_sc (S : HS) (x : Nat) : HS := (x, S.2)
def h_pc (S : HS) (x : Nat) : HS := (S.1, x, S.2.2)
def h_wc (S : HS) (x : Nat) : HS := (S.1, S.2.1, x, S.2.2.2)
def h_ma (S : HS) (x : Fn) : HS := (S.1, S.2.1, S.2.2.1, x, S.2.2.2.2)
def h_sh (S : HS) (x : Fn) : HS := (S.1, S.2.1, S.2.2.1, S.2.2.2.1, x, S.2.2.2.2.2)
def h_mt (S : HS) (x : Fn) : HS := (S.1, S.2.1, S.2.2.1, S.2.2.2.1, S.2.2.2.2.1, x, S.2.2.2.2.2.2)
def h_vo (S : HS) (x : FnB) : HS := (S.1, S.2.1, S.2.2.1, S.2.2.2.1, S.2.2.2.2.1, S.2.2.2.2.2.1, x, S.2.2.2.2.2.2.2)
def h_gi (S : HS) (x : FnB) : HS := (S.1, S.2.1, S.2.2.1, S.2.2.2.1, S.2.2.2.2.1, S.2.2.2.2.2.1, S.2.2.2.2.2.2.1, x)
theorem gh_sc (S : HS) (x : Nat) : g_sc (h_sc S x) = x := rfl
theorem gh_sc_pc (S : HS) (x : Nat) : g_sc (h_pc S x) = g_sc S := rfl
theorem gh_sc_wc (S : HS) (x : Nat) : g_sc (h_wc S x) = g_sc S := rfl
theorem gh_sc_ma (S : HS) (x : Fn) : g_sc (h_ma S x) = g_sc S := rfl
theorem gh_sc_sh (S : HS) (x : Fn) : g_sc (h_sh S x) = g_sc S := rfl
theorem gh_sc_mt (S : HS) (x : Fn) : g_sc (h_mt S x) = g_sc S := rfl
theorem gh_sc_vo (S : HS) (x : FnB) : g_sc (h_vo S x) = g_sc S := rfl
theorem gh_sc_gi (S : HS) (x : FnB) : g_sc (h_gi S x) = g_sc S := rfl
theorem gh_pc_sc (S : HS) (x : Nat) : g_pc (h_sc S x) = g_pc S := rfl
theorem gh_pc (S : HS) (x : Nat) : g_pc (h_pc S x) = x := rfl
theorem gh_pc_wc (S : HS) (x : Nat) : g_pc (h_wc S x) = g_pc S := rfl
theorem gh_pc_ma (S : HS) (x : Fn) : g_pc (h_ma S x) = g_pc S := rfl
theorem gh_pc_sh (S : HS) (x : Fn) : g_pc (h_sh S x) = g_pc S := rfl
theorem gh_pc_mt (S : HS) (x : Fn) : g_pc (h_mt S x) = g_pc S := rfl
theorem gh_pc_vo (S : HS) (x : FnB) : g_pc (h_vo S x) = g_pc S := rfl
theorem gh_pc_gi (S : HS) (x : FnB) : g_pc (h_gi S x) = g_pc S := rfl
theorem gh_wc_sc (S : HS) (x : Nat) : g_wc (h_sc S x) = g_wc S := rfl
theorem gh_wc_pc (S : HS) (x : Nat) : g_wc (h_pc S x) = g_wc S := rfl
theorem gh_wc (S : HS) (x : Nat) : g_wc (h_wc S x) = x := rfl
theorem gh_wc_ma (S : HS) (x : Fn) : g_wc (h_ma S x) = g_wc S := rfl
theorem gh_wc_sh (S : HS) (x : Fn) : g_wc (h_sh S x) = g_wc S := rfl
theorem gh_wc_mt (S : HS) (x : Fn) : g_wc (h_mt S x) = g_wc S := rfl
theorem gh_wc_vo (S : HS) (x : FnB) : g_wc (h_vo S x) = g_wc S := rfl
theorem gh_wc_gi (S : HS) (x : FnB) : g_wc (h_gi S x) = g_wc S := rfl
theorem gh_ma_sc (S : HS) (x : Nat) : g_ma (h_sc S x) = g_ma S := rfl
theorem gh_ma_pc (S : HS) (x : Nat) : g_ma (h_pc S x) = g_ma S := rfl
theorem gh_ma_wc (S : HS) (x : Nat) : g_ma (h_wc S x) = g_ma S := rfl
theorem gh_ma (S : HS) (x : Fn) : g_ma (h_ma S x) = x := rfl
theorem gh_ma_sh (S : HS) (x : Fn) : g_ma (h_sh S x) = g_ma S := rfl
theorem gh_ma_mt (S : HS) (x : Fn) : g_ma (h_mt S x) = g_ma S := rfl
theorem gh_ma_vo (S : HS) (x : FnB) : g_ma (h_vo S x) = g_ma S := rfl
theorem gh_ma_gi (S : HS) (x : FnB) : g_ma (h_gi S x) = g_ma S := rfl
theorem gh_sh_sc (S : HS) (x : Nat) : g_sh (h_sc S x) = g_sh S := rfl
theorem gh_sh_pc (S : HS) (x : Nat) : g_sh (h_pc S x) = g_sh S := rfl
theorem gh_sh_wc (S : HS) (x : Nat) : g_sh (h_wc S x) = g_sh S := rfl
theorem gh_sh_ma (S : HS) (x : Fn) : g_sh (h_ma S x) = g_sh S := rfl
theorem gh_sh (S : HS) (x : Fn) : g_sh (h_sh S x) = x := rfl
theorem gh_sh_mt (S : HS) (x : Fn) : g_sh (h_mt S x) = g_sh S := rfl
theorem gh_sh_vo (S : HS) (x : FnB) : g_sh (h_vo S x) = g_sh S := rfl
theorem gh_sh_gi (S : HS) (x : FnB) : g_sh (h_gi S x) = g_sh S := rfl
theorem gh_mt_sc (S : HS) (x : Nat) : g_mt (h_sc S x) = g_mt S := rfl
theorem gh_mt_pc (S : HS) (x : Nat) : g_mt (h_pc S x) = g_mt S := rfl
theorem gh_mt_wc (S : HS) (x : Nat) : g_mt (h_wc S x) = g_mt S := rfl
theorem gh_mt_ma (S : HS) (x : Fn) : g_mt (h_ma S x) = g_mt S := rfl
theorem gh_mt_sh (S : HS) (x : Fn) : g_mt (h_sh S x) = g_mt S := rfl
theorem gh_mt (S : HS) (x : Fn) : g_mt (h_mt S x) = x := rfl
theorem gh_mt_vo (S : HS) (x : FnB) : g_mt (h_vo S x) = g_mt S := rfl
theorem gh_mt_gi (S : HS) (x : FnB) : g_mt (h_gi S x) = g_mt S := rfl
theorem gh_vo_sc (S : HS) (x : Nat) : g_vo (h_sc S x) = g_vo S := rfl
theorem gh_vo_pc (S : HS) (x : Nat) : g_vo (h_pc S x) = g_vo S := rfl
theorem gh_vo_wc (S : HS) (x : Nat) : g_vo (h_wc S x) = g_vo S := rfl
theorem gh_vo_ma (S : HS) (x : Fn) : g_vo (h_ma S x) = g_vo S := rfl
theorem gh_vo_sh (S : HS) (x : Fn) : g_vo (h_sh S x) = g_vo S := rfl
theorem gh_vo_mt (S : HS) (x : Fn) : g_vo (h_mt S x) = g_vo S := rfl
theorem gh_vo (S : HS) (x : FnB) : g_vo (h_vo S x) = x := rfl
theorem gh_vo_gi (S : HS) (x : FnB) : g_vo (h_gi S x) = g_vo S := rfl
theorem gh_gi_sc (S : HS) (x : Nat) : g_gi (h_sc S x) = g_gi S := rfl
theorem gh_gi_pc (S : HS) (x : Nat) : g_gi (h_pc S x) = g_gi S := rfl
theorem gh_gi_wc (S : HS) (x : Nat) : g_gi (h_wc S x) = g_gi S := rfl
theorem gh_gi_ma (S : HS) (x : Fn) : g_gi (h_ma S x) = g_gi S := rfl
theorem gh_gi_sh (S : HS) (x : Fn) : g_gi (h_sh S x) = g_gi S := rfl
theorem gh_gi_mt (S : HS) (x : Fn) : g_gi (h_mt S x) = g_gi S := rfl
theorem gh_gi_vo (S : HS) (x : FnB) : g_gi (h_vo S x) = g_gi S := rfl
theorem gh_gi (S : HS) (x : FnB) : g_gi (h_gi S x) = x := rfl
theorem bI_nz {b : Bool} (h : ¬ bI b = 0) : b = true := by cases b; exact absurd rfl h; rfl
theorem bI_z {b : Bool} (h : bI b = 0) : b = false := (bI_e0 b).mp h
theorem vp_raw {i : Int32} {n : Nat} (h1 : ¬ i < 0) (h2 : ¬ nI n ≤ i) (hn : n < 2147483648) : vp_in i n := by
  rcases pk_ix i hn with h | h | ⟨j, hj, rfl⟩
  · exact absurd h h1
  · exact absurd h h2
  · exact vp_in_nI hj hn
def updN (f : Nat → Nat) (k x : Nat) : Nat → Nat := fun j => if j = k then x else f j
/-- a row of small numbers -/
abbrev aN (E : Ev) (n : Nat) (f : Nat → Nat) : va_E := .inl (E.2.1, n, .inl (fun j => nI (f j)))
theorem nN_upd (f : Nat → Nat) (k x : Nat) : upd (fun j => nI (f j)) k (nI x) = fun j => nI (updN f k x j) := by
  funext j
  by_cases h : j = k
  · subst h; simp [upd, updN]
  · simp [upd, updN, h]
def wC (E : Ev) (A : Nat → Nat) (hb : Nat) (S : CS) : va_W := [(A 0, .inr (0, [.ref hb, .ref (A 1), .ref (A 2), .ref (A 3), .ref (A 4), .ref (A 5), .ref (A 6), .int (c_ni S), .int (c_wa S), .int (c_un S)])), (A 1, aI E 5 (c_st S)), (A 2, aI E 5 (c_ou S)), (A 3, aZ E 5 (c_ru S)), (A 4, aI E 16 (c_ca S)), (A 5, aI E 4 (c_tr S)), (A 6, aI E 20 (c_ag S))]
def wG (E : Ev) (B : Nat → Nat) (G : HS) : va_W := [(B 0, .inr (1, [.int (nI (g_sc G)), .int (nI (g_pc G)), .int (nI (g_wc G)), .ref (B 1), .ref (B 2), .ref (B 3), .ref (B 4), .ref (B 5)])), (B 1, aI E 5 (g_ma G)), (B 2, aI E 16 (g_sh G)), (B 3, aI E 16 (g_mt G)), (B 4, aZ E 16 (g_vo G)), (B 5, aZ E 16 (g_gi G))]
def wX (x : Nat) (A T B : Nat → Nat) : va_W := [(x, .inr (2, [.ref (B 0), .ref (A 0), .ref (T 0)]))]
section ROWS2
variable {p : Program} {l : Launch} {e : Env} {R : Room} {s : State} {m : MethodId} {args : Array Value} {below : List Frame} {meth : Method} {c : Code} {H : Heap} {locs : List Loc} {cells slots : Nat} {Q : State → Prop}
variable {cc : ByteArray} {E : Ev} {A : Nat → Prop} {H0 : Heap} {ws ws' : va_W} {pc : Nat} {ls : Array Slot} {rest : List Value} {a : Nat}
theorem k_nldN (hx : p.tables.exec = Jvm.exec) (hb : c.code = cc) (hK : va_K E.1 vwCl (tysE E) s) (hw : Wd E A H0 ws H locs) (q0 : Nat) {n : Nat} {f : Nat → Nat} (ha : ws[q0]? = some (a, aN E n f)) {i : Nat} (hi : i < n) (hn : n < 2 ^ 31) (hdg : decode cc pc = .ok (.iaload, 1))
    (kk : W p l e R s m args below meth c H locs cells slots Q (F0 m (pc + 1) ls (.int (nI (f i)) :: rest))) : W p l e R s m args below meth c H locs cells slots Q (F0 m pc ls (.int (nI i) :: .ref a :: rest)) :=
  k_ild (n := n) hx hb hK hw q0 ha (vp_in_nI hi hn) (by rw [nI_clamp (by omega)]) hdg kk
theorem k_nstN (hx : p.tables.exec = Jvm.exec) (hb : c.code = cc) (hK : va_K E.1 vwCl (tysE E) s) (hw : Wd E A H0 ws H locs) (q0 : Nat) {n : Nat} {f : Nat → Nat} (ha : ws[q0]? = some (a, aN E n f)) {i v : Nat} (hi : i < n) (hn : n < 2 ^ 31) (hdg : decode cc pc = .ok (.iastore, 1)) (hws : ws.set q0 (a, aN E n (updN f i v)) = ws')
    (kk : ∀ (H1 : Heap) (locs1 : List Loc), Wd E A H0 ws' H1 locs1 → W p l e R s m args below meth c H1 locs1 cells slots Q (F0 m (pc + 1) ls rest)) : W p l e R s m args below meth c H locs cells slots Q (F0 m pc ls (.int (nI v) :: .int (nI i) :: .ref a :: rest)) := by
  subst hws
  refine va_iast (n := n) (f := fun j => nI (f j)) hx hb hK hw.1 hw.2.1 hw.2.2 q0 0 ha rfl (vp_in_nI hi hn) hdg (fun H1 locs1 h1 h2 h3 => kk H1 locs1 ?_)
  rw [nI_clamp (by omega), nN_upd] at h1 h2
  exact ⟨h1, h2, h3⟩
theorem k_lenN (hx : p.tables.exec = Jvm.exec) (hb : c.code = cc) (hK : va_K E.1 vwCl (tysE E) s) (hw : Wd E A H0 ws H locs) (q0 : Nat) {n : Nat} {f : Nat → Nat} (ha : ws[q0]? = some (a, aN E n f)) (hdg : decode cc pc = .ok (.arraylength, 1))
    (kk : W p l e R s m args below meth c H locs cells slots Q (F0 m (pc + 1) ls (.int (nI n) :: rest))) : W p l e R s m args below meth c H locs cells slots Q (F0 m pc ls (.ref a :: rest)) :=
  va_alen hx hb hK hw.1 q0 0 ha rfl rfl hdg kk
theorem k_iaddN (hx : p.tables.exec = Jvm.exec) (hb : c.code = cc) {a b : Nat} (hdg : decode cc pc = .ok (.iadd, 1)) (kk : W p l e R s m args below meth c H locs cells slots Q (F0 m (pc + 1) ls (.int (nI (a + b)) :: rest))) : W p l e R s m args below meth c H locs cells slots Q (F0 m pc ls (.int (nI b) :: .int (nI a) :: rest)) :=
  lv_iadd hx hb hdg (by rw [nI_add]; exact kk)
theorem k_imulN (hx : p.tables.exec = Jvm.exec) (hb : c.code = cc) {a b : Nat} (hdg : decode cc pc = .ok (.imul, 1)) (kk : W p l e R s m args below meth c H locs cells slots Q (F0 m (pc + 1) ls (.int (nI (a * b)) :: rest))) : W p l e R s m args below meth c H locs cells slots Q (F0 m pc ls (.int (nI b) :: .int (nI a) :: rest)) :=
  lv_imul hx hb hdg (by rw [pk_mul]; exact kk)
theorem k_copy (hx : p.tables.exec = Jvm.exec) (hb : c.code = cc) (hml : c.maxLocals = ls.size) {own : String} {index : Nat} (hown : s.vm.findClass own = some m.cls) (hlink : (Cond.methodLink own index arraycopyName).before args s = true) (hnat : (Cond.native arraycopyName).before args s = true) (hstat : (Cond.static arraycopyName).before args s = true) (hini : (Cond.initialized "java/lang/System").before args s = true)
    (hK : va_K E.1 vwCl (tysE E) s) (hw : Wd E A H0 ws H locs) (q0 q1 : Nat) {a0 n0 n1 N : Nat} {f g : Nat → Int32} (ha0 : ws[q0]? = some (a0, aI E n0 f)) (ha1 : ws[q1]? = some (a, aI E n1 g)) (hN : N < 2 ^ 31) (h4 : N ≤ n0) (h5 : N ≤ n1)
    (hframes : 1 ≤ R.frames) (hlocals : (rest.map fun v => v.category).sum + (nativeFrameWords "java/lang/System" "arraycopy" 5 + 11) ≤ R.locals) (hdg : decode cc pc = .ok (.invokestatic index, 3)) (hws : ws.set q1 (a, aI E n1 (va_cpy f g 0 0 N)) = ws')
    (kk : ∀ (H1 : Heap) (locs1 : List Loc), Wd E A H0 ws' H1 locs1 → W p l e R s m args below meth c H1 locs1 cells slots Q (F0 m (pc + 3) ls rest)) : W p l e R s m args below meth c H locs cells slots Q (F0 m pc ls (.int (nI N) :: .int 0 :: .ref a :: .int 0 :: .ref a0 :: rest)) := by
  subst hws
  have hz : (0 : Int32).toNatClampNeg = 0 := rfl
  have hc := nI_clamp hN
  refine va_copyi hx hb hml hown hlink hnat hstat hini hK hw.1 hw.2.1 hw.2.2 q0 q1 0 0 (f := f) (g := g) (ty := .int) ha0 ha1 rfl rfl rfl (by decide) (by decide) (nI_pos hN) (by rw [hz, hc]; omega) (by rw [hz, hc]; omega) (fun i _ => rfl) hframes hlocals hdg (fun H1 locs1 h1 h2 h3 => kk H1 locs1 ?_)
  rw [hz, hc] at h1 h2
  exact ⟨h1, h2, h3⟩
end ROWS2
theorem va_S_kept9 {A : Nat → Prop} {s t : State} {H : Heap} {locs : List Loc} (hS : va_S A s.heap H locs) (hz : H.size ≤ t.heap.size) (hk : ∀ q : Nat, q < H.size → t.heap[q]? = H[q]?) : va_F A s t :=
  ⟨Nat.le_trans hS.1 hz, fun q h1 h2 => (hk q (Nat.lt_of_lt_of_le h1 hS.1)).trans (hS.2.1 q h1 h2)⟩
theorem hd_X0_init : yX0_init.cls ≠ "java/lang/invoke/MethodHandle" ∧ yX0_init.cls ≠ "java/lang/invoke/VarHandle" ∧ (parseMethodDescriptor yX0_init.desc).map (fun d => d.parameters.length) = some 1 := by decide +kernel
theorem hd_X0_copyFrom : yX0_copyFrom.cls ≠ "java/lang/invoke/MethodHandle" ∧ yX0_copyFrom.cls ≠ "java/lang/invoke/VarHandle" ∧ (parseMethodDescriptor yX0_copyFrom.desc).map (fun d => d.parameters.length) = some 1 := by decide +kernel
theorem hd_X0_stayOf : yX0_stayOf.cls ≠ "java/lang/invoke/MethodHandle" ∧ yX0_stayOf.cls ≠ "java/lang/invoke/VarHandle" ∧ (parseMethodDescriptor yX0_stayOf.desc).map (fun d => d.parameters.length) = some 1 := by decide +kernel
theorem hd_X0_sendOut : yX0_sendOut.cls ≠ "java/lang/invoke/MethodHandle" ∧ yX0_sendOut.cls ≠ "java/lang/invoke/VarHandle" ∧ (parseMethodDescriptor yX0_sendOut.desc).map (fun d => d.parameters.length) = some 1 := by decide +kernel
theorem hd_X0_endWaiting : yX0_endWaiting.cls ≠ "java/lang/invoke/MethodHandle" ∧ yX0_endWaiting.cls ≠ "java/lang/invoke/VarHandle" ∧ (parseMethodDescriptor yX0_endWaiting.desc).map (fun d => d.parameters.length) = some 2 := by decide +kernel
theorem hd_X0_lostSailors : yX0_lostSailors.cls ≠ "java/lang/invoke/MethodHandle" ∧ yX0_lostSailors.cls ≠ "java/lang/invoke/VarHandle" ∧ (parseMethodDescriptor yX0_lostSailors.desc).map (fun d => d.parameters.length) = some 0 := by decide +kernel
theorem hd_X0_hasSighting : yX0_hasSighting.cls ≠ "java/lang/invoke/MethodHandle" ∧ yX0_hasSighting.cls ≠ "java/lang/invoke/VarHandle" ∧ (parseMethodDescriptor yX0_hasSighting.desc).map (fun d => d.parameters.length) = some 2 := by decide +kernel
theorem hd_X0_enterSighting : yX0_enterSighting.cls ≠ "java/lang/invoke/MethodHandle" ∧ yX0_enterSighting.cls ≠ "java/lang/invoke/VarHandle" ∧ (parseMethodDescriptor yX0_enterSighting.desc).map (fun d => d.parameters.length) = some 2 := by decide +kernel
theorem hd_X0_sightingCount : yX0_sightingCount.cls ≠ "java/lang/invoke/MethodHandle" ∧ yX0_sightingCount.cls ≠ "java/lang/invoke/VarHandle" ∧ (parseMethodDescriptor yX0_sightingCount.desc).map (fun d => d.parameters.length) = some 0 := by decide +kernel
theorem hd_X0_trustSum : yX0_trustSum.cls ≠ "java/lang/invoke/MethodHandle" ∧ yX0_trustSum.cls ≠ "java/lang/invoke/VarHandle" ∧ (parseMethodDescriptor yX0_trustSum.desc).map (fun d => d.parameters.length) = some 1 := by decide +kernel
theorem hd_X0_believeWatchersOf : yX0_believeWatchersOf.cls ≠ "java/lang/invoke/MethodHandle" ∧ yX0_believeWatchersOf.cls ≠ "java/lang/invoke/VarHandle" ∧ (parseMethodDescriptor yX0_believeWatchersOf.desc).map (fun d => d.parameters.length) = some 1 := by decide +kernel
theorem hd_X0_placeOf : yX0_placeOf.cls ≠ "java/lang/invoke/MethodHandle" ∧ yX0_placeOf.cls ≠ "java/lang/invoke/VarHandle" ∧ (parseMethodDescriptor yX0_placeOf.desc).map (fun d => d.parameters.length) = some 2 := by decide +kernel
theorem hd_X0_watcherAt : yX0_watcherAt.cls ≠ "java/lang/invoke/MethodHandle" ∧ yX0_watcherAt.cls ≠ "java/lang/invoke/VarHandle" ∧ (parseMethodDescriptor yX0_watcherAt.desc).map (fun d => d.parameters.length) = some 1 := by decide +kernel
theorem hd_X0_darkFor : yX0_darkFor.cls ≠ "java/lang/invoke/MethodHandle" ∧ yX0_darkFor.cls ≠ "java/lang/invoke/VarHandle" ∧ (parseMethodDescriptor yX0_darkFor.desc).map (fun d => d.parameters.length) = some 1 := by decide +kernel
theorem hd_X0_darkCount : yX0_darkCount.cls ≠ "java/lang/invoke/MethodHandle" ∧ yX0_darkCount.cls ≠ "java/lang/invoke/VarHandle" ∧ (parseMethodDescriptor yX0_darkCount.desc).map (fun d => d.parameters.length) = some 0 := by decide +kernel
theorem hd_X0_lightCandle : yX0_lightCandle.cls ≠ "java/lang/invoke/MethodHandle" ∧ yX0_lightCandle.cls ≠ "java/lang/invoke/VarHandle" ∧ (parseMethodDescriptor yX0_lightCandle.desc).map (fun d => d.parameters.length) = some 1 := by decide +kernel
theorem hd_X0_passNights : yX0_passNights.cls ≠ "java/lang/invoke/MethodHandle" ∧ yX0_passNights.cls ≠ "java/lang/invoke/VarHandle" ∧ (parseMethodDescriptor yX0_passNights.desc).map (fun d => d.parameters.length) = some 1 := by decide +kernel
theorem hd_X0_passNight : yX0_passNight.cls ≠ "java/lang/invoke/MethodHandle" ∧ yX0_passNight.cls ≠ "java/lang/invoke/VarHandle" ∧ (parseMethodDescriptor yX0_passNight.desc).map (fun d => d.parameters.length) = some 0 := by decide +kernel
theorem hd_X0_ageSightings : yX0_ageSightings.cls ≠ "java/lang/invoke/MethodHandle" ∧ yX0_ageSightings.cls ≠ "java/lang/invoke/VarHandle" ∧ (parseMethodDescriptor yX0_ageSightings.desc).map (fun d => d.parameters.length) = some 0 := by decide +kernel
theorem hd_X0_doubt : yX0_doubt.cls ≠ "java/lang/invoke/MethodHandle" ∧ yX0_doubt.cls ≠ "java/lang/invoke/VarHandle" ∧ (parseMethodDescriptor yX0_doubt.desc).map (fun d => d.parameters.length) = some 1 := by decide +kernel
theorem hd_X0_unringBells : yX0_unringBells.cls ≠ "java/lang/invoke/MethodHandle" ∧ yX0_unringBells.cls ≠ "java/lang/invoke/VarHandle" ∧ (parseMethodDescriptor yX0_unringBells.desc).map (fun d => d.parameters.length) = some 0 := by decide +kernel
theorem hd_X0_burnCandles : yX0_burnCandles.cls ≠ "java/lang/invoke/MethodHandle" ∧ yX0_burnCandles.cls ≠ "java/lang/invoke/VarHandle" ∧ (parseMethodDescriptor yX0_burnCandles.desc).map (fun d => d.parameters.length) = some 0 := by decide +kernel
theorem hd_X0_burnCandle : yX0_burnCandle.cls ≠ "java/lang/invoke/MethodHandle" ∧ yX0_burnCandle.cls ≠ "java/lang/invoke/VarHandle" ∧ (parseMethodDescriptor yX0_burnCandle.desc).map (fun d => d.parameters.length) = some 1 := by decide +kernel
theorem hd_X0_countNightOut : yX0_countNightOut.cls ≠ "java/lang/invoke/MethodHandle" ∧ yX0_countNightOut.cls ≠ "java/lang/invoke/VarHandle" ∧ (parseMethodDescriptor yX0_countNightOut.desc).map (fun d => d.parameters.length) = some 0 := by decide +kernel
theorem hd_X1_init : yX1_init.cls ≠ "java/lang/invoke/MethodHandle" ∧ yX1_init.cls ≠ "java/lang/invoke/VarHandle" ∧ (parseMethodDescriptor yX1_init.desc).map (fun d => d.parameters.length) = some 0 := by decide +kernel
theorem hd_X1_enterShip : yX1_enterShip.cls ≠ "java/lang/invoke/MethodHandle" ∧ yX1_enterShip.cls ≠ "java/lang/invoke/VarHandle" ∧ (parseMethodDescriptor yX1_enterShip.desc).map (fun d => d.parameters.length) = some 1 := by decide +kernel
theorem hd_X1_enterSailor : yX1_enterSailor.cls ≠ "java/lang/invoke/MethodHandle" ∧ yX1_enterSailor.cls ≠ "java/lang/invoke/VarHandle" ∧ (parseMethodDescriptor yX1_enterSailor.desc).map (fun d => d.parameters.length) = some 3 := by decide +kernel
theorem hd_X1_enterWatcher : yX1_enterWatcher.cls ≠ "java/lang/invoke/MethodHandle" ∧ yX1_enterWatcher.cls ≠ "java/lang/invoke/VarHandle" ∧ (parseMethodDescriptor yX1_enterWatcher.desc).map (fun d => d.parameters.length) = some 0 := by decide +kernel
theorem hd_X1_shipWith : yX1_shipWith.cls ≠ "java/lang/invoke/MethodHandle" ∧ yX1_shipWith.cls ≠ "java/lang/invoke/VarHandle" ∧ (parseMethodDescriptor yX1_shipWith.desc).map (fun d => d.parameters.length) = some 1 := by decide +kernel
theorem hd_X1_clearVotes : yX1_clearVotes.cls ≠ "java/lang/invoke/MethodHandle" ∧ yX1_clearVotes.cls ≠ "java/lang/invoke/VarHandle" ∧ (parseMethodDescriptor yX1_clearVotes.desc).map (fun d => d.parameters.length) = some 1 := by decide +kernel
theorem hd_X1_votersFor : yX1_votersFor.cls ≠ "java/lang/invoke/MethodHandle" ∧ yX1_votersFor.cls ≠ "java/lang/invoke/VarHandle" ∧ (parseMethodDescriptor yX1_votersFor.desc).map (fun d => d.parameters.length) = some 1 := by decide +kernel
theorem hd_X1_votesAgainst : yX1_votesAgainst.cls ≠ "java/lang/invoke/MethodHandle" ∧ yX1_votesAgainst.cls ≠ "java/lang/invoke/VarHandle" ∧ (parseMethodDescriptor yX1_votesAgainst.desc).map (fun d => d.parameters.length) = some 1 := by decide +kernel
theorem hd_X1_votesToLose : yX1_votesToLose.cls ≠ "java/lang/invoke/MethodHandle" ∧ yX1_votesToLose.cls ≠ "java/lang/invoke/VarHandle" ∧ (parseMethodDescriptor yX1_votesToLose.desc).map (fun d => d.parameters.length) = some 1 := by decide +kernel
theorem hd_X1_countOfShip : yX1_countOfShip.cls ≠ "java/lang/invoke/MethodHandle" ∧ yX1_countOfShip.cls ≠ "java/lang/invoke/VarHandle" ∧ (parseMethodDescriptor yX1_countOfShip.desc).map (fun d => d.parameters.length) = some 2 := by decide +kernel
theorem hd_X2_init : yX2_init.cls ≠ "java/lang/invoke/MethodHandle" ∧ yX2_init.cls ≠ "java/lang/invoke/VarHandle" ∧ (parseMethodDescriptor yX2_init.desc).map (fun d => d.parameters.length) = some 0 := by decide +kernel
theorem hd_X2_addShip : yX2_addShip.cls ≠ "java/lang/invoke/MethodHandle" ∧ yX2_addShip.cls ≠ "java/lang/invoke/VarHandle" ∧ (parseMethodDescriptor yX2_addShip.desc).map (fun d => d.parameters.length) = some 1 := by decide +kernel
theorem hd_X2_addSailor : yX2_addSailor.cls ≠ "java/lang/invoke/MethodHandle" ∧ yX2_addSailor.cls ≠ "java/lang/invoke/VarHandle" ∧ (parseMethodDescriptor yX2_addSailor.desc).map (fun d => d.parameters.length) = some 3 := by decide +kernel
theorem hd_X2_addWatcher : yX2_addWatcher.cls ≠ "java/lang/invoke/MethodHandle" ∧ yX2_addWatcher.cls ≠ "java/lang/invoke/VarHandle" ∧ (parseMethodDescriptor yX2_addWatcher.desc).map (fun d => d.parameters.length) = some 0 := by decide +kernel
theorem hd_X2_buyWax : yX2_buyWax.cls ≠ "java/lang/invoke/MethodHandle" ∧ yX2_buyWax.cls ≠ "java/lang/invoke/VarHandle" ∧ (parseMethodDescriptor yX2_buyWax.desc).map (fun d => d.parameters.length) = some 1 := by decide +kernel
theorem hd_X2_sail : yX2_sail.cls ≠ "java/lang/invoke/MethodHandle" ∧ yX2_sail.cls ≠ "java/lang/invoke/VarHandle" ∧ (parseMethodDescriptor yX2_sail.desc).map (fun d => d.parameters.length) = some 1 := by decide +kernel
theorem hd_X2_comeHome : yX2_comeHome.cls ≠ "java/lang/invoke/MethodHandle" ∧ yX2_comeHome.cls ≠ "java/lang/invoke/VarHandle" ∧ (parseMethodDescriptor yX2_comeHome.desc).map (fun d => d.parameters.length) = some 1 := by decide +kernel
theorem hd_X2_sight : yX2_sight.cls ≠ "java/lang/invoke/MethodHandle" ∧ yX2_sight.cls ≠ "java/lang/invoke/VarHandle" ∧ (parseMethodDescriptor yX2_sight.desc).map (fun d => d.parameters.length) = some 2 := by decide +kernel
theorem hd_X2_vote : yX2_vote.cls ≠ "java/lang/invoke/MethodHandle" ∧ yX2_vote.cls ≠ "java/lang/invoke/VarHandle" ∧ (parseMethodDescriptor yX2_vote.desc).map (fun d => d.parameters.length) = some 2 := by decide +kernel
theorem hd_X2_burnNights : yX2_burnNights.cls ≠ "java/lang/invoke/MethodHandle" ∧ yX2_burnNights.cls ≠ "java/lang/invoke/VarHandle" ∧ (parseMethodDescriptor yX2_burnNights.desc).map (fun d => d.parameters.length) = some 1 := by decide +kernel
theorem hd_X2_ships : yX2_ships.cls ≠ "java/lang/invoke/MethodHandle" ∧ yX2_ships.cls ≠ "java/lang/invoke/VarHandle" ∧ (parseMethodDescriptor yX2_ships.desc).map (fun d => d.parameters.length) = some 0 := by decide +kernel
theorem hd_X2_mastsOf : yX2_mastsOf.cls ≠ "java/lang/invoke/MethodHandle" ∧ yX2_mastsOf.cls ≠ "java/lang/invoke/VarHandle" ∧ (parseMethodDescriptor yX2_mastsOf.desc).map (fun d => d.parameters.length) = some 1 := by decide +kernel
theorem hd_X2_isAway : yX2_isAway.cls ≠ "java/lang/invoke/MethodHandle" ∧ yX2_isAway.cls ≠ "java/lang/invoke/VarHandle" ∧ (parseMethodDescriptor yX2_isAway.desc).map (fun d => d.parameters.length) = some 1 := by decide +kernel
theorem hd_X2_isLost : yX2_isLost.cls ≠ "java/lang/invoke/MethodHandle" ∧ yX2_isLost.cls ≠ "java/lang/invoke/VarHandle" ∧ (parseMethodDescriptor yX2_isLost.desc).map (fun d => d.parameters.length) = some 1 := by decide +kernel
theorem hd_X2_nightsOut : yX2_nightsOut.cls ≠ "java/lang/invoke/MethodHandle" ∧ yX2_nightsOut.cls ≠ "java/lang/invoke/VarHandle" ∧ (parseMethodDescriptor yX2_nightsOut.desc).map (fun d => d.parameters.length) = some 1 := by decide +kernel
theorem hd_X2_isRung : yX2_isRung.cls ≠ "java/lang/invoke/MethodHandle" ∧ yX2_isRung.cls ≠ "java/lang/invoke/VarHandle" ∧ (parseMethodDescriptor yX2_isRung.desc).map (fun d => d.parameters.length) = some 1 := by decide +kernel
theorem hd_X2_trustIn : yX2_trustIn.cls ≠ "java/lang/invoke/MethodHandle" ∧ yX2_trustIn.cls ≠ "java/lang/invoke/VarHandle" ∧ (parseMethodDescriptor yX2_trustIn.desc).map (fun d => d.parameters.length) = some 1 := by decide +kernel
theorem hd_X2_voters : yX2_voters.cls ≠ "java/lang/invoke/MethodHandle" ∧ yX2_voters.cls ≠ "java/lang/invoke/VarHandle" ∧ (parseMethodDescriptor yX2_voters.desc).map (fun d => d.parameters.length) = some 1 := by decide +kernel
theorem hd_X2_votesForLost : yX2_votesForLost.cls ≠ "java/lang/invoke/MethodHandle" ∧ yX2_votesForLost.cls ≠ "java/lang/invoke/VarHandle" ∧ (parseMethodDescriptor yX2_votesForLost.desc).map (fun d => d.parameters.length) = some 1 := by decide +kernel
theorem hd_X2_votesMissing : yX2_votesMissing.cls ≠ "java/lang/invoke/MethodHandle" ∧ yX2_votesMissing.cls ≠ "java/lang/invoke/VarHandle" ∧ (parseMethodDescriptor yX2_votesMissing.desc).map (fun d => d.parameters.length) = some 1 := by decide +kernel
theorem hd_X2_sailors : yX2_sailors.cls ≠ "java/lang/invoke/MethodHandle" ∧ yX2_sailors.cls ≠ "java/lang/invoke/VarHandle" ∧ (parseMethodDescriptor yX2_sailors.desc).map (fun d => d.parameters.length) = some 0 := by decide +kernel
theorem hd_X2_shipOf : yX2_shipOf.cls ≠ "java/lang/invoke/MethodHandle" ∧ yX2_shipOf.cls ≠ "java/lang/invoke/VarHandle" ∧ (parseMethodDescriptor yX2_shipOf.desc).map (fun d => d.parameters.length) = some 1 := by decide +kernel
theorem hd_X2_mastOf : yX2_mastOf.cls ≠ "java/lang/invoke/MethodHandle" ∧ yX2_mastOf.cls ≠ "java/lang/invoke/VarHandle" ∧ (parseMethodDescriptor yX2_mastOf.desc).map (fun d => d.parameters.length) = some 1 := by decide +kernel
theorem hd_X2_hasVoter : yX2_hasVoter.cls ≠ "java/lang/invoke/MethodHandle" ∧ yX2_hasVoter.cls ≠ "java/lang/invoke/VarHandle" ∧ (parseMethodDescriptor yX2_hasVoter.desc).map (fun d => d.parameters.length) = some 1 := by decide +kernel
theorem hd_X2_isGivenUp : yX2_isGivenUp.cls ≠ "java/lang/invoke/MethodHandle" ∧ yX2_isGivenUp.cls ≠ "java/lang/invoke/VarHandle" ∧ (parseMethodDescriptor yX2_isGivenUp.desc).map (fun d => d.parameters.length) = some 1 := by decide +kernel
theorem hd_X2_candleOf : yX2_candleOf.cls ≠ "java/lang/invoke/MethodHandle" ∧ yX2_candleOf.cls ≠ "java/lang/invoke/VarHandle" ∧ (parseMethodDescriptor yX2_candleOf.desc).map (fun d => d.parameters.length) = some 1 := by decide +kernel
theorem hd_X2_isDark : yX2_isDark.cls ≠ "java/lang/invoke/MethodHandle" ∧ yX2_isDark.cls ≠ "java/lang/invoke/VarHandle" ∧ (parseMethodDescriptor yX2_isDark.desc).map (fun d => d.parameters.length) = some 1 := by decide +kernel
theorem hd_X2_watchers : yX2_watchers.cls ≠ "java/lang/invoke/MethodHandle" ∧ yX2_watchers.cls ≠ "java/lang/invoke/VarHandle" ∧ (parseMethodDescriptor yX2_watchers.desc).map (fun d => d.parameters.length) = some 0 := by decide +kernel
theorem hd_X2_trustOf : yX2_trustOf.cls ≠ "java/lang/invoke/MethodHandle" ∧ yX2_trustOf.cls ≠ "java/lang/invoke/VarHandle" ∧ (parseMethodDescriptor yX2_trustOf.desc).map (fun d => d.parameters.length) = some 1 := by decide +kernel
theorem hd_X2_sightings : yX2_sightings.cls ≠ "java/lang/invoke/MethodHandle" ∧ yX2_sightings.cls ≠ "java/lang/invoke/VarHandle" ∧ (parseMethodDescriptor yX2_sightings.desc).map (fun d => d.parameters.length) = some 0 := by decide +kernel
theorem hd_X2_night : yX2_night.cls ≠ "java/lang/invoke/MethodHandle" ∧ yX2_night.cls ≠ "java/lang/invoke/VarHandle" ∧ (parseMethodDescriptor yX2_night.desc).map (fun d => d.parameters.length) = some 0 := by decide +kernel
theorem hd_X2_wax : yX2_wax.cls ≠ "java/lang/invoke/MethodHandle" ∧ yX2_wax.cls ≠ "java/lang/invoke/VarHandle" ∧ (parseMethodDescriptor yX2_wax.desc).map (fun d => d.parameters.length) = some 0 := by decide +kernel
theorem hd_X2_darkCandles : yX2_darkCandles.cls ≠ "java/lang/invoke/MethodHandle" ∧ yX2_darkCandles.cls ≠ "java/lang/invoke/VarHandle" ∧ (parseMethodDescriptor yX2_darkCandles.desc).map (fun d => d.parameters.length) = some 0 := by decide +kernel
theorem hd_X2_bellsUnrung : yX2_bellsUnrung.cls ≠ "java/lang/invoke/MethodHandle" ∧ yX2_bellsUnrung.cls ≠ "java/lang/invoke/VarHandle" ∧ (parseMethodDescriptor yX2_bellsUnrung.desc).map (fun d => d.parameters.length) = some 0 := by decide +kernel
theorem hd_X2_namesOnWall : yX2_namesOnWall.cls ≠ "java/lang/invoke/MethodHandle" ∧ yX2_namesOnWall.cls ≠ "java/lang/invoke/VarHandle" ∧ (parseMethodDescriptor yX2_namesOnWall.desc).map (fun d => d.parameters.length) = some 0 := by decide +kernel
theorem hd_X2_wouldRing : yX2_wouldRing.cls ≠ "java/lang/invoke/MethodHandle" ∧ yX2_wouldRing.cls ≠ "java/lang/invoke/VarHandle" ∧ (parseMethodDescriptor yX2_wouldRing.desc).map (fun d => d.parameters.length) = some 2 := by decide +kernel
theorem hd_X2_nightsUntilDark : yX2_nightsUntilDark.cls ≠ "java/lang/invoke/MethodHandle" ∧ yX2_nightsUntilDark.cls ≠ "java/lang/invoke/VarHandle" ∧ (parseMethodDescriptor yX2_nightsUntilDark.desc).map (fun d => d.parameters.length) = some 0 := by decide +kernel
theorem hd_X2_waxWanted : yX2_waxWanted.cls ≠ "java/lang/invoke/MethodHandle" ∧ yX2_waxWanted.cls ≠ "java/lang/invoke/VarHandle" ∧ (parseMethodDescriptor yX2_waxWanted.desc).map (fun d => d.parameters.length) = some 1 := by decide +kernel
theorem hd_X2_meanTrust : yX2_meanTrust.cls ≠ "java/lang/invoke/MethodHandle" ∧ yX2_meanTrust.cls ≠ "java/lang/invoke/VarHandle" ∧ (parseMethodDescriptor yX2_meanTrust.desc).map (fun d => d.parameters.length) = some 0 := by decide +kernel
theorem hd_X2_digest : yX2_digest.cls ≠ "java/lang/invoke/MethodHandle" ∧ yX2_digest.cls ≠ "java/lang/invoke/VarHandle" ∧ (parseMethodDescriptor yX2_digest.desc).map (fun d => d.parameters.length) = some 0 := by decide +kernel
theorem hd_X2_mixShip : yX2_mixShip.cls ≠ "java/lang/invoke/MethodHandle" ∧ yX2_mixShip.cls ≠ "java/lang/invoke/VarHandle" ∧ (parseMethodDescriptor yX2_mixShip.desc).map (fun d => d.parameters.length) = some 2 := by decide +kernel
theorem hd_X2_mixSailor : yX2_mixSailor.cls ≠ "java/lang/invoke/MethodHandle" ∧ yX2_mixSailor.cls ≠ "java/lang/invoke/VarHandle" ∧ (parseMethodDescriptor yX2_mixSailor.desc).map (fun d => d.parameters.length) = some 2 := by decide +kernel
theorem hd_X2_mix : yX2_mix.cls ≠ "java/lang/invoke/MethodHandle" ∧ yX2_mix.cls ≠ "java/lang/invoke/VarHandle" ∧ (parseMethodDescriptor yX2_mix.desc).map (fun d => d.parameters.length) = some 2 := by decide +kernel
theorem hd_X2_one : yX2_one.cls ≠ "java/lang/invoke/MethodHandle" ∧ yX2_one.cls ≠ "java/lang/invoke/VarHandle" ∧ (parseMethodDescriptor yX2_one.desc).map (fun d => d.parameters.length) = some 1 := by decide +kernel
theorem hd_X2_wouldStayLit : yX2_wouldStayLit.cls ≠ "java/lang/invoke/MethodHandle" ∧ yX2_wouldStayLit.cls ≠ "java/lang/invoke/VarHandle" ∧ (parseMethodDescriptor yX2_wouldStayLit.desc).map (fun d => d.parameters.length) = some 2 := by decide +kernel
theorem hd_X2_needShip : yX2_needShip.cls ≠ "java/lang/invoke/MethodHandle" ∧ yX2_needShip.cls ≠ "java/lang/invoke/VarHandle" ∧ (parseMethodDescriptor yX2_needShip.desc).map (fun d => d.parameters.length) = some 1 := by decide +kernel
theorem hd_X2_needSailor : yX2_needSailor.cls ≠ "java/lang/invoke/MethodHandle" ∧ yX2_needSailor.cls ≠ "java/lang/invoke/VarHandle" ∧ (parseMethodDescriptor yX2_needSailor.desc).map (fun d => d.parameters.length) = some 1 := by decide +kernel
theorem hd_X2_needWatcher : yX2_needWatcher.cls ≠ "java/lang/invoke/MethodHandle" ∧ yX2_needWatcher.cls ≠ "java/lang/invoke/VarHandle" ∧ (parseMethodDescriptor yX2_needWatcher.desc).map (fun d => d.parameters.length) = some 1 := by decide +kernel
theorem hd_X2_needNewSighting : yX2_needNewSighting.cls ≠ "java/lang/invoke/MethodHandle" ∧ yX2_needNewSighting.cls ≠ "java/lang/invoke/VarHandle" ∧ (parseMethodDescriptor yX2_needNewSighting.desc).map (fun d => d.parameters.length) = some 2 := by decide +kernel
theorem hd_X2_needNights : yX2_needNights.cls ≠ "java/lang/invoke/MethodHandle" ∧ yX2_needNights.cls ≠ "java/lang/invoke/VarHandle" ∧ (parseMethodDescriptor yX2_needNights.desc).map (fun d => d.parameters.length) = some 2 := by decide +kernel
theorem hd_X2_at : yX2_at.cls ≠ "java/lang/invoke/MethodHandle" ∧ yX2_at.cls ≠ "java/lang/invoke/VarHandle" ∧ (parseMethodDescriptor yX2_at.desc).map (fun d => d.parameters.length) = some 2 := by decide +kernel
theorem hd_X2_is : yX2_is.cls ≠ "java/lang/invoke/MethodHandle" ∧ yX2_is.cls ≠ "java/lang/invoke/VarHandle" ∧ (parseMethodDescriptor yX2_is.desc).map (fun d => d.parameters.length) = some 2 := by decide +kernel
theorem hd_X2_put : yX2_put.cls ≠ "java/lang/invoke/MethodHandle" ∧ yX2_put.cls ≠ "java/lang/invoke/VarHandle" ∧ (parseMethodDescriptor yX2_put.desc).map (fun d => d.parameters.length) = some 3 := by decide +kernel
theorem hd_X2_mark : yX2_mark.cls ≠ "java/lang/invoke/MethodHandle" ∧ yX2_mark.cls ≠ "java/lang/invoke/VarHandle" ∧ (parseMethodDescriptor yX2_mark.desc).map (fun d => d.parameters.length) = some 3 := by decide +kernel
theorem hd_X2_copyRow : yX2_copyRow.cls ≠ "java/lang/invoke/MethodHandle" ∧ yX2_copyRow.cls ≠ "java/lang/invoke/VarHandle" ∧ (parseMethodDescriptor yX2_copyRow.desc).map (fun d => d.parameters.length) = some 2 := by decide +kernel
theorem hd_X2_copyMarks : yX2_copyMarks.cls ≠ "java/lang/invoke/MethodHandle" ∧ yX2_copyMarks.cls ≠ "java/lang/invoke/VarHandle" ∧ (parseMethodDescriptor yX2_copyMarks.desc).map (fun d => d.parameters.length) = some 2 := by decide +kernel
theorem hd_X3_init : yX3_init.cls ≠ "java/lang/invoke/MethodHandle" ∧ yX3_init.cls ≠ "java/lang/invoke/VarHandle" ∧ (parseMethodDescriptor yX3_init.desc).map (fun d => d.parameters.length) = some 0 := by decide +kernel
theorem hd_X3_more : yX3_more.cls ≠ "java/lang/invoke/MethodHandle" ∧ yX3_more.cls ≠ "java/lang/invoke/VarHandle" ∧ (parseMethodDescriptor yX3_more.desc).map (fun d => d.parameters.length) = some 2 := by decide +kernel
theorem hd_X3_trustIn : yX3_trustIn.cls ≠ "java/lang/invoke/MethodHandle" ∧ yX3_trustIn.cls ≠ "java/lang/invoke/VarHandle" ∧ (parseMethodDescriptor yX3_trustIn.desc).map (fun d => d.parameters.length) = some 1 := by decide +kernel
theorem hd_X3_isSighted : yX3_isSighted.cls ≠ "java/lang/invoke/MethodHandle" ∧ yX3_isSighted.cls ≠ "java/lang/invoke/VarHandle" ∧ (parseMethodDescriptor yX3_isSighted.desc).map (fun d => d.parameters.length) = some 2 := by decide +kernel
theorem hd_X3_drop : yX3_drop.cls ≠ "java/lang/invoke/MethodHandle" ∧ yX3_drop.cls ≠ "java/lang/invoke/VarHandle" ∧ (parseMethodDescriptor yX3_drop.desc).map (fun d => d.parameters.length) = some 2 := by decide +kernel
theorem hd_X3_votes : yX3_votes.cls ≠ "java/lang/invoke/MethodHandle" ∧ yX3_votes.cls ≠ "java/lang/invoke/VarHandle" ∧ (parseMethodDescriptor yX3_votes.desc).map (fun d => d.parameters.length) = some 2 := by decide +kernel
theorem hd_X3_isDark : yX3_isDark.cls ≠ "java/lang/invoke/MethodHandle" ∧ yX3_isDark.cls ≠ "java/lang/invoke/VarHandle" ∧ (parseMethodDescriptor yX3_isDark.desc).map (fun d => d.parameters.length) = some 1 := by decide +kernel
theorem hd_X3_dark : yX3_dark.cls ≠ "java/lang/invoke/MethodHandle" ∧ yX3_dark.cls ≠ "java/lang/invoke/VarHandle" ∧ (parseMethodDescriptor yX3_dark.desc).map (fun d => d.parameters.length) = some 0 := by decide +kernel
theorem hd_X3_light : yX3_light.cls ≠ "java/lang/invoke/MethodHandle" ∧ yX3_light.cls ≠ "java/lang/invoke/VarHandle" ∧ (parseMethodDescriptor yX3_light.desc).map (fun d => d.parameters.length) = some 1 := by decide +kernel
theorem hd_X3_ends : yX3_ends.cls ≠ "java/lang/invoke/MethodHandle" ∧ yX3_ends.cls ≠ "java/lang/invoke/VarHandle" ∧ (parseMethodDescriptor yX3_ends.desc).map (fun d => d.parameters.length) = some 1 := by decide +kernel
theorem hd_X3_pass : yX3_pass.cls ≠ "java/lang/invoke/MethodHandle" ∧ yX3_pass.cls ≠ "java/lang/invoke/VarHandle" ∧ (parseMethodDescriptor yX3_pass.desc).map (fun d => d.parameters.length) = some 0 := by decide +kernel
theorem hd_X3_isSame : yX3_isSame.cls ≠ "java/lang/invoke/MethodHandle" ∧ yX3_isSame.cls ≠ "java/lang/invoke/VarHandle" ∧ (parseMethodDescriptor yX3_isSame.desc).map (fun d => d.parameters.length) = some 1 := by decide +kernel
theorem hd_L_below : yL_below.cls ≠ "java/lang/invoke/MethodHandle" ∧ yL_below.cls ≠ "java/lang/invoke/VarHandle" ∧ (parseMethodDescriptor yL_below.desc).map (fun d => d.parameters.length) = some 2 := by decide +kernel
theorem hd_L_cell : yL_cell.cls ≠ "java/lang/invoke/MethodHandle" ∧ yL_cell.cls ≠ "java/lang/invoke/VarHandle" ∧ (parseMethodDescriptor yL_cell.desc).map (fun d => d.parameters.length) = some 2 := by decide +kernel
theorem hd_L_act : yL_act.cls ≠ "java/lang/invoke/MethodHandle" ∧ yL_act.cls ≠ "java/lang/invoke/VarHandle" ∧ (parseMethodDescriptor yL_act.desc).map (fun d => d.parameters.length) = some 3 := by decide +kernel
theorem hd_L_refused : yL_refused.cls ≠ "java/lang/invoke/MethodHandle" ∧ yL_refused.cls ≠ "java/lang/invoke/VarHandle" ∧ (parseMethodDescriptor yL_refused.desc).map (fun d => d.parameters.length) = some 5 := by decide +kernel
theorem hd_L_build : yL_build.cls ≠ "java/lang/invoke/MethodHandle" ∧ yL_build.cls ≠ "java/lang/invoke/VarHandle" ∧ (parseMethodDescriptor yL_build.desc).map (fun d => d.parameters.length) = some 2 := by decide +kernel
