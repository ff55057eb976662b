/-! ===== the law's own harbour: its state in columns, its rows in the heap ===== -/
abbrev SM : Type := Int32 × Int32 × Int32 × Nat × Nat × Nat × Nat × Fn × Fn × Fn × Fn × FnN × Fn × Fn × Fn × Fn × Fn × FnN × FnN × Fn
def m_ni (S : SM) : Int32 := S.1
def m_wa (S : SM) : Int32 := S.2.1
def m_un (S : SM) : Int32 := S.2.2.1
def m_ns (S : SM) : Nat := S.2.2.2.1
def m_np (S : SM) : Nat := S.2.2.2.2.1
def m_nw (S : SM) : Nat := S.2.2.2.2.2.1
def m_ng (S : SM) : Nat := S.2.2.2.2.2.2.1
def m_ma (S : SM) : Fn := S.2.2.2.2.2.2.2.1
def m_st (S : SM) : Fn := S.2.2.2.2.2.2.2.2.1
def m_ou (S : SM) : Fn := S.2.2.2.2.2.2.2.2.2.1
def m_ru (S : SM) : Fn := S.2.2.2.2.2.2.2.2.2.2.1
def m_so (S : SM) : FnN := S.2.2.2.2.2.2.2.2.2.2.2.1
def m_mt (S : SM) : Fn := S.2.2.2.2.2.2.2.2.2.2.2.2.1
def m_vo (S : SM) : Fn := S.2.2.2.2.2.2.2.2.2.2.2.2.2.1
def m_gi (S : SM) : Fn := S.2.2.2.2.2.2.2.2.2.2.2.2.2.2.1
def m_ca (S : SM) : Fn := S.2.2.2.2.2.2.2.2.2.2.2.2.2.2.2.1
def m_tr (S : SM) : Fn := S.2.2.2.2.2.2.2.2.2.2.2.2.2.2.2.2.1
def m_sw (S : SM) : FnN := S.2.2.2.2.2.2.2.2.2.2.2.2.2.2.2.2.2.1
def m_ss (S : SM) : FnN := S.2.2.2.2.2.2.2.2.2.2.2.2.2.2.2.2.2.2.1
def m_sg (S : SM) : Fn := S.2.2.2.2.2.2.2.2.2.2.2.2.2.2.2.2.2.2.2
def q_ni (S : SM) (x : Int32) : SM := (x, S.2)
def q_wa (S : SM) (x : Int32) : SM := (S.1, x, S.2.2)
def q_un (S : SM) (x : Int32) : SM := (S.1, S.2.1, x, S.2.2.2)
def q_ns (S : SM) (x : Nat) : SM := (S.1, S.2.1, S.2.2.1, x, S.2.2.2.2)
def q_np (S : SM) (x : Nat) : SM := (S.1, S.2.1, S.2.2.1, S.2.2.2.1, x, S.2.2.2.2.2)
def q_nw (S : SM) (x : Nat) : SM := (S.1, S.2.1, S.2.2.1, S.2.2.2.1, S.2.2.2.2.1, x, S.2.2.2.2.2.2)
def q_ng (S : SM) (x : Nat) : SM := (S.1, S.2.1, S.2.2.1, S.2.2.2.1, S.2.2.2.2.1, S.2.2.2.2.2.1, x, S.2.2.2.2.2.2.2)
def q_ma (S : SM) (x : Fn) : SM := (S.1, S.2.1, S.2.2.1, S.2.2.2.1, S.2.2.2.2.1, S.2.2.2.2.2.1, S.2.2.2.2.2.2.1, x, S.2.2.2.2.2.2.2.2)
def q_st (S : SM) (x : Fn) : SM := (S.1, S.2.1, S.2.2.1, S.2.2.2.1, S.2.2.2.2.1, S.2.2.2.2.2.1, S.2.2.2.2.2.2.1, S.2.2.2.2.2.2.2.1, x, S.2.2.2.2.2.2.2.2.2)
def q_ou (S : SM) (x : Fn) : SM := (S.1, S.2.1, S.2.2.1, S.2.2.2.1, S.2.2.2.2.1, S.2.2.2.2.2.1, S.2.2.2.2.2.2.1, S.2.2.2.2.2.2.2.1, S.2.2.2.2.2.2.2.2.1, x, S.2.2.2.2.2.2.2.2.2.2)
def q_ru (S : SM) (x : Fn) : SM := (S.1, S.2.1, S.2.2.1, S.2.2.2.1, S.2.2.2.2.1, S.2.2.2.2.2.1, S.2.2.2.2.2.2.1, S.2.2.2.2.2.2.2.1, S.2.2.2.2.2.2.2.2.1, S.2.2.2.2.2.2.2.2.2.1, x, S.2.2.2.2.2.2.2.2.2.2.2)
def q_so (S : SM) (x : FnN) : SM := (S.1, S.2.1, S.2.2.1, S.2.2.2.1, S.2.2.2.2.1, S.2.2.2.2.2.1, S.2.2.2.2.2.2.1, S.2.2.2.2.2.2.2.1, S.2.2.2.2.2.2.2.2.1, S.2.2.2.2.2.2.2.2.2.1, S.2.2.2.2.2.2.2.2.2.2.1, x, S.2.2.2.2.2.2.2.2.2.2.2.2)
def q_mt (S : SM) (x : Fn) : SM := (S.1, S.2.1, S.2.2.1, S.2.2.2.1, S.2.2.2.2.1, S.2.2.2.2.2.1, S.2.2.2.2.2.2.1, S.2.2.2.2.2.2.2.1, S.2.2.2.2.2.2.2.2.1, S.2.2.2.2.2.2.2.2.2.1, S.2.2.2.2.2.2.2.2.2.2.1, S.2.2.2.2.2.2.2.2.2.2.2.1, x, S.2.2.2.2.2.2.2.2.2.2.2.2.2)
def q_vo (S : SM) (x : Fn) : SM := (S.1, S.2.1, S.2.2.1, S.2.2.2.1, S.2.2.2.2.1, S.2.2.2.2.2.1, S.2.2.2.2.2.2.1, S.2.2.2.2.2.2.2.1, S.2.2.2.2.2.2.2.2.1, S.2.2.2.2.2.2.2.2.2.1, S.2.2.2.2.2.2.2.2.2.2.1, S.2.2.2.2.2.2.2.2.2.2.2.1, S.2.2.2.2.2.2.2.2.2.2.2.2.1, x, S.2.2.2.2.2.2.2.2.2.2.2.2.2.2)
def q_gi (S : SM) (x : Fn) : SM := (S.1, S.2.1, S.2.2.1, S.2.2.2.1, S.2.2.2.2.1, S.2.2.2.2.2.1, S.2.2.2.2.2.2.1, S.2.2.2.2.2.2.2.1, S.2.2.2.2.2.2.2.2.1, S.2.2.2.2.2.2.2.2.2.1, S.2.2.2.2.2.2.2.2.2.2.1, S.2.2.2.2.2.2.2.2.2.2.2.1, S.2.2.2.2.2.2.2.2.2.2.2.2.1, S.2.2.2.2.2.2.2.2.2.2.2.2.2.1, x, S.2.2.2.2.2.2.2.2.2.2.2.2.2.2.2)
def q_ca (S : SM) (x : Fn) : SM := (S.1, S.2.1, S.2.2.1, S.2.2.2.1, S.2.2.2.2.1, S.2.2.2.2.2.1, S.2.2.2.2.2.2.1, S.2.2.2.2.2.2.2.1, S.2.2.2.2.2.2.2.2.1, S.2.2.2.2.2.2.2.2.2.1, S.2.2.2.2.2.2.2.2.2.2.1, S.2.2.2.2.2.2.2.2.2.2.2.1, S.2.2.2.2.2.2.2.2.2.2.2.2.1, S.2.2.2.2.2.2.2.2.2.2.2.2.2.1, S.2.2.2.2.2.2.2.2.2.2.2.2.2.2.1, x, S.2.2.2.2.2.2.2.2.2.2.2.2.2.2.2.2)
def q_tr (S : SM) (x : Fn) : SM := (S.1, S.2.1, S.2.2.1, S.2.2.2.1, S.2.2.2.2.1, S.2.2.2.2.2.1, S.2.2.2.2.2.2.1, S.2.2.2.2.2.2.2.1, S.2.2.2.2.2.2.2.2.1, S.2.2.2.2.2.2.2.2.2.1, S.2.2.2.2.2.2.2.2.2.2.1, S.2.2.2.2.2.2.2.2.2.2.2.1, S.2.2.2.2.2.2.2.2.2.2.2.2.1, S.2.2.2.2.2.2.2.2.2.2.2.2.2.1, S.2.2.2.2.2.2.2.2.2.2.2.2.2.2.1, S.2.2.2.2.2.2.2.2.2.2.2.2.2.2.2.1, x, S.2.2.2.2.2.2.2.2.2.2.2.2.2.2.2.2.2)
def q_sw (S : SM) (x : FnN) : SM := (S.1, S.2.1, S.2.2.1, S.2.2.2.1, S.2.2.2.2.1, S.2.2.2.2.2.1, S.2.2.2.2.2.2.1, S.2.2.2.2.2.2.2.1, S.2.2.2.2.2.2.2.2.1, S.2.2.2.2.2.2.2.2.2.1, S.2.2.2.2.2.2.2.2.2.2.1, S.2.2.2.2.2.2.2.2.2.2.2.1, S.2.2.2.2.2.2.2.2.2.2.2.2.1, S.2.2.2.2.2.2.2.2.2.2.2.2.2.1, S.2.2.2.2.2.2.2.2.2.2.2.2.2.2.1, S.2.2.2.2.2.2.2.2.2.2.2.2.2.2.2.1, S.2.2.2.2.2.2.2.2.2.2.2.2.2.2.2.2.1, x, S.2.2.2.2.2.2.2.2.2.2.2.2.2.2.2.2.2.2)
def q_ss (S : SM) (x : FnN) : SM := (S.1, S.2.1, S.2.2.1, S.2.2.2.1, S.2.2.2.2.1, S.2.2.2.2.2.1, S.2.2.2.2.2.2.1, S.2.2.2.2.2.2.2.1, S.2.2.2.2.2.2.2.2.1, S.2.2.2.2.2.2.2.2.2.1, S.2.2.2.2.2.2.2.2.2.2.1, S.2.2.2.2.2.2.2.2.2.2.2.1, S.2.2.2.2.2.2.2.2.2.2.2.2.1, S.2.2.2.2.2.2.2.2.2.2.2.2.2.1, S.2.2.2.2.2.2.2.2.2.2.2.2.2.2.1, S.2.2.2.2.2.2.2.2.2.2.2.2.2.2.2.1, S.2.2.2.2.2.2.2.2.2.2.2.2.2.2.2.2.1, S.2.2.2.2.2.2.2.2.2.2.2.2.2.2.2.2.2.1, x, S.2.2.2.2.2.2.2.2.2.2.2.2.2.2.2.2.2.2.2)
def q_sg (S : SM) (x : Fn) : SM := (S.1, S.2.1, S.2.2.1, S.2.2.2.1, S.2.2.2.2.1, S.2.2.2.2.2.1, S.2.2.2.2.2.2.1, S.2.2.2.2.2.2.2.1, S.2.2.2.2.2.2.2.2.1, S.2.2.2.2.2.2.2.2.2.1, S.2.2.2.2.2.2.2.2.2.2.1, S.2.2.2.2.2.2.2.2.2.2.2.1, S.2.2.2.2.2.2.2.2.2.2.2.2.1, S.2.2.2.2.2.2.2.2.2.2.2.2.2.1, S.2.2.2.2.2.2.2.2.2.2.2.2.2.2.1, S.2.2.2.2.2.2.2.2.2.2.2.2.2.2.2.1, S.2.2.2.2.2.2.2.2.2.2.2.2.2.2.2.2.1, S.2.2.2.2.2.2.2.2.2.2.2.2.2.2.2.2.2.1, S.2.2.2.2.2.2.2.2.2.2.2.2.2.2.2.2.2.2.1, x)
theorem mq_ni (S : SM) (x : Int32) : m_ni (q_ni S x) = x := rfl
theorem mq_ni_wa (S : SM) (x : Int32) : m_wa (q_ni S x) = m_wa S := rfl
theorem mq_ni_un (S : SM) (x : Int32) : m_un (q_ni S x) = m_un S := rfl
theorem mq_ni_ns (S : SM) (x : Int32) : m_ns (q_ni S x) = m_ns S := rfl
theorem mq_ni_np (S : SM) (x : Int32) : m_np (q_ni S x) = m_np S := rfl
theorem mq_ni_nw (S : SM) (x : Int32) : m_nw (q_ni S x) = m_nw S := rfl
theorem mq_ni_ng (S : SM) (x : Int32) : m_ng (q_ni S x) = m_ng S := rfl
theorem mq_ni_ma (S : SM) (x : Int32) : m_ma (q_ni S x) = m_ma S := rfl
theorem mq_ni_st (S : SM) (x : Int32) : m_st (q_ni S x) = m_st S := rfl
theorem mq_ni_ou (S : SM) (x : Int32) : m_ou (q_ni S x) = m_ou S := rfl
theorem mq_ni_ru (S : SM) (x : Int32) : m_ru (q_ni S x) = m_ru S := rfl
theorem mq_ni_so (S : SM) (x : Int32) : m_so (q_ni S x) = m_so S := rfl
theorem mq_ni_mt (S : SM) (x : Int32) : m_mt (q_ni S x) = m_mt S := rfl
theorem mq_ni_vo (S : SM) (x : Int32) : m_vo (q_ni S x) = m_vo S := rfl
theorem mq_ni_gi (S : SM) (x : Int32) : m_gi (q_ni S x) = m_gi S := rfl
theorem mq_ni_ca (S : SM) (x : Int32) : m_ca (q_ni S x) = m_ca S := rfl
theorem mq_ni_tr (S : SM) (x : Int32) : m_tr (q_ni S x) = m_tr S := rfl
theorem mq_ni_sw (S : SM) (x : Int32) : m_sw (q_ni S x) = m_sw S := rfl
theorem mq_ni_ss (S : SM) (x : Int32) : m_ss (q_ni S x) = m_ss S := rfl
theorem mq_ni_sg (S : SM) (x : Int32) : m_sg (q_ni S x) = m_sg S := rfl
theorem mq_wa_ni (S : SM) (x : Int32) : m_ni (q_wa S x) = m_ni S := rfl
theorem mq_wa (S : SM) (x : Int32) : m_wa (q_wa S x) = x := rfl
theorem mq_wa_un (S : SM) (x : Int32) : m_un (q_wa S x) = m_un S := rfl
theorem mq_wa_ns (S : SM) (x : Int32) : m_ns (q_wa S x) = m_ns S := rfl
theorem mq_wa_np (S : SM) (x : Int32) : m_np (q_wa S x) = m_np S := rfl
theorem mq_wa_nw (S : SM) (x : Int32) : m_nw (q_wa S x) = m_nw S := rfl
theorem mq_wa_ng (S : SM) (x : Int32) : m_ng (q_wa S x) = m_ng S := rfl
theorem mq_wa_ma (S : SM) (x : Int32) : m_ma (q_wa S x) = m_ma S := rfl
theorem mq_wa_st (S : SM) (x : Int32) : m_st (q_wa S x) = m_st S := rfl
theorem mq_wa_ou (S : SM) (x : Int32) : m_ou (q_wa S x) = m_ou S := rfl
theorem mq_wa_ru (S : SM) (x : Int32) : m_ru (q_wa S x) = m_ru S := rfl
theorem mq_wa_so (S : SM) (x : Int32) : m_so (q_wa S x) = m_so S := rfl
theorem mq_wa_mt (S : SM) (x : Int32) : m_mt (q_wa S x) = m_mt S := rfl
theorem mq_wa_vo (S : SM) (x : Int32) : m_vo (q_wa S x) = m_vo S := rfl
theorem mq_wa_gi (S : SM) (x : Int32) : m_gi (q_wa S x) = m_gi S := rfl
theorem mq_wa_ca (S : SM) (x : Int32) : m_ca (q_wa S x) = m_ca S := rfl
theorem mq_wa_tr (S : SM) (x : Int32) : m_tr (q_wa S x) = m_tr S := rfl
theorem mq_wa_sw (S : SM) (x : Int32) : m_sw (q_wa S x) = m_sw S := rfl
theorem mq_wa_ss (S : SM) (x : Int32) : m_ss (q_wa S x) = m_ss S := rfl
theorem mq_wa_sg (S : SM) (x : Int32) : m_sg (q_wa S x) = m_sg S := rfl
theorem mq_un_ni (S : SM) (x : Int32) : m_ni (q_un S x) = m_ni S := rfl
theorem mq_un_wa (S : SM) (x : Int32) : m_wa (q_un S x) = m_wa S := rfl
theorem mq_un (S : SM) (x : Int32) : m_un (q_un S x) = x := rfl
theorem mq_un_ns (S : SM) (x : Int32) : m_ns (q_un S x) = m_ns S := rfl
theorem mq_un_np (S : SM) (x : Int32) : m_np (q_un S x) = m_np S := rfl
theorem mq_un_nw (S : SM) (x : Int32) : m_nw (q_un S x) = m_nw S := rfl
theorem mq_un_ng (S : SM) (x : Int32) : m_ng (q_un S x) = m_ng S := rfl
theorem mq_un_ma (S : SM) (x : Int32) : m_ma (q_un S x) = m_ma S := rfl
theorem mq_un_st (S : SM) (x : Int32) : m_st (q_un S x) = m_st S := rfl
theorem mq_un_ou (S : SM) (x : Int32) : m_ou (q_un S x) = m_ou S := rfl
theorem mq_un_ru (S : SM) (x : Int32) : m_ru (q_un S x) = m_ru S := rfl
theorem mq_un_so (S : SM) (x : Int32) : m_so (q_un S x) = m_so S := rfl
theorem mq_un_mt (S : SM) (x : Int32) : m_mt (q_un S x) = m_mt S := rfl
theorem mq_un_vo (S : SM) (x : Int32) : m_vo (q_un S x) = m_vo S := rfl
theorem mq_un_gi (S : SM) (x : Int32) : m_gi (q_un S x) = m_gi S := rfl
theorem mq_un_ca (S : SM) (x : Int32) : m_ca (q_un S x) = m_ca S := rfl
theorem mq_un_tr (S : SM) (x : Int32) : m_tr (q_un S x) = m_tr S := rfl
theorem mq_un_sw (S : SM) (x : Int32) : m_sw (q_un S x) = m_sw S := rfl
theorem mq_un_ss (S : SM) (x : Int32) : m_ss (q_un S x) = m_ss S := rfl
theorem mq_un_sg (S : SM) (x : Int32) : m_sg (q_un S x) = m_sg S := rfl
theorem mq_ns_ni (S : SM) (x : Nat) : m_ni (q_ns S x) = m_ni S := rfl
theorem mq_ns_wa (S : SM) (x : Nat) : m_wa (q_ns S x) = m_wa S := rfl
theorem mq_ns_un (S : SM) (x : Nat) : m_un (q_ns S x) = m_un S := rfl
theorem mq_ns (S : SM) (x : Nat) : m_ns (q_ns S x) = x := rfl
theorem mq_ns_np (S : SM) (x : Nat) : m_np (q_ns S x) = m_np S := rfl
theorem mq_ns_nw (S : SM) (x : Nat) : m_nw (q_ns S x) = m_nw S := rfl
theorem mq_ns_ng (S : SM) (x : Nat) : m_ng (q_ns S x) = m_ng S := rfl
theorem mq_ns_ma (S : SM) (x : Nat) : m_ma (q_ns S x) = m_ma S := rfl
theorem mq_ns_st (S : SM) (x : Nat) : m_st (q_ns S x) = m_st S := rfl
theorem mq_ns_ou (S : SM) (x : Nat) : m_ou (q_ns S x) = m_ou S := rfl
theorem mq_ns_ru (S : SM) (x : Nat) : m_ru (q_ns S x) = m_ru S := rfl
theorem mq_ns_so (S : SM) (x : Nat) : m_so (q_ns S x) = m_so S := rfl
theorem mq_ns_mt (S : SM) (x : Nat) : m_mt (q_ns S x) = m_mt S := rfl
theorem mq_ns_vo (S : SM) (x : Nat) : m_vo (q_ns S x) = m_vo S := rfl
theorem mq_ns_gi (S : SM) (x : Nat) : m_gi (q_ns S x) = m_gi S := rfl
theorem mq_ns_ca (S : SM) (x : Nat) : m_ca (q_ns S x) = m_ca S := rfl
theorem mq_ns_tr (S : SM) (x : Nat) : m_tr (q_ns S x) = m_tr S := rfl
theorem mq_ns_sw (S : SM) (x : Nat) : m_sw (q_ns S x) = m_sw S := rfl
theorem mq_ns_ss (S : SM) (x : Nat) : m_ss (q_ns S x) = m_ss S := rfl
theorem mq_ns_sg (S : SM) (x : Nat) : m_sg (q_ns S x) = m_sg S := rfl
theorem mq_np_ni (S : SM) (x : Nat) : m_ni (q_np S x) = m_ni S := rfl
theorem mq_np_wa (S : SM) (x : Nat) : m_wa (q_np S x) = m_wa S := rfl
theorem mq_np_un (S : SM) (x : Nat) : m_un (q_np S x) = m_un S := rfl
theorem mq_np_ns (S : SM) (x : Nat) : m_ns (q_np S x) = m_ns S := rfl
theorem mq_np (S : SM) (x : Nat) : m_np (q_np S x) = x := rfl
theorem mq_np_nw (S : SM) (x : Nat) : m_nw (q_np S x) = m_nw S := rfl
theorem mq_np_ng (S : SM) (x : Nat) : m_ng (q_np S x) = m_ng S := rfl
theorem mq_np_ma (S : SM) (x : Nat) : m_ma (q_np S x) = m_ma S := rfl
theorem mq_np_st (S : SM) (x : Nat) : m_st (q_np S x) = m_st S := rfl
theorem mq_np_ou (S : SM) (x : Nat) : m_ou (q_np S x) = m_ou S := rfl
theorem mq_np_ru (S : SM) (x : Nat) : m_ru (q_np S x) = m_ru S := rfl
theorem mq_np_so (S : SM) (x : Nat) : m_so (q_np S x) = m_so S := rfl
theorem mq_np_mt (S : SM) (x : Nat) : m_mt (q_np S x) = m_mt S := rfl
theorem mq_np_vo (S : SM) (x : Nat) : m_vo (q_np S x) = m_vo S := rfl
theorem mq_np_gi (S : SM) (x : Nat) : m_gi (q_np S x) = m_gi S := rfl
theorem mq_np_ca (S : SM) (x : Nat) : m_ca (q_np S x) = m_ca S := rfl
theorem mq_np_tr (S : SM) (x : Nat) : m_tr (q_np S x) = m_tr S := rfl
theorem mq_np_sw (S : SM) (x : Nat) : m_sw (q_np S x) = m_sw S := rfl
theorem mq_np_ss (S : SM) (x : Nat) : m_ss (q_np S x) = m_ss S := rfl
theorem mq_np_sg (S : SM) (x : Nat) : m_sg (q_np S x) = m_sg S := rfl
theorem mq_nw_ni (S : SM) (x : Nat) : m_ni (q_nw S x) = m_ni S := rfl
theorem mq_nw_wa (S : SM) (x : Nat) : m_wa (q_nw S x) = m_wa S := rfl
theorem mq_nw_un (S : SM) (x : Nat) : m_un (q_nw S x) = m_un S := rfl
theorem mq_nw_ns (S : SM) (x : Nat) : m_ns (q_nw S x) = m_ns S := rfl
theorem mq_nw_np (S : SM) (x : Nat) : m_np (q_nw S x) = m_np S := rfl
theorem mq_nw (S : SM) (x : Nat) : m_nw (q_nw S x) = x := rfl
theorem mq_nw_ng (S : SM) (x : Nat) : m_ng (q_nw S x) = m_ng S := rfl
theorem mq_nw_ma (S : SM) (x : Nat) : m_ma (q_nw S x) = m_ma S := rfl
theorem mq_nw_st (S : SM) (x : Nat) : m_st (q_nw S x) = m_st S := rfl
theorem mq_nw_ou (S : SM) (x : Nat) : m_ou (q_nw S x) = m_ou S := rfl
theorem mq_nw_ru (S : SM) (x : Nat) : m_ru (q_nw S x) = m_ru S := rfl
theorem mq_nw_so (S : SM) (x : Nat) : m_so (q_nw S x) = m_so S := rfl
theorem mq_nw_mt (S : SM) (x : Nat) : m_mt (q_nw S x) = m_mt S := rfl
theorem mq_nw_vo (S : SM) (x : Nat) : m_vo (q_nw S x) = m_vo S := rfl
theorem mq_nw_gi (S : SM) (x : Nat) : m_gi (q_nw S x) = m_gi S := rfl
theorem mq_nw_ca (S : SM) (x : Nat) : m_ca (q_nw S x) = m_ca S := rfl
theorem mq_nw_tr (S : SM) (x : Nat) : m_tr (q_nw S x) = m_tr S := rfl
theorem mq_nw_sw (S : SM) (x : Nat) : m_sw (q_nw S x) = m_sw S := rfl
theorem mq_nw_ss (S : SM) (x : Nat) : m_ss (q_nw S x) = m_ss S := rfl
theorem mq_nw_sg (S : SM) (x : Nat) : m_sg (q_nw S x) = m_sg S := rfl
theorem mq_ng_ni (S : SM) (x : Nat) : m_ni (q_ng S x) = m_ni S := rfl
theorem mq_ng_wa (S : SM) (x : Nat) : m_wa (q_ng S x) = m_wa S := rfl
theorem mq_ng_un (S : SM) (x : Nat) : m_un (q_ng S x) = m_un S := rfl
theorem mq_ng_ns (S : SM) (x : Nat) : m_ns (q_ng S x) = m_ns S := rfl
theorem mq_ng_np (S : SM) (x : Nat) : m_np (q_ng S x) = m_np S := rfl
theorem mq_ng_nw (S : SM) (x : Nat) : m_nw (q_ng S x) = m_nw S := rfl
theorem mq_ng (S : SM) (x : Nat) : m_ng (q_ng S x) = x := rfl
theorem mq_ng_ma (S : SM) (x : Nat) : m_ma (q_ng S x) = m_ma S := rfl
theorem mq_ng_st (S : SM) (x : Nat) : m_st (q_ng S x) = m_st S := rfl
theorem mq_ng_ou (S : SM) (x : Nat) : m_ou (q_ng S x) = m_ou S := rfl
theorem mq_ng_ru (S : SM) (x : Nat) : m_ru (q_ng S x) = m_ru S := rfl
theorem mq_ng_so (S : SM) (x : Nat) : m_so (q_ng S x) = m_so S := rfl
theorem mq_ng_mt (S : SM) (x : Nat) : m_mt (q_ng S x) = m_mt S := rfl
theorem mq_ng_vo (S : SM) (x : Nat) : m_vo (q_ng S x) = m_vo S := rfl
theorem mq_ng_gi (S : SM) (x : Nat) : m_gi (q_ng S x) = m_gi S := rfl
theorem mq_ng_ca (S : SM) (x : Nat) : m_ca (q_ng S x) = m_ca S := rfl
theorem mq_ng_tr (S : SM) (x : Nat) : m_tr (q_ng S x) = m_tr S := rfl
theorem mq_ng_sw (S : SM) (x : Nat) : m_sw (q_ng S x) = m_sw S := rfl
theorem mq_ng_ss (S : SM) (x : Nat) : m_ss (q_ng S x) = m_ss S := rfl
theorem mq_ng_sg (S : SM) (x : Nat) : m_sg (q_ng S x) = m_sg S := rfl
theorem mq_ma_ni (S : SM) (x : Fn) : m_ni (q_ma S x) = m_ni S := rfl
theorem mq_ma_wa (S : SM) (x : Fn) : m_wa (q_ma S x) = m_wa S := rfl
theorem mq_ma_un (S : SM) (x : Fn) : m_un (q_ma S x) = m_un S := rfl
theorem mq_ma_ns (S : SM) (x : Fn) : m_ns (q_ma S x) = m_ns S := rfl
theorem mq_ma_np (S : SM) (x : Fn) : m_np (q_ma S x) = m_np S := rfl
theorem mq_ma_nw (S : SM) (x : Fn) : m_nw (q_ma S x) = m_nw S := rfl
theorem mq_ma_ng (S : SM) (x : Fn) : m_ng (q_ma S x) = m_ng S := rfl
theorem mq_ma (S : SM) (x : Fn) : m_ma (q_ma S x) = x := rfl
theorem mq_ma_st (S : SM) (x : Fn) : m_st (q_ma S x) = m_st S := rfl
theorem mq_ma_ou (S : SM) (x : Fn) : m_ou (q_ma S x) = m_ou S := rfl
theorem mq_ma_ru (S : SM) (x : Fn) : m_ru (q_ma S x) = m_ru S := rfl
theorem mq_ma_so (S : SM) (x : Fn) : m_so (q_ma S x) = m_so S := rfl
theorem mq_ma_mt (S : SM) (x : Fn) : m_mt (q_ma S x) = m_mt S := rfl
theorem mq_ma_vo (S : SM) (x : Fn) : m_vo (q_ma S x) = m_vo S := rfl
theorem mq_ma_gi (S : SM) (x : Fn) : m_gi (q_ma S x) = m_gi S := rfl
theorem mq_ma_ca (S : SM) (x : Fn) : m_ca (q_ma S x) = m_ca S := rfl
theorem mq_ma_tr (S : SM) (x : Fn) : m_tr (q_ma S x) = m_tr S := rfl
theorem mq_ma_sw (S : SM) (x : Fn) : m_sw (q_ma S x) = m_sw S := rfl
theorem mq_ma_ss (S : SM) (x : Fn) : m_ss (q_ma S x) = m_ss S := rfl
theorem mq_ma_sg (S : SM) (x : Fn) : m_sg (q_ma S x) = m_sg S := rfl
theorem mq_st_ni (S : SM) (x : Fn) : m_ni (q_st S x) = m_ni S := rfl
theorem mq_st_wa (S : SM) (x : Fn) : m_wa (q_st S x) = m_wa S := rfl
theorem mq_st_un (S : SM) (x : Fn) : m_un (q_st S x) = m_un S := rfl
theorem mq_st_ns (S : SM) (x : Fn) : m_ns (q_st S x) = m_ns S := rfl
theorem mq_st_np (S : SM) (x : Fn) : m_np (q_st S x) = m_np S := rfl
theorem mq_st_nw (S : SM) (x : Fn) : m_nw (q_st S x) = m_nw S := rfl
theorem mq_st_ng (S : SM) (x : Fn) : m_ng (q_st S x) = m_ng S := rfl
theorem mq_st_ma (S : SM) (x : Fn) : m_ma (q_st S x) = m_ma S := rfl
theorem mq_st (S : SM) (x : Fn) : m_st (q_st S x) = x := rfl
theorem mq_st_ou (S : SM) (x : Fn) : m_ou (q_st S x) = m_ou S := rfl
theorem mq_st_ru (S : SM) (x : Fn) : m_ru (q_st S x) = m_ru S := rfl
theorem mq_st_so (S : SM) (x : Fn) : m_so (q_st S x) = m_so S := rfl
theorem mq_st_mt (S : SM) (x : Fn) : m_mt (q_st S x) = m_mt S := rfl
theorem mq_st_vo (S : SM) (x : Fn) : m_vo (q_st S x) = m_vo S := rfl
theorem mq_st_gi (S : SM) (x : Fn) : m_gi (q_st S x) = m_gi S := rfl
theorem mq_st_ca (S : SM) (x : Fn) : m_ca (q_st S x) = m_ca S := rfl
theorem mq_st_tr (S : SM) (x : Fn) : m_tr (q_st S x) = m_tr S := rfl
theorem mq_st_sw (S : SM) (x : Fn) : m_sw (q_st S x) = m_sw S := rfl
theorem mq_st_ss (S : SM) (x : Fn) : m_ss (q_st S x) = m_ss S := rfl
theorem mq_st_sg (S : SM) (x : Fn) : m_sg (q_st S x) = m_sg S := rfl
theorem mq_ou_ni (S : SM) (x : Fn) : m_ni (q_ou S x) = m_ni S := rfl
theorem mq_ou_wa (S : SM) (x : Fn) : m_wa (q_ou S x) = m_wa S := rfl
theorem mq_ou_un (S : SM) (x : Fn) : m_un (q_ou S x) = m_un S := rfl
theorem mq_ou_ns (S : SM) (x : Fn) : m_ns (q_ou S x) = m_ns S := rfl
theorem mq_ou_np (S : SM) (x : Fn) : m_np (q_ou S x) = m_np S := rfl
theorem mq_ou_nw (S : SM) (x : Fn) : m_nw (q_ou S x) = m_nw S := rfl
theorem mq_ou_ng (S : SM) (x : Fn) : m_ng (q_ou S x) = m_ng S := rfl
theorem mq_ou_ma (S : SM) (x : Fn) : m_ma (q_ou S x) = m_ma S := rfl
theorem mq_ou_st (S : SM) (x : Fn) : m_st (q_ou S x) = m_st S := rfl
theorem mq_ou (S : SM) (x : Fn) : m_ou (q_ou S x) = x := rfl
theorem mq_ou_ru (S : SM) (x : Fn) : m_ru (q_ou S x) = m_ru S := rfl
theorem mq_ou_so (S : SM) (x : Fn) : m_so (q_ou S x) = m_so S := rfl
theorem mq_ou_mt (S : SM) (x : Fn) : m_mt (q_ou S x) = m_mt S := rfl
theorem mq_ou_vo (S : SM) (x : Fn) : m_vo (q_ou S x) = m_vo S := rfl
theorem mq_ou_gi (S : SM) (x : Fn) : m_gi (q_ou S x) = m_gi S := rfl
theorem mq_ou_ca (S : SM) (x : Fn) : m_ca (q_ou S x) = m_ca S := rfl
theorem mq_ou_tr (S : SM) (x : Fn) : m_tr (q_ou S x) = m_tr S := rfl
theorem mq_ou_sw (S : SM) (x : Fn) : m_sw (q_ou S x) = m_sw S := rfl
theorem mq_ou_ss (S : SM) (x : Fn) : m_ss (q_ou S x) = m_ss S := rfl
theorem mq_ou_sg (S : SM) (x : Fn) : m_sg (q_ou S x) = m_sg S := rfl
theorem mq_ru_ni (S : SM) (x : Fn) : m_ni (q_ru S x) = m_ni S := rfl
theorem mq_ru_wa (S : SM) (x : Fn) : m_wa (q_ru S x) = m_wa S := rfl
theorem mq_ru_un (S : SM) (x : Fn) : m_un (q_ru S x) = m_un S := rfl
theorem mq_ru_ns (S : SM) (x : Fn) : m_ns (q_ru S x) = m_ns S := rfl
theorem mq_ru_np (S : SM) (x : Fn) : m_np (q_ru S x) = m_np S := rfl
theorem mq_ru_nw (S : SM) (x : Fn) : m_nw (q_ru S x) = m_nw S := rfl
theorem mq_ru_ng (S : SM) (x : Fn) : m_ng (q_ru S x) = m_ng S := rfl
theorem mq_ru_ma (S : SM) (x : Fn) : m_ma (q_ru S x) = m_ma S := rfl
theorem mq_ru_st (S : SM) (x : Fn) : m_st (q_ru S x) = m_st S := rfl
theorem mq_ru_ou (S : SM) (x : Fn) : m_ou (q_ru S x) = m_ou S := rfl
theorem mq_ru (S : SM) (x : Fn) : m_ru (q_ru S x) = x := rfl
theorem mq_ru_so (S : SM) (x : Fn) : m_so (q_ru S x) = m_so S := rfl
theorem mq_ru_mt (S : SM) (x : Fn) : m_mt (q_ru S x) = m_mt S := rfl
theorem mq_ru_vo (S : SM) (x : Fn) : m_vo (q_ru S x) = m_vo S := rfl
theorem mq_ru_gi (S : SM) (x : Fn) : m_gi (q_ru S x) = m_gi S := rfl
theorem mq_ru_ca (S : SM) (x : Fn) : m_ca (q_ru S x) = m_ca S := rfl
theorem mq_ru_tr (S : SM) (x : Fn) : m_tr (q_ru S x) = m_tr S := rfl
theorem mq_ru_sw (S : SM) (x : Fn) : m_sw (q_ru S x) = m_sw S := rfl
theorem mq_ru_ss (S : SM) (x : Fn) : m_ss (q_ru S x) = m_ss S := rfl
theorem mq_ru_sg (S : SM) (x : Fn) : m_sg (q_ru S x) = m_sg S := rfl
theorem mq_so_ni (S : SM) (x : FnN) : m_ni (q_so S x) = m_ni S := rfl
theorem mq_so_wa (S : SM) (x : FnN) : m_wa (q_so S x) = m_wa S := rfl
theorem mq_so_un (S : SM) (x : FnN) : m_un (q_so S x) = m_un S := rfl
theorem mq_so_ns (S : SM) (x : FnN) : m_ns (q_so S x) = m_ns S := rfl
theorem mq_so_np (S : SM) (x : FnN) : m_np (q_so S x) = m_np S := rfl
theorem mq_so_nw (S : SM) (x : FnN) : m_nw (q_so S x) = m_nw S := rfl
theorem mq_so_ng (S : SM) (x : FnN) : m_ng (q_so S x) = m_ng S := rfl
theorem mq_so_ma (S : SM) (x : FnN) : m_ma (q_so S x) = m_ma S := rfl
theorem mq_so_st (S : SM) (x : FnN) : m_st (q_so S x) = m_st S := rfl
theorem mq_so_ou (S : SM) (x : FnN) : m_ou (q_so S x) = m_ou S := rfl
theorem mq_so_ru (S : SM) (x : FnN) : m_ru (q_so S x) = m_ru S := rfl
theorem mq_so (S : SM) (x : FnN) : m_so (q_so S x) = x := rfl
theorem mq_so_mt (S : SM) (x : FnN) : m_mt (q_so S x) = m_mt S := rfl
theorem mq_so_vo (S : SM) (x : FnN) : m_vo (q_so S x) = m_vo S := rfl
theorem mq_so_gi (S : SM) (x : FnN) : m_gi (q_so S x) = m_gi S := rfl
theorem mq_so_ca (S : SM) (x : FnN) : m_ca (q_so S x) = m_ca S := rfl
theorem mq_so_tr (S : SM) (x : FnN) : m_tr (q_so S x) = m_tr S := rfl
theorem mq_so_sw (S : SM) (x : FnN) : m_sw (q_so S x) = m_sw S := rfl
theorem mq_so_ss (S : SM) (x : FnN) : m_ss (q_so S x) = m_ss S := rfl
theorem mq_so_sg (S : SM) (x : FnN) : m_sg (q_so S x) = m_sg S := rfl
theorem mq_mt_ni (S : SM) (x : Fn) : m_ni (q_mt S x) = m_ni S := rfl
theorem mq_mt_wa (S : SM) (x : Fn) : m_wa (q_mt S x) = m_wa S := rfl
theorem mq_mt_un (S : SM) (x : Fn) : m_un (q_mt S x) = m_un S := rfl
theorem mq_mt_ns (S : SM) (x : Fn) : m_ns (q_mt S x) = m_ns S := rfl
theorem mq_mt_np (S : SM) (x : Fn) : m_np (q_mt S x) = m_np S := rfl
theorem mq_mt_nw (S : SM) (x : Fn) : m_nw (q_mt S x) = m_nw S := rfl
theorem mq_mt_ng (S : SM) (x : Fn) : m_ng (q_mt S x) = m_ng S := rfl
theorem mq_mt_ma (S : SM) (x : Fn) : m_ma (q_mt S x) = m_ma S := rfl
theorem mq_mt_st (S : SM) (x : Fn) : m_st (q_mt S x) = m_st S := rfl
theorem mq_mt_ou (S : SM) (x : Fn) : m_ou (q_mt S x) = m_ou S := rfl
theorem mq_mt_ru (S : SM) (x : Fn) : m_ru (q_mt S x) = m_ru S := rfl
theorem mq_mt_so (S : SM) (x : Fn) : m_so (q_mt S x) = m_so S := rfl
theorem mq_mt (S : SM) (x : Fn) : m_mt (q_mt S x) = x := rfl
theorem mq_mt_vo (S : SM) (x : Fn) : m_vo (q_mt S x) = m_vo S := rfl
theorem mq_mt_gi (S : SM) (x : Fn) : m_gi (q_mt S x) = m_gi S := rfl
theorem mq_mt_ca (S : SM) (x : Fn) : m_ca (q_mt S x) = m_ca S := rfl
theorem mq_mt_tr (S : SM) (x : Fn) : m_tr (q_mt S x) = m_tr S := rfl
theorem mq_mt_sw (S : SM) (x : Fn) : m_sw (q_mt S x) = m_sw S := rfl
theorem mq_mt_ss (S : SM) (x : Fn) : m_ss (q_mt S x) = m_ss S := rfl
theorem mq_mt_sg (S : SM) (x : Fn) : m_sg (q_mt S x) = m_sg S := rfl
theorem mq_vo_ni (S : SM) (x : Fn) : m_ni (q_vo S x) = m_ni S := rfl
theorem mq_vo_wa (S : SM) (x : Fn) : m_wa (q_vo S x) = m_wa S := rfl
theorem mq_vo_un (S : SM) (x : Fn) : m_un (q_vo S x) = m_un S := rfl
theorem mq_vo_ns (S : SM) (x : Fn) : m_ns (q_vo S x) = m_ns S := rfl
theorem mq_vo_np (S : SM) (x : Fn) : m_np (q_vo S x) = m_np S := rfl
theorem mq_vo_nw (S : SM) (x : Fn) : m_nw (q_vo S x) = m_nw S := rfl
theorem mq_vo_ng (S : SM) (x : Fn) : m_ng (q_vo S x) = m_ng S := rfl
theorem mq_vo_ma (S : SM) (x : Fn) : m_ma (q_vo S x) = m_ma S := rfl
theorem mq_vo_st (S : SM) (x : Fn) : m_st (q_vo S x) = m_st S := rfl
theorem mq_vo_ou (S : SM) (x : Fn) : m_ou (q_vo S x) = m_ou S := rfl
theorem mq_vo_ru (S : SM) (x : Fn) : m_ru (q_vo S x) = m_ru S := rfl
theorem mq_vo_so (S : SM) (x : Fn) : m_so (q_vo S x) = m_so S := rfl
theorem mq_vo_mt (S : SM) (x : Fn) : m_mt (q_vo S x) = m_mt S := rfl
theorem mq_vo (S : SM) (x : Fn) : m_vo (q_vo S x) = x := rfl
theorem mq_vo_gi (S : SM) (x : Fn) : m_gi (q_vo S x) = m_gi S := rfl
theorem mq_vo_ca (S : SM) (x : Fn) : m_ca (q_vo S x) = m_ca S := rfl
theorem mq_vo_tr (S : SM) (x : Fn) : m_tr (q_vo S x) = m_tr S := rfl
theorem mq_vo_sw (S : SM) (x : Fn) : m_sw (q_vo S x) = m_sw S := rfl
theorem mq_vo_ss (S : SM) (x : Fn) : m_ss (q_vo S x) = m_ss S := rfl
theorem mq_vo_sg (S : SM) (x : Fn) : m_sg (q_vo S x) = m_sg S := rfl
theorem mq_gi_ni (S : SM) (x : Fn) : m_ni (q_gi S x) = m_ni S := rfl
theorem mq_gi_wa (S : SM) (x : Fn) : m_wa (q_gi S x) = m_wa S := rfl
theorem mq_gi_un (S : SM) (x : Fn) : m_un (q_gi S x) = m_un S := rfl
theorem mq_gi_ns (S : SM) (x : Fn) : m_ns (q_gi S x) = m_ns S := rfl
theorem mq_gi_np (S : SM) (x : Fn) : m_np (q_gi S x) = m_np S := rfl
theorem mq_gi_nw (S : SM) (x : Fn) : m_nw (q_gi S x) = m_nw S := rfl
theorem mq_gi_ng (S : SM) (x : Fn) : m_ng (q_gi S x) = m_ng S := rfl
theorem mq_gi_ma (S : SM) (x : Fn) : m_ma (q_gi S x) = m_ma S := rfl
theorem mq_gi_st (S : SM) (x : Fn) : m_st (q_gi S x) = m_st S := rfl
theorem mq_gi_ou (S : SM) (x : Fn) : m_ou (q_gi S x) = m_ou S := rfl
theorem mq_gi_ru (S : SM) (x : Fn) : m_ru (q_gi S x) = m_ru S := rfl
theorem mq_gi_so (S : SM) (x : Fn) : m_so (q_gi S x) = m_so S := rfl
theorem mq_gi_mt (S : SM) (x : Fn) : m_mt (q_gi S x) = m_mt S := rfl
theorem mq_gi_vo (S : SM) (x : Fn) : m_vo (q_gi S x) = m_vo S := rfl
theorem mq_gi (S : SM) (x : Fn) : m_gi (q_gi S x) = x := rfl
theorem mq_gi_ca (S : SM) (x : Fn) : m_ca (q_gi S x) = m_ca S := rfl
theorem mq_gi_tr (S : SM) (x : Fn) : m_tr (q_gi S x) = m_tr S := rfl
theorem mq_gi_sw (S : SM) (x : Fn) : m_sw (q_gi S x) = m_sw S := rfl
theorem mq_gi_ss (S : SM) (x : Fn) : m_ss (q_gi S x) = m_ss S := rfl
theorem mq_gi_sg (S : SM) (x : Fn) : m_sg (q_gi S x) = m_sg S := rfl
theorem mq_ca_ni (S : SM) (x : Fn) : m_ni (q_ca S x) = m_ni S := rfl
theorem mq_ca_wa (S : SM) (x : Fn) : m_wa (q_ca S x) = m_wa S := rfl
theorem mq_ca_un (S : SM) (x : Fn) : m_un (q_ca S x) = m_un S := rfl
theorem mq_ca_ns (S : SM) (x : Fn) : m_ns (q_ca S x) = m_ns S := rfl
theorem mq_ca_np (S : SM) (x : Fn) : m_np (q_ca S x) = m_np S := rfl
theorem mq_ca_nw (S : SM) (x : Fn) : m_nw (q_ca S x) = m_nw S := rfl
theorem mq_ca_ng (S : SM) (x : Fn) : m_ng (q_ca S x) = m_ng S := rfl
theorem mq_ca_ma (S : SM) (x : Fn) : m_ma (q_ca S x) = m_ma S := rfl
theorem mq_ca_st (S : SM) (x : Fn) : m_st (q_ca S x) = m_st S := rfl
theorem mq_ca_ou (S : SM) (x : Fn) : m_ou (q_ca S x) = m_ou S := rfl
theorem mq_ca_ru (S : SM) (x : Fn) : m_ru (q_ca S x) = m_ru S := rfl
theorem mq_ca_so (S : SM) (x : Fn) : m_so (q_ca S x) = m_so S := rfl
theorem mq_ca_mt (S : SM) (x : Fn) : m_mt (q_ca S x) = m_mt S := rfl
theorem mq_ca_vo (S : SM) (x : Fn) : m_vo (q_ca S x) = m_vo S := rfl
theorem mq_ca_gi (S : SM) (x : Fn) : m_gi (q_ca S x) = m_gi S := rfl
theorem mq_ca (S : SM) (x : Fn) : m_ca (q_ca S x) = x := rfl
theorem mq_ca_tr (S : SM) (x : Fn) : m_tr (q_ca S x) = m_tr S := rfl
theorem mq_ca_sw (S : SM) (x : Fn) : m_sw (q_ca S x) = m_sw S := rfl
theorem mq_ca_ss (S : SM) (x : Fn) : m_ss (q_ca S x) = m_ss S := rfl
theorem mq_ca_sg (S : SM) (x : Fn) : m_sg (q_ca S x) = m_sg S := rfl
theorem mq_tr_ni (S : SM) (x : Fn) : m_ni (q_tr S x) = m_ni S := rfl
theorem mq_tr_wa (S : SM) (x : Fn) : m_wa (q_tr S x) = m_wa S := rfl
theorem mq_tr_un (S : SM) (x : Fn) : m_un (q_tr S x) = m_un S := rfl
theorem mq_tr_ns (S : SM) (x : Fn) : m_ns (q_tr S x) = m_ns S := rfl
theorem mq_tr_np (S : SM) (x : Fn) : m_np (q_tr S x) = m_np S := rfl
theorem mq_tr_nw (S : SM) (x : Fn) : m_nw (q_tr S x) = m_nw S := rfl
theorem mq_tr_ng (S : SM) (x : Fn) : m_ng (q_tr S x) = m_ng S := rfl
theorem mq_tr_ma (S : SM) (x : Fn) : m_ma (q_tr S x) = m_ma S := rfl
theorem mq_tr_st (S : SM) (x : Fn) : m_st (q_tr S x) = m_st S := rfl
theorem mq_tr_ou (S : SM) (x : Fn) : m_ou (q_tr S x) = m_ou S := rfl
theorem mq_tr_ru (S : SM) (x : Fn) : m_ru (q_tr S x) = m_ru S := rfl
theorem mq_tr_so (S : SM) (x : Fn) : m_so (q_tr S x) = m_so S := rfl
theorem mq_tr_mt (S : SM) (x : Fn) : m_mt (q_tr S x) = m_mt S := rfl
theorem mq_tr_vo (S : SM) (x : Fn) : m_vo (q_tr S x) = m_vo S := rfl
theorem mq_tr_gi (S : SM) (x : Fn) : m_gi (q_tr S x) = m_gi S := rfl
theorem mq_tr_ca (S : SM) (x : Fn) : m_ca (q_tr S x) = m_ca S := rfl
theorem mq_tr (S : SM) (x : Fn) : m_tr (q_tr S x) = x := rfl
theorem mq_tr_sw (S : SM) (x : Fn) : m_sw (q_tr S x) = m_sw S := rfl
theorem mq_tr_ss (S : SM) (x : Fn) : m_ss (q_tr S x) = m_ss S := rfl
theorem mq_tr_sg (S : SM) (x : Fn) : m_sg (q_tr S x) = m_sg S := rfl
theorem mq_sw_ni (S : SM) (x : FnN) : m_ni (q_sw S x) = m_ni S := rfl
theorem mq_sw_wa (S : SM) (x : FnN) : m_wa (q_sw S x) = m_wa S := rfl
theorem mq_sw_un (S : SM) (x : FnN) : m_un (q_sw S x) = m_un S := rfl
theorem mq_sw_ns (S : SM) (x : FnN) : m_ns (q_sw S x) = m_ns S := rfl
theorem mq_sw_np (S : SM) (x : FnN) : m_np (q_sw S x) = m_np S := rfl
theorem mq_sw_nw (S : SM) (x : FnN) : m_nw (q_sw S x) = m_nw S := rfl
theorem mq_sw_ng (S : SM) (x : FnN) : m_ng (q_sw S x) = m_ng S := rfl
theorem mq_sw_ma (S : SM) (x : FnN) : m_ma (q_sw S x) = m_ma S := rfl
theorem mq_sw_st (S : SM) (x : FnN) : m_st (q_sw S x) = m_st S := rfl
theorem mq_sw_ou (S : SM) (x : FnN) : m_ou (q_sw S x) = m_ou S := rfl
theorem mq_sw_ru (S : SM) (x : FnN) : m_ru (q_sw S x) = m_ru S := rfl
theorem mq_sw_so (S : SM) (x : FnN) : m_so (q_sw S x) = m_so S := rfl
theorem mq_sw_mt (S : SM) (x : FnN) : m_mt (q_sw S x) = m_mt S := rfl
theorem mq_sw_vo (S : SM) (x : FnN) : m_vo (q_sw S x) = m_vo S := rfl
theorem mq_sw_gi (S : SM) (x : FnN) : m_gi (q_sw S x) = m_gi S := rfl
theorem mq_sw_ca (S : SM) (x : FnN) : m_ca (q_sw S x) = m_ca S := rfl
theorem mq_sw_tr (S : SM) (x : FnN) : m_tr (q_sw S x) = m_tr S := rfl
theorem mq_sw (S : SM) (x : FnN) : m_sw (q_sw S x) = x := rfl
theorem mq_sw_ss (S : SM) (x : FnN) : m_ss (q_sw S x) = m_ss S := rfl
theorem mq_sw_sg (S : SM) (x : FnN) : m_sg (q_sw S x) = m_sg S := rfl
theorem mq_ss_ni (S : SM) (x : FnN) : m_ni (q_ss S x) = m_ni S := rfl
theorem mq_ss_wa (S : SM) (x : FnN) : m_wa (q_ss S x) = m_wa S := rfl
theorem mq_ss_un (S : SM) (x : FnN) : m_un (q_ss S x) = m_un S := rfl
theorem mq_ss_ns (S : SM) (x : FnN) : m_ns (q_ss S x) = m_ns S := rfl
theorem mq_ss_np (S : SM) (x : FnN) : m_np (q_ss S x) = m_np S := rfl
theorem mq_ss_nw (S : SM) (x : FnN) : m_nw (q_ss S x) = m_nw S := rfl
theorem mq_ss_ng (S : SM) (x : FnN) : m_ng (q_ss S x) = m_ng S := rfl
theorem mq_ss_ma (S : SM) (x : FnN) : m_ma (q_ss S x) = m_ma S := rfl
theorem mq_ss_st (S : SM) (x : FnN) : m_st (q_ss S x) = m_st S := rfl
theorem mq_ss_ou (S : SM) (x : FnN) : m_ou (q_ss S x) = m_ou S := rfl
theorem mq_ss_ru (S : SM) (x : FnN) : m_ru (q_ss S x) = m_ru S := rfl
theorem mq_ss_so (S : SM) (x : FnN) : m_so (q_ss S x) = m_so S := rfl
theorem mq_ss_mt (S : SM) (x : FnN) : m_mt (q_ss S x) = m_mt S := rfl
theorem mq_ss_vo (S : SM) (x : FnN) : m_vo (q_ss S x) = m_vo S := rfl
theorem mq_ss_gi (S : SM) (x : FnN) : m_gi (q_ss S x) = m_gi S := rfl
theorem mq_ss_ca (S : SM) (x : FnN) : m_ca (q_ss S x) = m_ca S := rfl
theorem mq_ss_tr (S : SM) (x : FnN) : m_tr (q_ss S x) = m_tr S := rfl
theorem mq_ss_sw (S : SM) (x : FnN) : m_sw (q_ss S x) = m_sw S := rfl
theorem mq_ss (S : SM) (x : FnN) : m_ss (q_ss S x) = x := rfl
theorem mq_ss_sg (S : SM) (x : FnN) : m_sg (q_ss S x) = m_sg S := rfl
theorem mq_sg_ni (S : SM) (x : Fn) : m_ni (q_sg S x) = m_ni S := rfl
theorem mq_sg_wa (S : SM) (x : Fn) : m_wa (q_sg S x) = m_wa S := rfl
theorem mq_sg_un (S : SM) (x : Fn) : m_un (q_sg S x) = m_un S := rfl
theorem mq_sg_ns (S : SM) (x : Fn) : m_ns (q_sg S x) = m_ns S := rfl
theorem mq_sg_np (S : SM) (x : Fn) : m_np (q_sg S x) = m_np S := rfl
theorem mq_sg_nw (S : SM) (x : Fn) : m_nw (q_sg S x) = m_nw S := rfl
theorem mq_sg_ng (S : SM) (x : Fn) : m_ng (q_sg S x) = m_ng S := rfl
theorem mq_sg_ma (S : SM) (x : Fn) : m_ma (q_sg S x) = m_ma S := rfl
theorem mq_sg_st (S : SM) (x : Fn) : m_st (q_sg S x) = m_st S := rfl
theorem mq_sg_ou (S : SM) (x : Fn) : m_ou (q_sg S x) = m_ou S := rfl
theorem mq_sg_ru (S : SM) (x : Fn) : m_ru (q_sg S x) = m_ru S := rfl
theorem mq_sg_so (S : SM) (x : Fn) : m_so (q_sg S x) = m_so S := rfl
theorem mq_sg_mt (S : SM) (x : Fn) : m_mt (q_sg S x) = m_mt S := rfl
theorem mq_sg_vo (S : SM) (x : Fn) : m_vo (q_sg S x) = m_vo S := rfl
theorem mq_sg_gi (S : SM) (x : Fn) : m_gi (q_sg S x) = m_gi S := rfl
theorem mq_sg_ca (S : SM) (x : Fn) : m_ca (q_sg S x) = m_ca S := rfl
theorem mq_sg_tr (S : SM) (x : Fn) : m_tr (q_sg S x) = m_tr S := rfl
theorem mq_sg_sw (S : SM) (x : Fn) : m_sw (q_sg S x) = m_sw S := rfl
theorem mq_sg_ss (S : SM) (x : Fn) : m_ss (q_sg S x) = m_ss S := rfl
theorem mq_sg (S : SM) (x : Fn) : m_sg (q_sg S x) = x := rfl
def mkS (x_ni : Int32) (x_wa : Int32) (x_un : Int32) (x_ns : Nat) (x_np : Nat) (x_nw : Nat) (x_ng : Nat) (x_ma : Fn) (x_st : Fn) (x_ou : Fn) (x_ru : Fn) (x_so : FnN) (x_mt : Fn) (x_vo : Fn) (x_gi : Fn) (x_ca : Fn) (x_tr : Fn) (x_sw : FnN) (x_ss : FnN) (x_sg : Fn) : SM := (x_ni, x_wa, x_un, x_ns, x_np, x_nw, x_ng, x_ma, x_st, x_ou, x_ru, x_so, x_mt, x_vo, x_gi, x_ca, x_tr, x_sw, x_ss, x_sg)
theorem SM_ext {A B : SM} (h0 : m_ni A = m_ni B) (h1 : m_wa A = m_wa B) (h2 : m_un A = m_un B) (h3 : m_ns A = m_ns B) (h4 : m_np A = m_np B) (h5 : m_nw A = m_nw B) (h6 : m_ng A = m_ng B) (h7 : m_ma A = m_ma B) (h8 : m_st A = m_st B) (h9 : m_ou A = m_ou B) (h10 : m_ru A = m_ru B) (h11 : m_so A = m_so B) (h12 : m_mt A = m_mt B) (h13 : m_vo A = m_vo B) (h14 : m_gi A = m_gi B) (h15 : m_ca A = m_ca B) (h16 : m_tr A = m_tr B) (h17 : m_sw A = m_sw B) (h18 : m_ss A = m_ss B) (h19 : m_sg A = m_sg B) : A = B :=
  Prod.ext h0 (Prod.ext h1 (Prod.ext h2 (Prod.ext h3 (Prod.ext h4 (Prod.ext h5 (Prod.ext h6 (Prod.ext h7 (Prod.ext h8 (Prod.ext h9 (Prod.ext h10 (Prod.ext h11 (Prod.ext h12 (Prod.ext h13 (Prod.ext h14 (Prod.ext h15 (Prod.ext h16 (Prod.ext h17 (Prod.ext h18 (h19)))))))))))))))))))
/-- addresses: of the outer rows (1, 2, 4) and of trust (3); of the ships' rows, the sailors', the sightings' -/
abbrev AP : Type := (Nat → Nat) × (Nat → Nat) × (Nat → Nat) × (Nat → Nat)
def rw3 (a b c : Int32) : Fn := fun j => match j with | 0 => a | 1 => b | 2 => c | _ => 0
def rw4 (a b c d : Int32) : Fn := fun j => match j with | 0 => a | 1 => b | 2 => c | 3 => d | _ => 0
def rw5 (a b c d e : Int32) : Fn := fun j => match j with | 0 => a | 1 => b | 2 => c | 3 => d | 4 => e | _ => 0
theorem rw3_2 {a b c v : Int32} : upd (rw3 a b c) 2 v = rw3 a b v := by
  funext j
  by_cases e : j = 2
  · subst e; rw [pk_us]; rfl
  · rw [pk_un e]
    match j, e with
    | 0, _ => rfl
    | 1, _ => rfl
    | 2, e => exact absurd rfl e
    | j + 3, _ => rfl
theorem rw4_1 {a b c d v : Int32} : upd (rw4 a b c d) 1 v = rw4 a v c d := by
  funext j
  by_cases e : j = 1
  · subst e; rw [pk_us]; rfl
  · rw [pk_un e]
    match j, e with
    | 0, _ => rfl
    | 1, e => exact absurd rfl e
    | 2, _ => rfl
    | 3, _ => rfl
    | j + 4, _ => rfl
theorem rw4_2 {a b c d v : Int32} : upd (rw4 a b c d) 2 v = rw4 a b v d := by
  funext j
  by_cases e : j = 2
  · subst e; rw [pk_us]; rfl
  · rw [pk_un e]
    match j, e with
    | 0, _ => rfl
    | 1, _ => rfl
    | 2, e => exact absurd rfl e
    | 3, _ => rfl
    | j + 4, _ => rfl
theorem rw4_3 {a b c d v : Int32} : upd (rw4 a b c d) 3 v = rw4 a b c v := by
  funext j
  by_cases e : j = 3
  · subst e; rw [pk_us]; rfl
  · rw [pk_un e]
    match j, e with
    | 0, _ => rfl
    | 1, _ => rfl
    | 2, _ => rfl
    | 3, e => exact absurd rfl e
    | j + 4, _ => rfl
theorem rw5_3 {a b c d e' v : Int32} : upd (rw5 a b c d e') 3 v = rw5 a b c v e' := by
  funext j
  by_cases e : j = 3
  · subst e; rw [pk_us]; rfl
  · rw [pk_un e]
    match j, e with
    | 0, _ => rfl
    | 1, _ => rfl
    | 2, _ => rfl
    | 3, e => exact absurd rfl e
    | 4, _ => rfl
    | j + 5, _ => rfl
theorem rw5_4 {a b c d e' v : Int32} : upd (rw5 a b c d e') 4 v = rw5 a b c d v := by
  funext j
  by_cases e : j = 4
  · subst e; rw [pk_us]; rfl
  · rw [pk_un e]
    match j, e with
    | 0, _ => rfl
    | 1, _ => rfl
    | 2, _ => rfl
    | 3, _ => rfl
    | 4, e => exact absurd rfl e
    | j + 5, _ => rfl
def row3 (M : SM) (i : Nat) : Fn := rw3 (nI (m_sw M i)) (nI (m_ss M i)) (m_sg M i)
def row4 (M : SM) (i : Nat) : Fn := rw4 (m_ma M i) (m_st M i) (m_ou M i) (m_ru M i)
def row5 (M : SM) (i : Nat) : Fn := rw5 (nI (m_so M i)) (m_mt M i) (m_vo M i) (m_gi M i) (m_ca M i)
def rowsW (E : Ev) (w : Nat) (r : Nat → Nat) (f : Nat → Fn) : Nat → va_W | 0 => [] | n + 1 => (r n, aI E w (f n)) :: rowsW E w r f n
def wSt (E : Ev) (P : AP) (M : SM) : va_W := rowsW E 4 P.2.1 (row4 M) (m_ns M) ++ (rowsW E 5 P.2.2.1 (row5 M) (m_np M) ++ rowsW E 3 P.2.2.2 (row3 M) (m_ng M))
def wSo (E : Ev) (q : Nat) (P : AP) (M : SM) (fs : List Value) : va_W := (q, .inr (3, fs)) :: (P.1 1, aQ E (m_ns M) (fun j => some (P.2.1 j))) :: (P.1 2, aQ E (m_np M) (fun j => some (P.2.2.1 j))) :: (P.1 3, aI E (m_nw M) (m_tr M)) :: (P.1 4, aQ E (m_ng M) (fun j => some (P.2.2.2 j))) :: wSt E P M
def wS (E : Ev) (q : Nat) (P : AP) (M : SM) : va_W := wSo E q P M [.int (m_ni M), .int (m_wa M), .int (m_un M), .ref (P.1 1), .ref (P.1 2), .ref (P.1 3), .ref (P.1 4)]
theorem rows_congr {E : Ev} {w : Nat} {r r' : Nat → Nat} {f f' : Nat → Fn} : ∀ {n : Nat}, (∀ j, j < n → r j = r' j ∧ f j = f' j) → rowsW E w r f n = rowsW E w r' f' n
  | 0, _ => rfl
  | n + 1, h => by
    rw [rowsW, rowsW, rows_congr (n := n) (fun j hj => h j (by omega)), (h n (by omega)).1, (h n (by omega)).2]
theorem rows_pick {E : Ev} {w : Nat} {r : Nat → Nat} {f : Nat → Fn} : ∀ {n i : Nat}, i < n → ∃ wr, (rowsW E w r f n).Perm ((r i, aI E w (f i)) :: wr) ∧ ∀ g : Nat → Fn, (∀ j, j < n → j ≠ i → g j = f j) → (rowsW E w r g n).Perm ((r i, aI E w (g i)) :: wr)
  | 0, i, h => absurd h (by omega)
  | n + 1, i, h => by
    by_cases e : i = n
    · subst e
      exact ⟨rowsW E w r f i, List.Perm.refl _, fun g hg => by
        rw [rowsW, rows_congr (r := r) (r' := r) (f := g) (f' := f) (n := i) (fun j hj => ⟨rfl, hg j (by omega) (by omega)⟩)]⟩
    · obtain ⟨wr, h1, h2⟩ := rows_pick (E := E) (w := w) (r := r) (f := f) (n := n) (i := i) (by omega)
      refine ⟨(r n, aI E w (f n)) :: wr, ?_, fun g hg => ?_⟩
      · rw [rowsW]
        exact (List.Perm.cons _ h1).trans (List.Perm.swap _ _ _)
      · rw [rowsW, hg n (by omega) (fun q => e q.symm)]
        exact (List.Perm.cons _ (h2 g (fun j hj hne => hg j (by omega) hne))).trans (List.Perm.swap _ _ _)
theorem cnt9_perm {a : Nat × va_E} {l m : va_W} (h : l.Perm m) : cnt9 a l = cnt9 a m := by
  letI : DecidableEq (Nat × va_E) := dq9
  exact h.count_eq a
/-- a cell of a world, and what it becomes -/
def Pk (ws : va_W) (x : Nat × va_E) (ws' : va_W) (y : Nat × va_E) : Prop := ∃ wr : va_W, ws.Perm (x :: wr) ∧ ws'.Perm (y :: wr)
theorem Pk.l {pre ws ws' : va_W} {x y : Nat × va_E} (h : Pk ws x ws' y) : Pk (pre ++ ws) x (pre ++ ws') y := by
  obtain ⟨wr, h1, h2⟩ := h
  refine ⟨pre ++ wr, perm9 (fun a => ?_), perm9 (fun a => ?_)⟩
  · have := cnt9_perm (a := a) h1; rw [cnt9_cons] at this; rw [cnt9_app, cnt9_cons, cnt9_app]; omega
  · have := cnt9_perm (a := a) h2; rw [cnt9_cons] at this; rw [cnt9_app, cnt9_cons, cnt9_app]; omega
theorem Pk.r {post ws ws' : va_W} {x y : Nat × va_E} (h : Pk ws x ws' y) : Pk (ws ++ post) x (ws' ++ post) y := by
  obtain ⟨wr, h1, h2⟩ := h
  refine ⟨wr ++ post, perm9 (fun a => ?_), perm9 (fun a => ?_)⟩
  · have := cnt9_perm (a := a) h1; rw [cnt9_cons] at this; rw [cnt9_app, cnt9_cons, cnt9_app]; omega
  · have := cnt9_perm (a := a) h2; rw [cnt9_cons] at this; rw [cnt9_app, cnt9_cons, cnt9_app]; omega
theorem Pk.mem {ws ws' : va_W} {x y : Nat × va_E} (h : Pk ws x ws' y) : x ∈ ws := by
  obtain ⟨wr, h1, -⟩ := h
  exact h1.mem_iff.mpr List.mem_cons_self
section PKS
variable {E : Ev} {q i : Nat} {P : AP} {M : SM}
theorem pm_a {A B C wr : va_W} {x : Nat × va_E} (h : B.Perm (x :: wr)) : (A ++ (B ++ C)).Perm (x :: (A ++ (wr ++ C))) := perm9 (fun a => by
  have := cnt9_perm (a := a) h; rw [cnt9_cons] at this; simp only [cnt9_app, cnt9_cons]; omega)
theorem pm_b {A B C D wr : va_W} {x : Nat × va_E} (h : B.Perm (x :: wr)) : (A ++ (D ++ (B ++ C))).Perm (x :: (A ++ (D ++ (wr ++ C)))) := perm9 (fun a => by
  have := cnt9_perm (a := a) h; rw [cnt9_cons] at this; simp only [cnt9_app, cnt9_cons]; omega)
theorem pm_c {A B C D wr : va_W} {x : Nat × va_E} (h : B.Perm (x :: wr)) : (A ++ (D ++ (C ++ B))).Perm (x :: (A ++ (D ++ (C ++ wr)))) := perm9 (fun a => by
  have := cnt9_perm (a := a) h; rw [cnt9_cons] at this; simp only [cnt9_app, cnt9_cons]; omega)
def wSh (E : Ev) (q : Nat) (P : AP) (M : SM) : va_W := [(q, .inr (3, [.int (m_ni M), .int (m_wa M), .int (m_un M), .ref (P.1 1), .ref (P.1 2), .ref (P.1 3), .ref (P.1 4)])), (P.1 1, aQ E (m_ns M) (fun j => some (P.2.1 j))), (P.1 2, aQ E (m_np M) (fun j => some (P.2.2.1 j))), (P.1 3, aI E (m_nw M) (m_tr M)), (P.1 4, aQ E (m_ng M) (fun j => some (P.2.2.2 j)))]
theorem wS_cut : wS E q P M = wSh E q P M ++ (rowsW E 4 P.2.1 (row4 M) (m_ns M) ++ (rowsW E 5 P.2.2.1 (row5 M) (m_np M) ++ rowsW E 3 P.2.2.2 (row3 M) (m_ng M))) := rfl
/-- a ship's row -/
theorem Pk_4 (hi : i < m_ns M) : Pk (wS E q P M) (P.2.1 i, aI E 4 (row4 M i)) (wS E q P M) (P.2.1 i, aI E 4 (row4 M i)) := by
  obtain ⟨wr, h1, -⟩ := rows_pick (E := E) (w := 4) (r := P.2.1) (f := row4 M) hi
  exact ⟨_, by rw [wS_cut]; exact pm_a h1, by rw [wS_cut]; exact pm_a h1⟩
theorem Pk_5 (hi : i < m_np M) : Pk (wS E q P M) (P.2.2.1 i, aI E 5 (row5 M i)) (wS E q P M) (P.2.2.1 i, aI E 5 (row5 M i)) := by
  obtain ⟨wr, h1, -⟩ := rows_pick (E := E) (w := 5) (r := P.2.2.1) (f := row5 M) hi
  exact ⟨_, by rw [wS_cut]; exact pm_b h1, by rw [wS_cut]; exact pm_b h1⟩
theorem Pk_3 (hi : i < m_ng M) : Pk (wS E q P M) (P.2.2.2 i, aI E 3 (row3 M i)) (wS E q P M) (P.2.2.2 i, aI E 3 (row3 M i)) := by
  obtain ⟨wr, h1, -⟩ := rows_pick (E := E) (w := 3) (r := P.2.2.2) (f := row3 M) hi
  exact ⟨_, by rw [wS_cut]; exact pm_c h1, by rw [wS_cut]; exact pm_c h1⟩
theorem pk_4g {M' : SM} (hi : i < m_ns M) (h0 : wSh E q P M' = wSh E q P M) (hn : m_ns M' = m_ns M) (h5 : rowsW E 5 P.2.2.1 (row5 M') (m_np M') = rowsW E 5 P.2.2.1 (row5 M) (m_np M)) (h3 : rowsW E 3 P.2.2.2 (row3 M') (m_ng M') = rowsW E 3 P.2.2.2 (row3 M) (m_ng M)) (h4 : ∀ j, j < m_ns M → j ≠ i → row4 M' j = row4 M j) : Pk (wS E q P M) (P.2.1 i, aI E 4 (row4 M i)) (wS E q P M') (P.2.1 i, aI E 4 (row4 M' i)) := by
  obtain ⟨wr, h1, h2⟩ := rows_pick (E := E) (w := 4) (r := P.2.1) (f := row4 M) hi
  exact ⟨_, by rw [wS_cut]; exact pm_a h1, by rw [wS_cut, h0, h5, h3, hn]; exact pm_a (h2 (row4 M') h4)⟩
theorem pk_5g {M' : SM} (hi : i < m_np M) (h0 : wSh E q P M' = wSh E q P M) (hn : m_np M' = m_np M) (h4 : rowsW E 4 P.2.1 (row4 M') (m_ns M') = rowsW E 4 P.2.1 (row4 M) (m_ns M)) (h3 : rowsW E 3 P.2.2.2 (row3 M') (m_ng M') = rowsW E 3 P.2.2.2 (row3 M) (m_ng M)) (h5 : ∀ j, j < m_np M → j ≠ i → row5 M' j = row5 M j) : Pk (wS E q P M) (P.2.2.1 i, aI E 5 (row5 M i)) (wS E q P M') (P.2.2.1 i, aI E 5 (row5 M' i)) := by
  obtain ⟨wr, h1, h2⟩ := rows_pick (E := E) (w := 5) (r := P.2.2.1) (f := row5 M) hi
  exact ⟨_, by rw [wS_cut]; exact pm_b h1, by rw [wS_cut, h0, h4, h3, hn]; exact pm_b (h2 (row5 M') h5)⟩
theorem pk_3g {M' : SM} (hi : i < m_ng M) (h0 : wSh E q P M' = wSh E q P M) (hn : m_ng M' = m_ng M) (h4 : rowsW E 4 P.2.1 (row4 M') (m_ns M') = rowsW E 4 P.2.1 (row4 M) (m_ns M)) (h5 : rowsW E 5 P.2.2.1 (row5 M') (m_np M') = rowsW E 5 P.2.2.1 (row5 M) (m_np M)) (h3 : ∀ j, j < m_ng M → j ≠ i → row3 M' j = row3 M j) : Pk (wS E q P M) (P.2.2.2 i, aI E 3 (row3 M i)) (wS E q P M') (P.2.2.2 i, aI E 3 (row3 M' i)) := by
  obtain ⟨wr, h1, h2⟩ := rows_pick (E := E) (w := 3) (r := P.2.2.2) (f := row3 M) hi
  exact ⟨_, by rw [wS_cut]; exact pm_c h1, by rw [wS_cut, h0, h4, h5, hn]; exact pm_c (h2 (row3 M') h3)⟩
theorem Pk_st (v : Int32) (hi : i < m_ns M) : Pk (wS E q P M) (P.2.1 i, aI E 4 (row4 M i)) (wS E q P (q_st M (upd (m_st M) i v))) (P.2.1 i, aI E 4 (upd (row4 M i) 1 v)) := by
  have h := pk_4g (E := E) (q := q) (P := P) (M := M) (M' := q_st M (upd (m_st M) i v)) hi rfl rfl rfl rfl (fun j _ hne => by show rw4 _ (upd (m_st M) i v j) _ _ = _; rw [pk_un hne]; rfl)
  rw [show row4 (q_st M (upd (m_st M) i v)) i = upd (row4 M i) 1 v from by show rw4 _ (upd (m_st M) i v i) _ _ = _; rw [pk_us, row4, rw4_1]; rfl] at h
  exact h
theorem Pk_ou (v : Int32) (hi : i < m_ns M) : Pk (wS E q P M) (P.2.1 i, aI E 4 (row4 M i)) (wS E q P (q_ou M (upd (m_ou M) i v))) (P.2.1 i, aI E 4 (upd (row4 M i) 2 v)) := by
  have h := pk_4g (E := E) (q := q) (P := P) (M := M) (M' := q_ou M (upd (m_ou M) i v)) hi rfl rfl rfl rfl (fun j _ hne => by show rw4 _ _ (upd (m_ou M) i v j) _ = _; rw [pk_un hne]; rfl)
  rw [show row4 (q_ou M (upd (m_ou M) i v)) i = upd (row4 M i) 2 v from by show rw4 _ _ (upd (m_ou M) i v i) _ = _; rw [pk_us, row4, rw4_2]; rfl] at h
  exact h
theorem Pk_ru (v : Int32) (hi : i < m_ns M) : Pk (wS E q P M) (P.2.1 i, aI E 4 (row4 M i)) (wS E q P (q_ru M (upd (m_ru M) i v))) (P.2.1 i, aI E 4 (upd (row4 M i) 3 v)) := by
  have h := pk_4g (E := E) (q := q) (P := P) (M := M) (M' := q_ru M (upd (m_ru M) i v)) hi rfl rfl rfl rfl (fun j _ hne => by show rw4 _ _ _ (upd (m_ru M) i v j) = _; rw [pk_un hne]; rfl)
  rw [show row4 (q_ru M (upd (m_ru M) i v)) i = upd (row4 M i) 3 v from by show rw4 _ _ _ (upd (m_ru M) i v i) = _; rw [pk_us, row4, rw4_3]; rfl] at h
  exact h
theorem Pk_gi (v : Int32) (hi : i < m_np M) : Pk (wS E q P M) (P.2.2.1 i, aI E 5 (row5 M i)) (wS E q P (q_gi M (upd (m_gi M) i v))) (P.2.2.1 i, aI E 5 (upd (row5 M i) 3 v)) := by
  have h := pk_5g (E := E) (q := q) (P := P) (M := M) (M' := q_gi M (upd (m_gi M) i v)) hi rfl rfl rfl rfl (fun j _ hne => by show rw5 _ _ _ (upd (m_gi M) i v j) _ = _; rw [pk_un hne]; rfl)
  rw [show row5 (q_gi M (upd (m_gi M) i v)) i = upd (row5 M i) 3 v from by show rw5 _ _ _ (upd (m_gi M) i v i) _ = _; rw [pk_us, row5, rw5_3]; rfl] at h
  exact h
theorem Pk_ca (v : Int32) (hi : i < m_np M) : Pk (wS E q P M) (P.2.2.1 i, aI E 5 (row5 M i)) (wS E q P (q_ca M (upd (m_ca M) i v))) (P.2.2.1 i, aI E 5 (upd (row5 M i) 4 v)) := by
  have h := pk_5g (E := E) (q := q) (P := P) (M := M) (M' := q_ca M (upd (m_ca M) i v)) hi rfl rfl rfl rfl (fun j _ hne => by show rw5 _ _ _ _ (upd (m_ca M) i v j) = _; rw [pk_un hne]; rfl)
  rw [show row5 (q_ca M (upd (m_ca M) i v)) i = upd (row5 M i) 4 v from by show rw5 _ _ _ _ (upd (m_ca M) i v i) = _; rw [pk_us, row5, rw5_4]; rfl] at h
  exact h
theorem Pk_sg (v : Int32) (hi : i < m_ng M) : Pk (wS E q P M) (P.2.2.2 i, aI E 3 (row3 M i)) (wS E q P (q_sg M (upd (m_sg M) i v))) (P.2.2.2 i, aI E 3 (upd (row3 M i) 2 v)) := by
  have h := pk_3g (E := E) (q := q) (P := P) (M := M) (M' := q_sg M (upd (m_sg M) i v)) hi rfl rfl rfl rfl (fun j _ hne => by show rw3 _ _ (upd (m_sg M) i v j) = _; rw [pk_un hne]; rfl)
  rw [show row3 (q_sg M (upd (m_sg M) i v)) i = upd (row3 M i) 2 v from by show rw3 _ _ (upd (m_sg M) i v i) = _; rw [pk_us, row3, rw3_2]; rfl] at h
  exact h
end PKS
section SROWS
variable {p : Program} {l : Launch} {e : Env} {R : Room} {s : State} {m : MethodId} {args : Array Value} {below : List Frame} {meth : Method} {c : Code} {H : Heap} {locs : List Loc} {cells slots : Nat} {Q : State → Prop}
variable {cc : ByteArray} {E : Ev} {A : Nat → Prop} {H0 : Heap} {ws ws' : va_W} {pc : Nat} {ls : Array Slot} {rest : List Value} {a : Nat}
/-- a field of a small row, that lies anywhere in the world -/
theorem k_ildP (hx : p.tables.exec = Jvm.exec) (hb : c.code = cc) (hK : va_K E.1 vwCl (tysE E) s) (hw : Wd E A H0 ws H locs) {n : Nat} {f : Nat → Int32} {w' : va_W} {y : Nat × va_E} (hP : Pk ws (a, aI E n f) w' y) {i : Nat} (hi : i < n) (hn : n < 2 ^ 31) {v : Int32} (hv : f i = v) (hdg : decode cc pc = .ok (.iaload, 1))
    (kk : W p l e R s m args below meth c H locs cells slots Q (F0 m (pc + 1) ls (.int v :: rest))) : W p l e R s m args below meth c H locs cells slots Q (F0 m pc ls (.int (nI i) :: .ref a :: rest)) := by
  obtain ⟨k, hk⟩ := List.getElem?_of_mem hP.mem
  subst hv
  exact k_ildN hx hb hK hw k hk hi hn hdg kk
theorem k_istP (hx : p.tables.exec = Jvm.exec) (hb : c.code = cc) (hK : va_K E.1 vwCl (tysE E) s) (hw : Wd E A H0 ws H locs) {n : Nat} {f : Nat → Int32} {i : Nat} {v : Int32} (hP : Pk ws (a, aI E n f) ws' (a, aI E n (upd f i v))) (hi : i < n) (hn : n < 2 ^ 31) (hdg : decode cc pc = .ok (.iastore, 1))
    (kk : ∀ (H1 : Heap) (locs1 : List Loc), Wd E A H0 ws' H1 locs1 → W p l e R s m args below meth c H1 locs1 cells slots Q (F0 m (pc + 1) ls rest)) : W p l e R s m args below meth c H locs cells slots Q (F0 m pc ls (.int v :: .int (nI i) :: .ref a :: rest)) := by
  obtain ⟨wr, h1, h2⟩ := hP
  exact k_istN (ws' := (a, aI E n (upd f i v)) :: wr) hx hb hK (Wd.perm hw h1) 0 rfl hi hn hdg rfl (fun H1 locs1 h => kk H1 locs1 (Wd.perm h h2.symm))
theorem k_lenQ (hx : p.tables.exec = Jvm.exec) (hb : c.code = cc) (hK : va_K E.1 vwCl (tysE E) s) (hw : Wd E A H0 ws H locs) (q0 : Nat) {n : Nat} {f : Nat → Option Nat} (ha : ws[q0]? = some (a, aQ E n f)) (hdg : decode cc pc = .ok (.arraylength, 1))
    (kk : W p l e R s m args below meth c H locs cells slots Q (F0 m (pc + 1) ls (.int (nI n) :: rest))) : W p l e R s m args below meth c H locs cells slots Q (F0 m pc ls (.ref a :: rest)) :=
  va_alen hx hb hK hw.1 q0 3 ha rfl rfl hdg kk
theorem k_qld (hx : p.tables.exec = Jvm.exec) (hb : c.code = cc) (hK : va_K E.1 vwCl (tysE E) s) (hw : Wd E A H0 ws H locs) (q0 : Nat) {n : Nat} {f : Nat → Option Nat} (ha : ws[q0]? = some (a, aQ E n f)) {i : Nat} (hi : i < n) (hn : n < 2 ^ 31) {y : Nat} (hy : f i = some y) (hdg : decode cc pc = .ok (.aaload, 1))
    (kk : W p l e R s m args below meth c H locs cells slots Q (F0 m (pc + 1) ls (.ref y :: rest))) : W p l e R s m args below meth c H locs cells slots Q (F0 m pc ls (.int (nI i) :: .ref a :: rest)) := by
  have hin := vp_in_nI hi hn
  have hc : (nI i).toNatClampNeg = i := nI_clamp (by omega)
  exact W.aald (v := .ref y) (ty := .array .int) hx hb (hw.1 q0 _ ha) ((hK.2 3 _ rfl).1 n (fun j => va_rf (f j))) rfl (fun q => by cases q) (by show ¬ (nI i < 0 ∨ (arrV _ _ _).slots.size ≤ _); rw [arrV_size]; exact hin) (by show (arrV _ _ _).slots[_]? = _; rw [hc, arrV_read _ _ hi, hy]; rfl) rfl rfl hdg kk
theorem rQ_facts (hK : va_K E.1 vwCl (tysE E) s) (hG : Gx s) : ∃ kA : Class, s.vm.classes[E.2.2.2.2]? = some kA ∧ kA.kind = .array E.2.1 (.array .int) ∧ s.vm.findClass "[I" = some E.2.1 ∧ s.vm.findClass "[[I" = some E.2.2.2.2 := by
  obtain ⟨comp, cA, k, h1, -, h3, h4, h5⟩ := arrayOverA_spec hG.2.2.2
  have g1 : s.vm.findClass "[I" = some E.2.1 := va_nm_int (hK.2 0 _ rfl).2
  have g2 : s.vm.findClass "[[I" = some E.2.2.2.2 := (hK.2 3 _ rfl).2
  have h1' : s.vm.findClass "[I" = some comp := h1
  have h5' : s.vm.findClass "[[I" = some cA := h5
  have e1 : comp = E.2.1 := Option.some.inj (h1'.symm.trans g1)
  have e2 : cA = E.2.2.2.2 := Option.some.inj (h5'.symm.trans g2)
  subst e1; subst e2
  exact ⟨k, h3, h4, g1, g2⟩
theorem k_qst (hx : p.tables.exec = Jvm.exec) (hb : c.code = cc) (hK : va_K E.1 vwCl (tysE E) s) (hG : Gx s) (hw : Wd E A H0 ws H locs) (q0 : Nat) {n : Nat} {f : Nat → Option Nat} (ha : ws[q0]? = some (a, aQ E n f)) {i : Nat} (hi : i < n) (hn : n < 2 ^ 31) {y w : Nat} {g : Fn} (hy : (y, aI E w g) ∈ ws) (hdg : decode cc pc = .ok (.aastore, 1)) (hws : ws.set q0 (a, aQ E n (va_up f i (some y))) = ws')
    (kk : ∀ (H1 : Heap) (locs1 : List Loc), Wd E A H0 ws' H1 locs1 → W p l e R s m args below meth c H1 locs1 cells slots Q (F0 m (pc + 1) ls rest)) : W p l e R s m args below meth c H locs cells slots Q (F0 m pc ls (.ref y :: .int (nI i) :: .ref a :: rest)) := by
  subst hws
  obtain ⟨kA, k1, k2, k3, k4⟩ := rQ_facts hK hG
  obtain ⟨kE, hkE, -⟩ := Vm.findClass_spec k3
  have hc : (nI i).toNatClampNeg = i := nI_clamp (by omega)
  have h0 : ¬ nI i < 0 := fun q => (vp_in_nI hi hn) (Or.inl q)
  have hv : H[y]? = some (vp_cell E.2.1 (w, .inl g)) := vP_mem hw.1 hy
  refine W.aast (t := .array .int) hx hb (hw.1 q0 _ ha) (fun q h => by cases h) (fun h => by cases h) k1 k2 rfl hkE ⟨h0, by show _ < (arrV _ _ _).slots.size; rw [arrV_size, hc]; exact hi⟩ hv (fun q h => by cases h) hkE (by show s.vm.assignableAux (255 + 1) E.2.1 E.2.1 = true; rw [Vm.assignableAux, beq_self_eq_true, Bool.true_or]) rfl rfl hdg fun H1 e z oq => ?_
  refine kk H1 _ ⟨hw.1.set hw.2.1 ha ?_ oq, hw.2.1.set ha, hw.2.2.put z oq (hw.2.1.2 q0 _ ha)⟩
  show H1[a]? = some (vp_cell _ _)
  rw [e, hc]
  rw [vp_cell_q, vp_cell_q, arrV_store]
  congr 2
  funext q
  by_cases hq : q = i
  · subst hq
    simp [updV, va_up, va_rf]
  · simp [updV, va_up, hq]
theorem k_newQ {own : String} {index : Nat} (hx : p.tables.exec = Jvm.exec) (hb : c.code = cc) (hown : s.vm.findClass own = some m.cls) (hcl : (Cond.classLink own index "[I").before args s = true) (hK : va_K E.1 vwCl (tysE E) s) (hG : Gx s) (hw : Wd E A H0 ws H locs) (hA : ∀ q, H0.size ≤ q → A q) {n : Nat} (hn : n < 1000) (hcells : cells + 1 ≤ R.cells) (hslots : slots + n ≤ R.slots) (hdg : decode cc pc = .ok (.anewarray index, 3))
    (kk : ∀ (q : Nat) (H1 : Heap), Wd E A H0 (ws ++ [(q, aQ E n (fun _ => none))]) H1 locs → W p l e R s m args below meth c H1 locs (cells + 1) (slots + n) Q (F0 m (pc + 3) ls (.ref q :: rest))) : W p l e R s m args below meth c H locs cells slots Q (F0 m pc ls (.int (nI n) :: rest)) := by
  have hc : (nI n).toNatClampNeg = n := nI_clamp (by omega)
  have hn0 : ¬ nI n < 0 := nI_pos (by omega)
  refine W.anewA (t := .int) hx hb hown hcl (over_moved (Vm.Alike.refl _) hG.2.2.2) rfl hdg rfl hn0 (by rw [hc]; omega) hcells (by rw [hc]; exact hslots) fun cA kA comp f1 f2 f3 f4 => ?_
  have e2 : cA = E.2.2.2.2 := Option.some.inj ((show s.vm.findClass "[[I" = some cA from f1).symm.trans (hK.2 3 _ rfl).2)
  subst e2
  rw [hc]
  generalize hH1 : H.push ({ cls := E.2.2.2.2, slots := Array.replicate n .null, vm := .none } : Cell) = H1
  have z1 : H1.size = H.size + 1 := by rw [← hH1, Array.size_push]
  have e1 : H1[H.size]? = some (arrV E.2.2.2.2 n (fun _ => .null)) := by rw [← hH1, Array.getElem?_push_size, ← arrV_new]
  have o1 : ∀ q : Nat, q < H.size → H1[q]? = H[q]? := fun q hq => by rw [← hH1, Array.getElem?_push, if_neg (Nat.ne_of_lt hq)]
  have hk : ∀ (k : Nat) (x : Nat × va_E), ws[k]? = some x → H1[x.1]? = H[x.1]? := fun k x hx => o1 x.1 ((hw.1 k x hx).lt)
  refine kk H.size H1 ⟨(hw.1.kept hk).app (fun k x hx => ?_), hw.2.1.push hw.1 rfl (hA _ hw.2.2.1), Nat.le_trans hw.2.2.1 (by omega), fun x h1 h2 => (o1 x (Nat.lt_of_lt_of_le h1 hw.2.2.1)).trans (hw.2.2.2.1 x h1 h2), hw.2.2.2.2⟩
  have hz : k < 1 := (List.getElem?_eq_some_iff.mp hx).1
  rw [show k = 0 by omega] at hx
  cases hx
  show H1[H.size]? = some (vp_cell _ _)
  rw [vp_cell_q]
  exact e1
/-- a reference into a field -/
theorem k_putR {own C : String} (hx : p.tables.exec = Jvm.exec) (hb : c.code = cc) (hown : s.vm.findClass own = some m.cls) (hK : va_K E.1 vwCl (tysE E) s) (hw : Wd E A H0 ws H locs) {T : u_T} {N ci index : Nat} {Ts : List Cond} (hts : ∀ w ∈ Ts, w.before args s = true) (hin : ∀ w ∈ u_ws C T N, w ∈ Ts) (ty0 : Nat → FieldType) (hty : ∀ k, k < N → parseFieldDescriptor (T k).2.2.1 = some (ty0 k)) (hnm : ∀ a, a < N → ∀ b, b < N → a ≠ b → (T a).2.1 ≠ (T b).2.1) (q0 : Nat) {fs : List Value} (he : ws[q0]? = some (a, .inr (ci, fs))) (hc : vwCl[ci]? = some (C, T, N)) (k : Nat) (hk : k < N) (hlink : (Cond.fieldLink own index (T k).1 (T k).2.1 (T k).2.2.1).before args s = true) (hfin : (T k).2.2.2 = false) {v : Nat} (hn : narrow (ty0 k) (.ref v) = .ref v) (hfit : fits (ty0 k) (.ref v) = true) (hl : k < fs.length) (hdg : decode cc pc = .ok (.putfield index, 3)) (hws : ws.set q0 (a, .inr (ci, fs.set k (.ref v))) = ws')
    (kk : ∀ (H1 : Heap) (locs1 : List Loc), Wd E A H0 ws' H1 locs1 → W p l e R s m args below meth c H1 locs1 cells slots Q (F0 m (pc + 3) ls rest)) : W p l e R s m args below meth c H locs cells slots Q (F0 m pc ls (.ref v :: .ref a :: rest)) := by
  subst hws
  exact va_put (ty := ty0 k) hx hb hts hin ty0 hty hnm hown hK hw.1 hw.2.1 hw.2.2 q0 he hc k hk hlink (fun _ h => h) hfin (hty k hk) hn hfit hl hdg (fun H1 locs1 h1 h2 h3 => kk H1 locs1 ⟨h1, h2, h3⟩)
end SROWS
/-- a part of a world -/
theorem Wd.part {E : Ev} {A : Nat → Prop} {H0 H : Heap} {ws ws' wr : va_W} {locs : List Loc} (hw : Wd E A H0 ws H locs) (h : ws.Perm (ws' ++ wr)) : Wd E A H0 ws' H locs := by
  have h0 := Wd.perm hw h
  refine ⟨vP_of (fun q hq => vP_mem h0.1 (List.mem_append_left _ hq)), vD_of ?_ (fun q hq => ?_), h0.2.2⟩
  · have := vD_nodup h0.2.1
    rw [List.map_append] at this
    exact (List.nodup_append.mp this).1
  · obtain ⟨k, hk⟩ := List.getElem?_of_mem (List.mem_append_left wr hq)
    exact h0.2.1.2 k q hk
theorem va_at_Q {E : Ev} {a n : Nat} {f g : Nat → Option Nat} {H : Heap} (h : ∀ j, j < n → f j = g j) (q : va_at E.1 vwCl (a, aQ E n f) H) : va_at E.1 vwCl (a, aQ E n g) H := by
  have e : vp_cell E.2.2.2.2 (n, .inr (.inr (.inr (.inr f)))) = vp_cell E.2.2.2.2 (n, .inr (.inr (.inr (.inr g)))) := by
    have e2 : (fun j : Fin n => va_rf (f j.val)) = fun j : Fin n => va_rf (g j.val) := funext fun j => by rw [h j.val j.isLt]
    rw [vp_cell_q, vp_cell_q]
    simp only [arrV, e2]
  have q' : H[a]? = some (vp_cell E.2.2.2.2 (n, .inr (.inr (.inr (.inr f))))) := q
  rw [e] at q'
  exact q'
theorem Wd.setQ {E : Ev} {A : Nat → Prop} {H0 H : Heap} {w1 w2 : va_W} {locs : List Loc} {q n : Nat} {f g : Nat → Option Nat} (hw : Wd E A H0 (w1 ++ (q, aQ E n f) :: w2) H locs) (h : ∀ j, j < n → f j = g j) : Wd E A H0 (w1 ++ (q, aQ E n g) :: w2) H locs := by
  refine ⟨vP_of (fun x hx => ?_), va_D_same hw.2.1 (by simp), hw.2.2⟩
  rcases List.mem_append.mp hx with a | a
  · exact vP_mem hw.1 (List.mem_append_left _ a)
  · rcases List.mem_cons.mp a with a | a
    · subst a
      exact va_at_Q h (vP_mem hw.1 (List.mem_append_right _ List.mem_cons_self))
    · exact vP_mem hw.1 (List.mem_append_right _ (List.mem_cons_of_mem _ a))
/-! contracts whose end has new addresses (u), with an answer that depends on none or on them -/
def MA {α : Type} (l : Launch) (E : Ev) (y : MethodName) (wy : List Cond) (rm : Room) (AV : List Value) (ws : va_W) (F : Int32) (W1 : α → va_W) : Prop :=
  ∀ sz, Met l y wy rm (va_Pc AV (PW E ws sz)) (va_Qi (fun r (_ : α) => r = F) (fun u t => BW E (va_A ws sz) (W1 u) t) (va_A ws sz)) rm.cells rm.slots (va_A ws sz)
abbrev EndA {α : Type} (E : Ev) (A : Nat → Prop) (F : Int32) (W1 : α → va_W) (below : List Frame) (args : Array Value) (s : State) (mc ms : Nat) : State → Prop := MQ below (va_Qi (fun r (_ : α) => r = F) (fun u t => BW E A (W1 u) t) A) args s mc ms A
def MR {α : Type} (l : Launch) (E : Ev) (y : MethodName) (wy : List Cond) (rm : Room) (AV : List Value) (ws : va_W) (W1 : α → Nat → va_W) : Prop :=
  ∀ sz, Met l y wy rm (va_Pc AV (PW E ws sz)) (va_Qr (fun (_ : α) => True) (fun u a t => BW E (va_A ws sz) (W1 u a) t) (va_A ws sz)) rm.cells rm.slots (va_A ws sz)
abbrev EndR {α : Type} (E : Ev) (A : Nat → Prop) (W1 : α → Nat → va_W) (below : List Frame) (args : Array Value) (s : State) (mc ms : Nat) : State → Prop := MQ below (va_Qr (fun (_ : α) => True) (fun u a t => BW E A (W1 u a) t) A) args s mc ms A
section ENDA
variable {p : Program} {l : Launch} {e : Env} {R : Room} {s : State} {m : MethodId} {args : Array Value} {below : List Frame} {meth : Method} {c : Code} {H : Heap} {locs : List Loc} {cells slots : Nat} {Q : State → Prop}
variable {cc : ByteArray} {E : Ev} {A : Nat → Prop} {H0 : Heap} {ws wc wr : va_W} {pc mc ms : Nat} {ls : Array Slot} {st0 rest : List Value} {α : Type} {W1 : α → va_W} {W2 : α → Nat → va_W}
theorem k_aret9 {F v : Int32} {ty : FieldType} (u : α) (hx : p.tables.exec = Jvm.exec) (hb : c.code = cc) (hr : meth.sig.returnType = some ty) (hlocks : meth.locks = false) (hK : va_K E.1 vwCl (tysE E) s) (hw : Wd E A s.heap ws H locs) (hn : narrow ty (.int v) = .int v) (hdg : decode cc pc = .ok (.ireturn, 1)) (hv : v = F) (hww : ws = W1 u) : W p l e R s m args below meth c H locs cells slots (EndA E A F W1 below args s cells slots) (F0 m pc ls [.int v]) := by
  subst hv; subst hww
  exact W.zret hx hb hr hn (fun t ht hW => ⟨⟨v, u, rfl, rfl, by rw [ht]; exact hw.1, va_K.moved hW.alike hK, hw.2.1⟩, hw.2.2.F ht⟩) hw.2.2.2.2 hdg
theorem k_rret9 {b : Nat} {rt : FieldType} (u : α) (hx : p.tables.exec = Jvm.exec) (hb : c.code = cc) (hr : meth.sig.returnType = some rt) (hrt : (∃ n, rt = .object n) ∨ ∃ t, rt = .array t) (hlocks : meth.locks = false) (hK : va_K E.1 vwCl (tysE E) s) (hw : Wd E A s.heap ws H locs) (hdg : decode cc pc = .ok (.areturn, 1)) (hww : ws = W2 u b) : W p l e R s m args below meth c H locs cells slots (EndR E A W2 below args s cells slots) (F0 m pc ls [.ref b]) := by
  subst hww
  exact W.aret hx hb hr hrt (Or.inr ⟨b, rfl⟩) (fun t ht hW => ⟨⟨u, b, rfl, trivial, by rw [ht]; exact hw.1, va_K.moved hW.alike hK, hw.2.1⟩, hw.2.2.F ht⟩) hw.2.2.2.2 hdg
theorem kr_a {a : Array Value} {F : Int32} (hr : va_Run p l e R s m args below meth c H locs cells slots mc ms (F0 m pc ls st0) rest (va_Qi (fun r (_ : α) => r = F) (fun u t => BW E (va_A wc H.size) (W1 u) t) (va_A wc H.size) a) (va_A wc H.size)) (hw : Wd E A H0 ws H locs) (hA : ∀ q, H0.size ≤ q → A q) (h : Rn ws wc wr)
    (kk : ∀ (u : α) (H1 : Heap) (locs1 : List Loc), Wd E A H0 (W1 u ++ wr) H1 locs1 → W p l e R s m args below meth c H1 locs1 (cells + mc) (slots + ms) Q (F0 m (pc + 3) ls (.int F :: rest))) : W p l e R s m args below meth c H locs cells slots Q (F0 m pc ls st0) := by
  have hF := h.rp.free hw hA
  refine va_calli hr hw.2.2 (fun q _ h => hF q h) hF (fun r u t H1 locs1 ht hvm hp hB hz hk hS => ?_)
  subst hp
  exact kk u H1 locs1 (h.behind hw hA ht hB hk hS)
theorem kr_r {a : Array Value} (hr : va_Run p l e R s m args below meth c H locs cells slots mc ms (F0 m pc ls st0) rest (va_Qr (fun (_ : α) => True) (fun u b t => BW E (va_A wc H.size) (W2 u b) t) (va_A wc H.size) a) (va_A wc H.size)) (hw : Wd E A H0 ws H locs) (hA : ∀ q, H0.size ≤ q → A q) (h : Rn ws wc wr)
    (kk : ∀ (u : α) (b : Nat) (H1 : Heap) (locs1 : List Loc), Wd E A H0 (W2 u b ++ wr) H1 locs1 → W p l e R s m args below meth c H1 locs1 (cells + mc) (slots + ms) Q (F0 m (pc + 3) ls (.ref b :: rest))) : W p l e R s m args below meth c H locs cells slots Q (F0 m pc ls st0) := by
  have hF := h.rp.free hw hA
  refine va_callr hr hw.2.2 (fun q _ h => hF q h) hF (fun u b t H1 locs1 ht hvm hp hB hz hk hS => ?_)
  exact kk u b H1 locs1 (h.behind hw hA ht hB hk hS)
end ENDA
section BODIESA
variable {l : Launch} {E : Ev} {y : MethodName} {wy wy' : List Cond} {rm : Room} {AV : List Value} {ws : va_W} {cc : ByteArray} {maxL : Nat} {ret : Option FieldType} {α : Type} {W1 : α → va_W} {W2 : α → Nat → va_W}
theorem k_bA {F : Int32} (hy : plainName y.cls = true) (hwy : wy = Cond.code y cc maxL ret :: wy') (hsz : (lg_sl AV).length ≤ maxL)
    (body : ∀ (p : Program) (e : Env) (s : State) (m : MethodId) (args : Array Value) (below : List Frame) (meth : Method) (c : Code) (A : Nat → Prop) (ls : Array Slot), Cx E y.cls cc maxL ret wy p s m args meth c A → lv_has ls maxL (lv_args 0 AV) → Wd E A s.heap ws s.heap [] → W p l e rm s m args below meth c s.heap [] 0 0 (EndA E A F W1 below args s rm.cells rm.slots) (F0 m 0 ls [])) : MA l E y wy rm AV ws F W1 := by
  intro sz
  refine Met.ofW (cc := cc) (maxL := maxL) (ret := ret) hy hwy ?_
  intro p e s m args below meth c s₁ B hml hv
  have hz := hv.2.1
  subst hz
  exact k_entry hwy hsz B hml hv (fun ls _ hl hC hw => body p e s m args below meth c _ ls hC hl hw)
theorem k_bR (hy : plainName y.cls = true) (hwy : wy = Cond.code y cc maxL ret :: wy') (hsz : (lg_sl AV).length ≤ maxL)
    (body : ∀ (p : Program) (e : Env) (s : State) (m : MethodId) (args : Array Value) (below : List Frame) (meth : Method) (c : Code) (A : Nat → Prop) (ls : Array Slot), Cx E y.cls cc maxL ret wy p s m args meth c A → lv_has ls maxL (lv_args 0 AV) → Wd E A s.heap ws s.heap [] → W p l e rm s m args below meth c s.heap [] 0 0 (EndR E A W2 below args s rm.cells rm.slots) (F0 m 0 ls [])) : MR l E y wy rm AV ws W2 := by
  intro sz
  refine Met.ofW (cc := cc) (maxL := maxL) (ret := ret) hy hwy ?_
  intro p e s m args below meth c s₁ B hml hv
  have hz := hv.2.1
  subst hz
  exact k_entry hwy hsz B hml hv (fun ls _ hl hC hw => body p e s m args below meth c _ ls hC hl hw)
end BODIESA

