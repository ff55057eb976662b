theorem rp_73 {E : Ev} {a0 : Nat} {b0 : AP} {S0 : SM} : Rp (wS E a0 b0 S0) (wS E a0 b0 S0) (wS E a0 b0 S0) (wS E a0 b0 S0) := by
  refine ⟨([] : va_W), perm9 (fun a => ?_), perm9 (fun a => ?_), rfl⟩
  · simp only [cnt9_app, cnt9_cons, cnt9_nil] <;> omega
  · simp only [cnt9_app, cnt9_cons, cnt9_nil] <;> omega
theorem rp_74 {E : Ev} {a0 : Nat} {b0 : AP} {x_ni y_ni : Int32} {x_wa y_wa : Int32} {x_un y_un : Int32} {x_ns : Nat} {x_np : Nat} {x_nw y_nw : Nat} {x_ng : Nat} {x_ma y_ma : Fn} {x_st y_st : Fn} {x_ou y_ou : Fn} {x_ru y_ru : Fn} {x_so y_so : FnN} {x_mt y_mt : Fn} {x_vo y_vo : Fn} {x_gi y_gi : Fn} {x_ca y_ca : Fn} {x_tr y_tr : Fn} {x_sw y_sw : FnN} {x_ss y_ss : FnN} {x_sg y_sg : Fn} : Rp (wS E a0 b0 (mkS x_ni x_wa x_un x_ns x_np x_nw x_ng x_ma x_st x_ou x_ru x_so x_mt x_vo x_gi x_ca x_tr x_sw x_ss x_sg)) (wS E a0 b0 (mkS x_ni x_wa x_un x_ns x_np x_nw x_ng x_ma x_st x_ou x_ru x_so x_mt x_vo x_gi x_ca x_tr x_sw x_ss x_sg)) (wS E a0 b0 (mkS y_ni y_wa y_un x_ns x_np y_nw x_ng y_ma y_st y_ou y_ru y_so y_mt y_vo y_gi y_ca y_tr y_sw y_ss y_sg)) (wS E a0 b0 (mkS y_ni y_wa y_un x_ns x_np y_nw x_ng y_ma y_st y_ou y_ru y_so y_mt y_vo y_gi y_ca y_tr y_sw y_ss y_sg)) := by
  refine ⟨([] : va_W), perm9 (fun a => ?_), perm9 (fun a => ?_), by (try simp only [List.map_append]); first | exact wS_fst ⟨rfl, rfl, rfl⟩ | (congr 1; exact wS_fst ⟨rfl, rfl, rfl⟩)⟩
  · simp only [cnt9_app, cnt9_cons, cnt9_nil] <;> omega
  · simp only [cnt9_app, cnt9_cons, cnt9_nil] <;> omega
