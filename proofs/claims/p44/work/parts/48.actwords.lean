/-! ===== act: what the law's own harbour does in it ===== -/
/-- a ship sails: who was given up is not any more, candles are lit; how many -/
def l_sl (so : FnN) (s : Nat) (gi ca : Fn) (wa : Int32) : Nat → Fn × Fn × Int32 × Int32 | 0 => (gi, ca, wa, 0) | i + 1 => if nI (so i) = nI s then (upd (l_sl so s gi ca wa i).1 i 0, f_lca (l_sl so s gi ca wa i).2.1 (l_sl so s gi ca wa i).2.2.1 i, f_lwa (l_sl so s gi ca wa i).2.2.1, if f_lB (l_sl so s gi ca wa i).2.2.1 = true then (l_sl so s gi ca wa i).2.2.2 + 1 else (l_sl so s gi ca wa i).2.2.2 + 0) else l_sl so s gi ca wa i
/-- watchers of a ship that comes home are believed -/
def l_bw (ss sw : FnN) (s : Nat) (tr : Fn) : Nat → Fn | 0 => tr | i + 1 => if nI (ss i) = nI s then (if 9 ≤ l_bw ss sw s tr i (sw i) then l_bw ss sw s tr i else upd (l_bw ss sw s tr i) (sw i) (l_bw ss sw s tr i (sw i) + 1)) else l_bw ss sw s tr i
/-- nights -/
def l_ps (M : SM) : Nat → SM | 0 => M | i + 1 => f_spass (l_ps M i)
def l_pn (M : SM) : Nat → Int32 | 0 => 0 | i + 1 => l_pn M i + f_spN (l_ps M i)
theorem MOK_ps {M : SM} (h : MOK M) : ∀ i, MOK (l_ps M i)
  | 0 => h
  | i + 1 => MOK_spass (MOK_ps h i)
/-- a watcher more: trust has been made anew -/
theorem add_3 {E : Ev} {A : Nat → Prop} {H0 H : Heap} {locs : List Loc} {pre : va_W} {q u n : Nat} {P : AP} {M : SM} {f : Fn} (hw : Wd E A H0 (pre ++ [(u, aI E n f)] ++ wSo E q P M [.int (m_ni M), .int (m_wa M), .int (m_un M), .ref (P.1 1), .ref (P.1 2), .ref u, .ref (P.1 4)]) H locs) :
    Wd E A H0 (pre ++ wS E q (updN P.1 3 u, P.2.1, P.2.2.1, P.2.2.2) (q_nw (q_tr M f) n)) H locs := by
  refine hw.part (wr := [(P.1 3, aI E (m_nw M) (m_tr M))]) (perm9 (fun a => ?_))
  show cnt9 a (pre ++ [(u, aI E n f)] ++ ((q, .inr (3, [.int (m_ni M), .int (m_wa M), .int (m_un M), .ref (P.1 1), .ref (P.1 2), .ref u, .ref (P.1 4)])) :: (P.1 1, aQ E (m_ns M) (fun j => some (P.2.1 j))) :: (P.1 2, aQ E (m_np M) (fun j => some (P.2.2.1 j))) :: (P.1 3, aI E (m_nw M) (m_tr M)) :: (P.1 4, aQ E (m_ng M) (fun j => some (P.2.2.2 j))) :: wSt E P M)) = cnt9 a (pre ++ ((q, .inr (3, [.int (m_ni M), .int (m_wa M), .int (m_un M), .ref (P.1 1), .ref (P.1 2), .ref u, .ref (P.1 4)])) :: (P.1 1, aQ E (m_ns M) (fun j => some (P.2.1 j))) :: (P.1 2, aQ E (m_np M) (fun j => some (P.2.2.1 j))) :: (u, aI E n f) :: (P.1 4, aQ E (m_ng M) (fun j => some (P.2.2.2 j))) :: wSt E P M) ++ [(P.1 3, aI E (m_nw M) (m_tr M))])
  simp only [cnt9_app, cnt9_cons, cnt9_nil]
  omega
section MEMS
variable {E : Ev} {q i : Nat} {P : AP} {M : SM} {fs : List Value}
theorem mem_S1 (hi : i < m_ns M) : (P.2.1 i, aI E 4 (row4 M i)) ∈ wS1 E q P M fs := by
  obtain ⟨wr, h1, -⟩ := rows_pick (E := E) (w := 4) (r := P.2.1) (f := row4 M) hi
  exact List.mem_cons_of_mem _ (List.mem_cons_of_mem _ (List.mem_cons_of_mem _ (List.mem_cons_of_mem _ (List.mem_append_left _ (h1.mem_iff.mpr List.mem_cons_self)))))
theorem mem_S2 (hi : i < m_np M) : (P.2.2.1 i, aI E 5 (row5 M i)) ∈ wS2 E q P M fs := by
  obtain ⟨wr, h1, -⟩ := rows_pick (E := E) (w := 5) (r := P.2.2.1) (f := row5 M) hi
  exact List.mem_cons_of_mem _ (List.mem_cons_of_mem _ (List.mem_cons_of_mem _ (List.mem_cons_of_mem _ (List.mem_append_right _ (List.mem_append_left _ (h1.mem_iff.mpr List.mem_cons_self))))))
theorem mem_S4 (hi : i < m_ng M) : (P.2.2.2 i, aI E 3 (row3 M i)) ∈ wS4 E q P M fs := by
  obtain ⟨wr, h1, -⟩ := rows_pick (E := E) (w := 3) (r := P.2.2.2) (f := row3 M) hi
  exact List.mem_cons_of_mem _ (List.mem_cons_of_mem _ (List.mem_cons_of_mem _ (List.mem_cons_of_mem _ (List.mem_append_right _ (List.mem_append_right _ (h1.mem_iff.mpr List.mem_cons_self))))))
end MEMS
set_option maxHeartbeats 4000000 in
set_option maxRecDepth 100000 in
theorem c_L_below_i (l : Launch) (E : Ev) (v n : Int32) (h0 : ¬ n = 0) : MI l E yL_below wsL_below rm_L_below [.int v, .int n] ([] : va_W) ((v &&& 2147483647) - (v &&& 2147483647) / n * n) ([] : va_W) := by
  refine k_bI (cc := cL_below) (maxL := 2) (ret := (some .int)) (by decide) rfl (Nat.le_of_ble_eq_true rfl) ?_
  intro p9 e s9 m args below meth c A9 ls hC hl hw
  obtain ⟨hx, hb, hml, hr, hown, hts, hlocks, hK, hG, hA⟩ := hC
  have hq0 := hts (.constant RL 7 (2147483647)) (List.mem_of_getElem? (i := 1) rfl)
  have hl : lv_has ls 2 [(0, .int v), (1, .int n)] := hl
  refine lv_iload_n hx hb dL_below_0 rfl (lv_at hl 0 rfl) ?_
  refine lv_ldc (v := 2147483647) hx hb hown hq0 dL_below_1 ?_
  refine lv_iand hx hb dL_below_3 ?_
  refine lv_iload_n hx hb dL_below_4 rfl (lv_at hl 1 rfl) ?_
  refine lv_irem hx hb dL_below_5 (h0) ?_
  exact k_iret hx hb hr hlocks hK hw rfl dL_below_6 rfl rfl
theorem rp_78 {E : Ev} {x0 : Nat} {b0 c0 d0 : Nat → Nat} {a1 : Nat → Nat} {h1 : Nat} {S1 : CS} {a2 : Nat → Nat} {h2 : Nat} {S2 : CS} {a3 : Nat → Nat} {S3 : HS} {a4 : Nat} {b4 : AP} {S4 : SM} : Rp (wX x0 b0 c0 d0 ++ wC E a1 h1 S1 ++ wC E a2 h2 S2 ++ wG E a3 S3 ++ wS E a4 b4 S4) (([] : va_W)) (([] : va_W)) (wX x0 b0 c0 d0 ++ wC E a1 h1 S1 ++ wC E a2 h2 S2 ++ wG E a3 S3 ++ wS E a4 b4 S4) := by
  refine ⟨wX x0 b0 c0 d0 ++ wC E a1 h1 S1 ++ wC E a2 h2 S2 ++ wG E a3 S3 ++ wS E a4 b4 S4, perm9 (fun a => ?_), perm9 (fun a => ?_), rfl⟩
  · simp only [cnt9_app, cnt9_cons, cnt9_nil] <;> omega
  · simp only [cnt9_app, cnt9_cons, cnt9_nil] <;> omega
theorem rp_79 {E : Ev} {x0 : Nat} {b0 c0 d0 : Nat → Nat} {a1 : Nat → Nat} {h1 : Nat} {S1 : CS} {a2 : Nat → Nat} {h2 : Nat} {S2 : CS} {a3 : Nat → Nat} {S3 V3 : HS} {a4 : Nat} {b4 : AP} {S4 : SM} : Rp (wX x0 b0 c0 d0 ++ wC E a1 h1 S1 ++ wC E a2 h2 S2 ++ wG E a3 S3 ++ wS E a4 b4 S4) (wX x0 b0 c0 d0 ++ wC E a1 h1 S1 ++ wC E a2 h2 S2 ++ wG E a3 S3) (wX x0 b0 c0 d0 ++ wC E a1 h1 S1 ++ wC E a2 h2 S2 ++ wG E a3 V3) (wX x0 b0 c0 d0 ++ wC E a1 h1 S1 ++ wC E a2 h2 S2 ++ wG E a3 V3 ++ wS E a4 b4 S4) := by
  refine ⟨wS E a4 b4 S4, perm9 (fun a => ?_), perm9 (fun a => ?_), rfl⟩
  · simp only [cnt9_app, cnt9_cons, cnt9_nil] <;> omega
  · simp only [cnt9_app, cnt9_cons, cnt9_nil] <;> omega
theorem rp_80 {E : Ev} {x0 : Nat} {b0 c0 d0 : Nat → Nat} {a1 : Nat → Nat} {h1 : Nat} {S1 V1 : CS} {a2 : Nat → Nat} {h2 : Nat} {S2 : CS} {a3 : Nat → Nat} {S3 V3 : HS} {a4 : Nat} {b4 : AP} {S4 : SM} : Rp (wX x0 b0 c0 d0 ++ wC E a1 h1 S1 ++ wC E a2 h2 S2 ++ wG E a3 S3 ++ wS E a4 b4 S4) (wX x0 b0 c0 d0 ++ wC E a1 h1 S1 ++ wC E a2 h2 S2 ++ wG E a3 S3) (wX x0 b0 c0 d0 ++ wC E a1 h1 V1 ++ wC E a2 h2 S2 ++ wG E a3 V3) (wX x0 b0 c0 d0 ++ wC E a1 h1 V1 ++ wC E a2 h2 S2 ++ wG E a3 V3 ++ wS E a4 b4 S4) := by
  refine ⟨wS E a4 b4 S4, perm9 (fun a => ?_), perm9 (fun a => ?_), rfl⟩
  · simp only [cnt9_app, cnt9_cons, cnt9_nil] <;> omega
  · simp only [cnt9_app, cnt9_cons, cnt9_nil] <;> omega
theorem rp_81 {E : Ev} {x0 : Nat} {b0 c0 d0 : Nat → Nat} {a1 : Nat → Nat} {h1 : Nat} {S1 V1 : CS} {a2 : Nat → Nat} {h2 : Nat} {S2 : CS} {a3 : Nat → Nat} {S3 : HS} {a4 : Nat} {b4 : AP} {S4 : SM} : Rp (wX x0 b0 c0 d0 ++ wC E a1 h1 S1 ++ wC E a2 h2 S2 ++ wG E a3 S3 ++ wS E a4 b4 S4) (wX x0 b0 c0 d0 ++ wC E a1 h1 S1 ++ wC E a2 h2 S2 ++ wG E a3 S3) (wX x0 b0 c0 d0 ++ wC E a1 h1 V1 ++ wC E a2 h2 S2 ++ wG E a3 S3) (wX x0 b0 c0 d0 ++ wC E a1 h1 V1 ++ wC E a2 h2 S2 ++ wG E a3 S3 ++ wS E a4 b4 S4) := by
  refine ⟨wS E a4 b4 S4, perm9 (fun a => ?_), perm9 (fun a => ?_), rfl⟩
  · simp only [cnt9_app, cnt9_cons, cnt9_nil] <;> omega
  · simp only [cnt9_app, cnt9_cons, cnt9_nil] <;> omega
theorem rp_82 {E : Ev} {x0 : Nat} {b0 c0 d0 : Nat → Nat} {a1 : Nat → Nat} {h1 : Nat} {S1 : CS} {a2 : Nat → Nat} {h2 : Nat} {S2 : CS} {a3 : Nat → Nat} {S3 : HS} {a4 : Nat} {b4 : AP} {x_ni y_ni : Int32} {x_wa y_wa : Int32} {x_un y_un : Int32} {x_ns : Nat} {x_np : Nat} {x_nw y_nw : Nat} {x_ng : Nat} {x_ma y_ma : Fn} {x_st y_st : Fn} {x_ou y_ou : Fn} {x_ru y_ru : Fn} {x_so y_so : FnN} {x_mt y_mt : Fn} {x_vo y_vo : Fn} {x_gi y_gi : Fn} {x_ca y_ca : Fn} {x_tr y_tr : Fn} {x_sw y_sw : FnN} {x_ss y_ss : FnN} {x_sg y_sg : Fn} : Rp (wX x0 b0 c0 d0 ++ wC E a1 h1 S1 ++ wC E a2 h2 S2 ++ wG E a3 S3 ++ wS E a4 b4 (mkS x_ni x_wa x_un x_ns x_np x_nw x_ng x_ma x_st x_ou x_ru x_so x_mt x_vo x_gi x_ca x_tr x_sw x_ss x_sg)) (wS E a4 b4 (mkS x_ni x_wa x_un x_ns x_np x_nw x_ng x_ma x_st x_ou x_ru x_so x_mt x_vo x_gi x_ca x_tr x_sw x_ss x_sg)) (wS E a4 b4 (mkS y_ni y_wa y_un x_ns x_np y_nw x_ng y_ma y_st y_ou y_ru y_so y_mt y_vo y_gi y_ca y_tr y_sw y_ss y_sg)) (wX x0 b0 c0 d0 ++ wC E a1 h1 S1 ++ wC E a2 h2 S2 ++ wG E a3 S3 ++ wS E a4 b4 (mkS y_ni y_wa y_un x_ns x_np y_nw x_ng y_ma y_st y_ou y_ru y_so y_mt y_vo y_gi y_ca y_tr y_sw y_ss y_sg)) := by
  refine ⟨wX x0 b0 c0 d0 ++ wC E a1 h1 S1 ++ wC E a2 h2 S2 ++ wG E a3 S3, perm9 (fun a => ?_), perm9 (fun a => ?_), by (try simp only [List.map_append]); first | exact wS_fst ⟨rfl, rfl, rfl⟩ | (congr 1; exact wS_fst ⟨rfl, rfl, rfl⟩)⟩
  · simp only [cnt9_app, cnt9_cons, cnt9_nil] <;> omega
  · simp only [cnt9_app, cnt9_cons, cnt9_nil] <;> omega
abbrev rm_L_act : Room := { frames := 9, cells := 4000, slots := 76000, locals := 155 }
