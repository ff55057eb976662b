/-! ===== the law's loop ===== -/
theorem law_exit {p9 : Program} {l : Launch} {e : Env} {s9 : State} {m : MethodId} {below : List Frame} {meth : Method} {c : Code} {b L : Nat} {xs : Nat → Int32} (C0 : lw_At p9 s9 m meth c b L xs) {H : Heap} {locs : List Loc} {ls : Array Slot} {cells slots : Nat} (hS : va_S (aL s9) s9.heap H locs) (hc : cells ≤ 1033879) (hs : slots ≤ 5994467) : W p9 l e room_1 s9 m #[Value.ref b] below meth c H locs cells slots (lw_Z below #[Value.ref b] s9) (F0 m 2167 ls []) := by
  obtain ⟨hx, hb, hr, hml, hown, hts, hX, hbl, hlocks, hgv⟩ := C0
  refine lv_iconst (v := 1) hx hb dL_law_2167 (by decide) ?_
  refine va_forget (fun q hq => hS.2.2 q hq) ?_
  refine W.widen (k := 1033879) (n := 5994467) hc hs ?_
  exact W.base (lw_ret (Drawn.sameBut.refl s9.drawn lw_cs) hx hb hr hlocks dL_law_2168)
theorem law_gt {L i : Nat} (hL : L ≤ 2048) (hi : i ≤ 4096) : nI L - 4 < nI i ↔ ¬ i + 4 ≤ L := by
  rw [Int32.lt_iff_toInt_lt, show (nI L - 4).toInt = (L : Int) - (4 : Nat) from pk_sub_toInt (b := 4) (by omega) (by omega), nI_toInt (by omega)]
  omega
set_option maxHeartbeats 4000000 in
set_option maxRecDepth 100000 in
theorem law_loop {p9 : Program} {l : Launch} {e : Env} {s9 : State} {m : MethodId} {below : List Frame} {meth : Method} {c : Code} {b L : Nat} {xs : Nat → Int32} (C0 : lw_At p9 s9 m meth c b L xs) (hflags : l.stackTraces = false) (hL : L ≤ 2048) (E : Ev) (hK : va_K E.1 vwCl (tysE E) s9) (hG : Gx s9) (hZ : Zx (aL s9) s9 s9.heap) (x o : Nat) (A T B M : Nat → Nat) : ∀ (n t i : Nat), i = 4 * t → L ≤ i + 4 * n + 3 → t ≤ 512 → ∀ (S U : CS) (G : HS) (th : Int32) (Hb : MH) (a k : Fn) (f : Nat → Int64) (cells slots : Nat), INV (58000 * t) G S Hb a → cells ≤ 1000 + 30 * t → slots ≤ 1000 + 200 * t → ∀ (H : Heap) (locs : List Loc) (ls : Array Slot), Wd E (aL s9) s9.heap (wX x A T B ++ wC E A (B 0) S ++ wC E T (B 0) U ++ wG E B G ++ [(o, aJ E 1 f)] ++ wN E M (th, Hb, a, k)) H locs → lv_has ls 9 [(0, .ref b), (1, .ref x), (2, .ref (M 0)), (3, .ref o), (4, .int (nI i))] → W p9 l e room_1 s9 m #[Value.ref b] below meth c H locs cells slots (lw_Z below #[Value.ref b] s9) (F0 m 23 ls []) := by
  obtain ⟨hx, hb, hr, hml, hown, hts, hX, hbl, hlocks, hgv⟩ := id C0
  have hbA : ¬ aL s9 b := Nat.not_le.mpr hbl
  intro n
  induction n with
  | zero =>
    intro t i hit hLn ht S U G th Hb a k f cells slots hI hcc hss H locs ls hw hl
    refine lv_iload hx hb dL_law_23 (lv_at hl 4 rfl) ?_
    refine lv_aload_n hx hb dL_law_25 rfl (lv_at hl 0 rfl) ?_
    refine va_slen hx hb hX hbl hbA hw.2.2 dL_law_26 ?_
    refine lv_iconst (v := 4) hx hb dL_law_27 (by decide) ?_
    refine lv_isub hx hb dL_law_28 ?_
    refine lv_icmp_gt (tgt := 2167) hx hb dL_law_29 (by decide) (fun _ => law_exit C0 hw.2.2 (by omega) (by omega)) (fun q => ?_)
    have hi : i + 4 ≤ L := Decidable.not_not.mp (fun r => q ((law_gt hL (by omega)).mpr r))
    exact absurd hi (by omega)
  | succ n ih =>
    intro t i hit hLn ht S U G th Hb a k f cells slots hI hcc hss H locs ls hw hl
    refine lv_iload hx hb dL_law_23 (lv_at hl 4 rfl) ?_
    refine lv_aload_n hx hb dL_law_25 rfl (lv_at hl 0 rfl) ?_
    refine va_slen hx hb hX hbl hbA hw.2.2 dL_law_26 ?_
    refine lv_iconst (v := 4) hx hb dL_law_27 (by decide) ?_
    refine lv_isub hx hb dL_law_28 ?_
    refine lv_icmp_gt (tgt := 2167) hx hb dL_law_29 (by decide) (fun _ => law_exit C0 hw.2.2 (by omega) (by omega)) (fun q => ?_)
    have hi : i + 4 ≤ L := Decidable.not_not.mp (fun r => q ((law_gt hL (by omega)).mpr r))
    refine lv_aload_n hx hb dL_law_32 rfl (lv_at hl 0 rfl) ?_
    refine lv_iload hx hb dL_law_33 (lv_at hl 4 rfl) ?_
    refine k_sldv (i := i) (v := xs i) hx hb hX hbl hw (by omega) (by omega) rfl dL_law_35 ?_
    refine lv_bipush (v := 63) hx hb dL_law_36 (by decide) ?_
    refine lv_iand hx hb dL_law_38 ?_
    obtain ⟨j, hj, ej⟩ := pk_andE (xs i) (m := 63) 6 (by decide)
    rw [ej]
    have kk : ∀ (S1 U1 : CS) (G1 : HS) (f1 : Nat → Int64) (t1 : Int32) (Hb1 : MH) (a1 k1 : Fn) (H : Heap) (locs : List Loc) (ls : Array Slot), INV (58000 * t + 58000) G1 S1 Hb1 a1 → Wd E (aL s9) s9.heap (wX x A T B ++ wC E A (B 0) S1 ++ wC E T (B 0) U1 ++ wG E B G1 ++ [(o, aJ E 1 f1)] ++ wN E M (t1, Hb1, a1, k1)) H locs → lv_has ls 9 [(0, .ref b), (1, .ref x), (2, .ref (M 0)), (3, .ref o), (4, .int (nI i))] → W p9 l e room_1 s9 m #[Value.ref b] below meth c H locs (cells + 30) (slots + 200) (lw_Z below #[Value.ref b] s9) (F0 m 2161 ls []) := by
      intro S1 U1 G1 f1 t1 Hb1 a1 k1 H locs ls hI hw hl
      refine lv_iinc (v := nI (i + 4)) (lv' := [(4, .int (nI (i + 4))), (0, .ref b), (1, .ref x), (2, .ref (M 0)), (3, .ref o)]) hx hb dL_law_2161 hl (k := 4) rfl (nI_add i 4) (by decide) rfl (fun ls hl => ?_)
      refine lv_goto (tgt := 23) hx hb dL_law_2164 (by decide) ?_
      exact ih (t + 1) (i + 4) (by omega) (by omega) (by omega) S1 U1 G1 t1 Hb1 a1 k1 f1 (cells + 30) (slots + 200) hI (by omega) (by omega) H locs ls hw (lv_sub hl [1, 2, 3, 4, 0] rfl)
    rcases (show j = 0 ∨ j = 1 ∨ j = 2 ∨ j = 3 ∨ j = 4 ∨ j = 5 ∨ j = 6 ∨ j = 7 ∨ j = 8 ∨ j = 9 ∨ j = 10 ∨ j = 11 ∨ j = 12 ∨ j = 13 ∨ j = 14 ∨ j = 15 ∨ j = 16 ∨ j = 17 ∨ j = 18 ∨ j = 19 ∨ j = 20 ∨ j = 21 ∨ j = 22 ∨ j = 23 ∨ j = 24 ∨ j = 25 ∨ j = 26 ∨ j = 27 ∨ j = 28 ∨ j = 29 ∨ j = 30 ∨ j = 31 ∨ j = 32 ∨ j = 33 ∨ j = 34 ∨ j = 35 ∨ j = 36 ∨ j = 37 ∨ j = 38 ∨ j = 39 ∨ j = 40 ∨ 41 ≤ j by omega) with rfl | rfl | rfl | rfl | rfl | rfl | rfl | rfl | rfl | rfl | rfl | rfl | rfl | rfl | rfl | rfl | rfl | rfl | rfl | rfl | rfl | rfl | rfl | rfl | rfl | rfl | rfl | rfl | rfl | rfl | rfl | rfl | rfl | rfl | rfl | rfl | rfl | rfl | rfl | rfl | rfl | hj2
    · refine lv_tableIn (off := 177) (tgt := 216) hx hb dL_law_39 (by decide) (by decide) (by decide) (by decide) ?_
      exact lo_addShip C0 hflags hL E hK hG hZ x o A T B M S U G th Hb a k f i cells slots hi hI (by omega) (by omega) (by omega) kk hw hl
    · refine lv_tableIn (off := 233) (tgt := 272) hx hb dL_law_39 (by decide) (by decide) (by decide) (by decide) ?_
      exact lo_addSailor C0 hflags hL E hK hG hZ x o A T B M S U G th Hb a k f i cells slots hi hI (by omega) (by omega) (by omega) kk hw hl
    · refine lv_tableIn (off := 329) (tgt := 368) hx hb dL_law_39 (by decide) (by decide) (by decide) (by decide) ?_
      exact lo_addWatcher C0 hflags hL E hK hG hZ x o A T B M S U G th Hb a k f i cells slots hi hI (by omega) (by omega) (by omega) kk hw hl
    · refine lv_tableIn (off := 373) (tgt := 412) hx hb dL_law_39 (by decide) (by decide) (by decide) (by decide) ?_
      exact lo_buyWax C0 hflags hL E hK hG hZ x o A T B M S U G th Hb a k f i cells slots hi hI (by omega) (by omega) (by omega) kk hw hl
    · refine lv_tableIn (off := 429) (tgt := 468) hx hb dL_law_39 (by decide) (by decide) (by decide) (by decide) ?_
      exact lo_sail C0 hflags hL E hK hG hZ x o A T B M S U G th Hb a k f i cells slots hi hI (by omega) (by omega) (by omega) kk hw hl
    · refine lv_tableIn (off := 485) (tgt := 524) hx hb dL_law_39 (by decide) (by decide) (by decide) (by decide) ?_
      exact lo_comeHome C0 hflags hL E hK hG hZ x o A T B M S U G th Hb a k f i cells slots hi hI (by omega) (by omega) (by omega) kk hw hl
    · refine lv_tableIn (off := 541) (tgt := 580) hx hb dL_law_39 (by decide) (by decide) (by decide) (by decide) ?_
      exact lo_sight C0 hflags hL E hK hG hZ x o A T B M S U G th Hb a k f i cells slots hi hI (by omega) (by omega) (by omega) kk hw hl
    · refine lv_tableIn (off := 616) (tgt := 655) hx hb dL_law_39 (by decide) (by decide) (by decide) (by decide) ?_
      exact lo_vote C0 hflags hL E hK hG hZ x o A T B M S U G th Hb a k f i cells slots hi hI (by omega) (by omega) (by omega) kk hw hl
    · refine lv_tableIn (off := 700) (tgt := 739) hx hb dL_law_39 (by decide) (by decide) (by decide) (by decide) ?_
      exact lo_burnNights C0 hflags hL E hK hG hZ x o A T B M S U G th Hb a k f i cells slots hi hI (by omega) (by omega) (by omega) kk hw hl
    · refine lv_tableIn (off := 756) (tgt := 795) hx hb dL_law_39 (by decide) (by decide) (by decide) (by decide) ?_
      exact lo_ships C0 hflags hL E hK hG hZ x o A T B M S U G th Hb a k f i cells slots hi hI (by omega) (by omega) (by omega) kk hw hl
    · refine lv_tableIn (off := 769) (tgt := 808) hx hb dL_law_39 (by decide) (by decide) (by decide) (by decide) ?_
      exact lo_mastsOf C0 hflags hL E hK hG hZ x o A T B M S U G th Hb a k f i cells slots hi hI (by omega) (by omega) (by omega) kk hw hl
    · refine lv_tableIn (off := 825) (tgt := 864) hx hb dL_law_39 (by decide) (by decide) (by decide) (by decide) ?_
      exact lo_isAway C0 hflags hL E hK hG hZ x o A T B M S U G th Hb a k f i cells slots hi hI (by omega) (by omega) (by omega) kk hw hl
    · refine lv_tableIn (off := 888) (tgt := 927) hx hb dL_law_39 (by decide) (by decide) (by decide) (by decide) ?_
      exact lo_isLost C0 hflags hL E hK hG hZ x o A T B M S U G th Hb a k f i cells slots hi hI (by omega) (by omega) (by omega) kk hw hl
    · refine lv_tableIn (off := 951) (tgt := 990) hx hb dL_law_39 (by decide) (by decide) (by decide) (by decide) ?_
      exact lo_nightsOut C0 hflags hL E hK hG hZ x o A T B M S U G th Hb a k f i cells slots hi hI (by omega) (by omega) (by omega) kk hw hl
    · refine lv_tableIn (off := 1007) (tgt := 1046) hx hb dL_law_39 (by decide) (by decide) (by decide) (by decide) ?_
      exact lo_isRung C0 hflags hL E hK hG hZ x o A T B M S U G th Hb a k f i cells slots hi hI (by omega) (by omega) (by omega) kk hw hl
    · refine lv_tableIn (off := 1070) (tgt := 1109) hx hb dL_law_39 (by decide) (by decide) (by decide) (by decide) ?_
      exact lo_trustIn C0 hflags hL E hK hG hZ x o A T B M S U G th Hb a k f i cells slots hi hI (by omega) (by omega) (by omega) kk hw hl
    · refine lv_tableIn (off := 1126) (tgt := 1165) hx hb dL_law_39 (by decide) (by decide) (by decide) (by decide) ?_
      exact lo_voters C0 hflags hL E hK hG hZ x o A T B M S U G th Hb a k f i cells slots hi hI (by omega) (by omega) (by omega) kk hw hl
    · refine lv_tableIn (off := 1182) (tgt := 1221) hx hb dL_law_39 (by decide) (by decide) (by decide) (by decide) ?_
      exact lo_votesForLost C0 hflags hL E hK hG hZ x o A T B M S U G th Hb a k f i cells slots hi hI (by omega) (by omega) (by omega) kk hw hl
    · refine lv_tableIn (off := 1238) (tgt := 1277) hx hb dL_law_39 (by decide) (by decide) (by decide) (by decide) ?_
      exact lo_votesMissing C0 hflags hL E hK hG hZ x o A T B M S U G th Hb a k f i cells slots hi hI (by omega) (by omega) (by omega) kk hw hl
    · refine lv_tableIn (off := 1294) (tgt := 1333) hx hb dL_law_39 (by decide) (by decide) (by decide) (by decide) ?_
      exact lo_sailors C0 hflags hL E hK hG hZ x o A T B M S U G th Hb a k f i cells slots hi hI (by omega) (by omega) (by omega) kk hw hl
    · refine lv_tableIn (off := 1307) (tgt := 1346) hx hb dL_law_39 (by decide) (by decide) (by decide) (by decide) ?_
      exact lo_shipOf C0 hflags hL E hK hG hZ x o A T B M S U G th Hb a k f i cells slots hi hI (by omega) (by omega) (by omega) kk hw hl
    · refine lv_tableIn (off := 1363) (tgt := 1402) hx hb dL_law_39 (by decide) (by decide) (by decide) (by decide) ?_
      exact lo_mastOf C0 hflags hL E hK hG hZ x o A T B M S U G th Hb a k f i cells slots hi hI (by omega) (by omega) (by omega) kk hw hl
    · refine lv_tableIn (off := 1419) (tgt := 1458) hx hb dL_law_39 (by decide) (by decide) (by decide) (by decide) ?_
      exact lo_hasVoter C0 hflags hL E hK hG hZ x o A T B M S U G th Hb a k f i cells slots hi hI (by omega) (by omega) (by omega) kk hw hl
    · refine lv_tableIn (off := 1482) (tgt := 1521) hx hb dL_law_39 (by decide) (by decide) (by decide) (by decide) ?_
      exact lo_isGivenUp C0 hflags hL E hK hG hZ x o A T B M S U G th Hb a k f i cells slots hi hI (by omega) (by omega) (by omega) kk hw hl
    · refine lv_tableIn (off := 1545) (tgt := 1584) hx hb dL_law_39 (by decide) (by decide) (by decide) (by decide) ?_
      exact lo_candleOf C0 hflags hL E hK hG hZ x o A T B M S U G th Hb a k f i cells slots hi hI (by omega) (by omega) (by omega) kk hw hl
    · refine lv_tableIn (off := 1601) (tgt := 1640) hx hb dL_law_39 (by decide) (by decide) (by decide) (by decide) ?_
      exact lo_isDark C0 hflags hL E hK hG hZ x o A T B M S U G th Hb a k f i cells slots hi hI (by omega) (by omega) (by omega) kk hw hl
    · refine lv_tableIn (off := 1664) (tgt := 1703) hx hb dL_law_39 (by decide) (by decide) (by decide) (by decide) ?_
      exact lo_watchers C0 hflags hL E hK hG hZ x o A T B M S U G th Hb a k f i cells slots hi hI (by omega) (by omega) (by omega) kk hw hl
    · refine lv_tableIn (off := 1677) (tgt := 1716) hx hb dL_law_39 (by decide) (by decide) (by decide) (by decide) ?_
      exact lo_trustOf C0 hflags hL E hK hG hZ x o A T B M S U G th Hb a k f i cells slots hi hI (by omega) (by omega) (by omega) kk hw hl
    · refine lv_tableIn (off := 1733) (tgt := 1772) hx hb dL_law_39 (by decide) (by decide) (by decide) (by decide) ?_
      exact lo_sightings C0 hflags hL E hK hG hZ x o A T B M S U G th Hb a k f i cells slots hi hI (by omega) (by omega) (by omega) kk hw hl
    · refine lv_tableIn (off := 1746) (tgt := 1785) hx hb dL_law_39 (by decide) (by decide) (by decide) (by decide) ?_
      exact lo_night C0 hflags hL E hK hG hZ x o A T B M S U G th Hb a k f i cells slots hi hI (by omega) (by omega) (by omega) kk hw hl
    · refine lv_tableIn (off := 1759) (tgt := 1798) hx hb dL_law_39 (by decide) (by decide) (by decide) (by decide) ?_
      exact lo_wax C0 hflags hL E hK hG hZ x o A T B M S U G th Hb a k f i cells slots hi hI (by omega) (by omega) (by omega) kk hw hl
    · refine lv_tableIn (off := 1772) (tgt := 1811) hx hb dL_law_39 (by decide) (by decide) (by decide) (by decide) ?_
      exact lo_darkCandles C0 hflags hL E hK hG hZ x o A T B M S U G th Hb a k f i cells slots hi hI (by omega) (by omega) (by omega) kk hw hl
    · refine lv_tableIn (off := 1785) (tgt := 1824) hx hb dL_law_39 (by decide) (by decide) (by decide) (by decide) ?_
      exact lo_bellsUnrung C0 hflags hL E hK hG hZ x o A T B M S U G th Hb a k f i cells slots hi hI (by omega) (by omega) (by omega) kk hw hl
    · refine lv_tableIn (off := 1798) (tgt := 1837) hx hb dL_law_39 (by decide) (by decide) (by decide) (by decide) ?_
      exact lo_namesOnWall C0 hflags hL E hK hG hZ x o A T B M S U G th Hb a k f i cells slots hi hI (by omega) (by omega) (by omega) kk hw hl
    · refine lv_tableIn (off := 1811) (tgt := 1850) hx hb dL_law_39 (by decide) (by decide) (by decide) (by decide) ?_
      exact lo_wouldRing C0 hflags hL E hK hG hZ x o A T B M S U G th Hb a k f i cells slots hi hI (by omega) (by omega) (by omega) kk hw hl
    · refine lv_tableIn (off := 1886) (tgt := 1925) hx hb dL_law_39 (by decide) (by decide) (by decide) (by decide) ?_
      exact lo_nightsUntilUnrung C0 hflags hL E hK hG hZ x o A T B M S U G th Hb a k f i cells slots hi hI (by omega) (by omega) (by omega) kk hw hl
    · refine lv_tableIn (off := 1942) (tgt := 1981) hx hb dL_law_39 (by decide) (by decide) (by decide) (by decide) ?_
      exact lo_nightsUntilDark C0 hflags hL E hK hG hZ x o A T B M S U G th Hb a k f i cells slots hi hI (by omega) (by omega) (by omega) kk hw hl
    · refine lv_tableIn (off := 1955) (tgt := 1994) hx hb dL_law_39 (by decide) (by decide) (by decide) (by decide) ?_
      exact lo_waxAfter C0 hflags hL E hK hG hZ x o A T B M S U G th Hb a k f i cells slots hi hI (by omega) (by omega) (by omega) kk hw hl
    · refine lv_tableIn (off := 2011) (tgt := 2050) hx hb dL_law_39 (by decide) (by decide) (by decide) (by decide) ?_
      exact lo_waxWanted C0 hflags hL E hK hG hZ x o A T B M S U G th Hb a k f i cells slots hi hI (by omega) (by omega) (by omega) kk hw hl
    · refine lv_tableIn (off := 2067) (tgt := 2106) hx hb dL_law_39 (by decide) (by decide) (by decide) (by decide) ?_
      exact lo_meanTrust C0 hflags hL E hK hG hZ x o A T B M S U G th Hb a k f i cells slots hi hI (by omega) (by omega) (by omega) kk hw hl
    · refine lv_tableIn (off := 2108) (tgt := 2147) hx hb dL_law_39 (by decide) (by decide) (by decide) (by decide) ?_
      exact lo_digest C0 hflags hL E hK hG hZ x o A T B M S U G th Hb a k f i cells slots hi hI (by omega) (by omega) (by omega) kk hw hl
    · refine lv_tableOut (tgt := 2161) hx hb dL_law_39 (.inr (by rw [nI_toInt (by omega)]; omega)) (by decide) ?_
      refine W.widen (k := cells + 30) (n := slots + 200) (by omega) (by omega) ?_
      exact kk S U G f th Hb a k H locs ls (INV_le hI) hw hl
theorem INV_0 : INV 0 G0 S0 Hb0 a0 := by
  refine ⟨⟨⟨rfl, rfl, rfl, Nat.zero_le _, Nat.zero_le _, Nat.zero_le _⟩, fun s hs => absurd hs (Nat.not_lt_zero s), fun p hp => absurd hp (Nat.not_lt_zero p), fun p _ _ => ⟨rfl, rfl⟩⟩, fun p _ h => absurd h (by show ¬ (false = true); decide), ?_⟩
  have h0 : ∀ j, j < 54 → a0 j = 0 := fun j h => if_pos h
  have h1 : ∀ j, a0 (54 + j) = -1 := fun j => if_neg (by omega)
  exact ⟨fun j hj => (h0 _ (by omega)).symm, fun j hj => (h0 _ (by omega)).symm, fun j hj => (h0 _ (by omega)).symm, fun j hj => (h0 _ (by omega)).symm, fun j hj => (h0 _ (by omega)).symm, fun j hj => (h0 _ (by omega)).symm, fun j hj => (h1 j).symm, (h0 0 (by omega)).symm, (h0 1 (by omega)).symm, (h0 2 (by omega)).symm, fun w s _ _ _ => h1 _, fun s _ _ => ⟨h0 _ (by omega), h0 _ (by omega)⟩, fun j _ => .inl (h1 j), fun j hj => ⟨0, by omega, h0 _ (by omega)⟩, fun j hj => ⟨0, by omega, h0 _ (by omega)⟩, 0, by omega, h0 1 (by omega)⟩
