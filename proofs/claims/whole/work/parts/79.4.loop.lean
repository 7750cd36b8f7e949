section LOOP
variable {p : Program} {l : Launch} {e : Env} {s : State} {m : MethodId} {below : List Frame} {meth : Method} {c : Code} {D : va_G} {ad : Nat → Nat} {cg : Nat → ClassId} {b L : Nat} {xs : Nat → Int32}
set_option maxHeartbeats 2000000 in
theorem lk_head (F : LC p l s m meth c b L xs cg D) {i : Nat} (hi : i ≤ 2560) {ls : Array Slot} {st : Nat → Nat → Int} {H : Heap} {locs : List Loc} (hl : lv_has ls 7 [(0, .ref b), (1, .ref (ad 0)), (2, .ref (ad 74)), (3, .ref (ad 73)), (4, .int (iI (i : Int)))]) (hW : GW D vwCl 100 (celT cg) ad (fun q => s.heap.size ≤ q) s.heap st H locs)
    (kk : i + 5 ≤ L → W p l e room_1 s m #[Value.ref b] below meth c H locs (100 + i) (5674 + 6 * i) (lw_Z below #[Value.ref b] s) (F0 m 32 ls [])) : W p l e room_1 s m #[Value.ref b] below meth c H locs (100 + i) (5674 + 6 * i) (lw_Z below #[Value.ref b] s) (F0 m 23 ls []) := by
  obtain ⟨hx, hb, hr, hml, hown, hts, hXs, hbl, hlocks, hst, hK, hN, hxK, hxZ, hxN, hL⟩ := id F
  have h32 : Int32.ofNat L = iI (L : Int) := (iI_self (Int32.ofNat L)).trans (by rw [show (Int32.ofNat L).toInt = (L : Int) from nI_toInt (by omega)])
  refine lv_iload hx hb dL_law_23 (lv_at hl 4 rfl) ?_
  refine lv_aload_n hx hb dL_law_25 rfl (lv_at hl 0 rfl) ?_
  refine va_slen hx hb hXs hbl (Nat.not_le.mpr hbl) hW.2.2 dL_law_26 ?_
  rw [h32]
  refine mk_iconst hx hb 5 dL_law_27 ?_
  refine mk_isub hx hb dL_law_28 ?_
  refine mk_icmp_gt (tgt := 1603) hx hb dL_law_29 (by decide) (by omega) (by omega) (fun _ => ?_) (fun h => kk (by omega))
  refine va_forget hW.2.2.2.2 ?_
  refine W.widen (k := 601024) (n := 7293034) (by omega) (by omega) ?_
  refine lv_iconst (v := 1) hx hb dL_law_1603 rfl ?_
  exact lw_ret hx hb hr hlocks dL_law_1604
set_option maxHeartbeats 4000000 in
theorem lk_body (F : LC p l s m meth c b L xs cg D) {i : Nat} (hle : i + 5 ≤ L) {ls : Array Slot} {st : Nat → Nat → Int} {H : Heap} {locs : List Loc} {Q : State → Prop} (hl : lv_has ls 7 [(0, .ref b), (1, .ref (ad 0)), (2, .ref (ad 74)), (3, .ref (ad 73)), (4, .int (iI (i : Int)))]) (hW : GW D vwCl 100 (celT cg) ad (fun q => s.heap.size ≤ q) s.heap st H locs) (hX : XI st (sub emM st))
    (kk : ∀ (ls : Array Slot) (st : Nat → Nat → Int) (H : Heap) (locs : List Loc), lv_has ls 7 [(0, .ref b), (1, .ref (ad 0)), (2, .ref (ad 74)), (3, .ref (ad 73)), (4, .int (iI (i : Int)))] → GW D vwCl 100 (celT cg) ad (fun q => s.heap.size ≤ q) s.heap st H locs → XI st (sub emM st) → W p l e room_1 s m #[Value.ref b] below meth c H locs (100 + (i + 5)) (5674 + 6 * (i + 5)) Q (F0 m 1597 ls [])) : W p l e room_1 s m #[Value.ref b] below meth c H locs (100 + i) (5674 + 6 * i) Q (F0 m 32 ls []) := by
  obtain ⟨hx, hb, hr, hml, hown, hts, hXs, hbl, hlocks, hst, hK, hN, hxK, hxZ, hxN, hL⟩ := id F
  refine lv_aload_n hx hb dL_law_32 rfl (lv_at hl 0 rfl) ?_
  refine lv_iload hx hb dL_law_33 (lv_at hl 4 rfl) ?_
  refine va_sld hx hb hXs hbl (Nat.not_le.mpr hbl) hW.2.2 (iI_in (j := i) (by omega) (by omega)) dL_law_35 ?_
  refine mk_bipush hx hb 31 (by decide +kernel) dL_law_36 ?_
  refine lv_iand hx hb dL_law_38 ?_
  refine lv_topi (fun y ey => ?_)
  by_cases hr2 : y.toInt < 0 ∨ 22 < y.toInt
  · refine lv_tableOut (tgt := 1597) hx hb dL_law_39 hr2 (by decide) ?_
    refine W.widen (show 100 + i ≤ 100 + (i + 5) by omega) (show 5674 + 6 * i ≤ 5674 + 6 * (i + 5) by omega) ?_
    exact kk _ _ _ _ hl hW hX
  · rcases (show y.toInt = 0 ∨ y.toInt = 1 ∨ y.toInt = 2 ∨ y.toInt = 3 ∨ y.toInt = 4 ∨ y.toInt = 5 ∨ y.toInt = 6 ∨ y.toInt = 7 ∨ y.toInt = 8 ∨ y.toInt = 9 ∨ y.toInt = 10 ∨ y.toInt = 11 ∨ y.toInt = 12 ∨ y.toInt = 13 ∨ y.toInt = 14 ∨ y.toInt = 15 ∨ y.toInt = 16 ∨ y.toInt = 17 ∨ y.toInt = 18 ∨ y.toInt = 19 ∨ y.toInt = 20 ∨ y.toInt = 21 ∨ y.toInt = 22 by omega) with hq | hq | hq | hq | hq | hq | hq | hq | hq | hq | hq | hq | hq | hq | hq | hq | hq | hq | hq | hq | hq | hq | hq
    · refine lv_tableIn (off := 105) (tgt := 144) hx hb dL_law_39 (by omega) (by omega) (by rw [hq]; rfl) (by decide) ?_
      exact lc_buy F hle hl hW hX kk
    · refine lv_tableIn (off := 197) (tgt := 236) hx hb dL_law_39 (by omega) (by omega) (by rw [hq]; rfl) (by decide) ?_
      exact lc_sell F hle hl hW hX kk
    · refine lv_tableIn (off := 289) (tgt := 328) hx hb dL_law_39 (by omega) (by omega) (by rw [hq]; rfl) (by decide) ?_
      exact lc_split F hle hl hW hX kk
    · refine lv_tableIn (off := 369) (tgt := 408) hx hb dL_law_39 (by omega) (by omega) (by rw [hq]; rfl) (by decide) ?_
      exact lc_cancel F hle hl hW hX kk
    · refine lv_tableIn (off := 405) (tgt := 444) hx hb dL_law_39 (by omega) (by omega) (by rw [hq]; rfl) (by decide) ?_
      exact lc_setAllowance F hle hl hW hX kk
    · refine lv_tableIn (off := 473) (tgt := 512) hx hb dL_law_39 (by omega) (by omega) (by rw [hq]; rfl) (by decide) ?_
      exact lc_setWindow F hle hl hW hX kk
    · refine lv_tableIn (off := 529) (tgt := 568) hx hb dL_law_39 (by omega) (by omega) (by rw [hq]; rfl) (by decide) ?_
      exact lc_trades F hle hl hW hX kk
    · refine lv_tableIn (off := 542) (tgt := 581) hx hb dL_law_39 (by omega) (by omega) (by rw [hq]; rfl) (by decide) ?_
      exact lc_holding F hle hl hW hX kk
    · refine lv_tableIn (off := 610) (tgt := 649) hx hb dL_law_39 (by omega) (by omega) (by rw [hq]; rfl) (by decide) ?_
      exact lc_poolUnits F hle hl hW hX kk
    · refine lv_tableIn (off := 678) (tgt := 717) hx hb dL_law_39 (by omega) (by omega) (by rw [hq]; rfl) (by decide) ?_
      exact lc_poolCost F hle hl hW hX kk
    · refine lv_tableIn (off := 746) (tgt := 785) hx hb dL_law_39 (by omega) (by omega) (by rw [hq]; rfl) (by decide) ?_
      exact lc_costIn F hle hl hW hX kk
    · refine lv_tableIn (off := 802) (tgt := 841) hx hb dL_law_39 (by omega) (by omega) (by rw [hq]; rfl) (by decide) ?_
      exact lc_costMatched F hle hl hW hX kk
    · refine lv_tableIn (off := 858) (tgt := 897) hx hb dL_law_39 (by omega) (by omega) (by rw [hq]; rfl) (by decide) ?_
      exact lc_matches F hle hl hW hX kk
    · refine lv_tableIn (off := 914) (tgt := 953) hx hb dL_law_39 (by omega) (by omega) (by rw [hq]; rfl) (by decide) ?_
      exact lc_kindOf F hle hl hW hX kk
    · refine lv_tableIn (off := 982) (tgt := 1021) hx hb dL_law_39 (by omega) (by omega) (by rw [hq]; rfl) (by decide) ?_
      exact lc_saleDay F hle hl hW hX kk
    · refine lv_tableIn (off := 1050) (tgt := 1089) hx hb dL_law_39 (by omega) (by omega) (by rw [hq]; rfl) (by decide) ?_
      exact lc_buyDay F hle hl hW hX kk
    · refine lv_tableIn (off := 1118) (tgt := 1157) hx hb dL_law_39 (by omega) (by omega) (by rw [hq]; rfl) (by decide) ?_
      exact lc_unitsOf F hle hl hW hX kk
    · refine lv_tableIn (off := 1186) (tgt := 1225) hx hb dL_law_39 (by omega) (by omega) (by rw [hq]; rfl) (by decide) ?_
      exact lc_costOf F hle hl hW hX kk
    · refine lv_tableIn (off := 1254) (tgt := 1293) hx hb dL_law_39 (by omega) (by omega) (by rw [hq]; rfl) (by decide) ?_
      exact lc_proceedsOf F hle hl hW hX kk
    · refine lv_tableIn (off := 1322) (tgt := 1361) hx hb dL_law_39 (by omega) (by omega) (by rw [hq]; rfl) (by decide) ?_
      exact lc_gain F hle hl hW hX kk
    · refine lv_tableIn (off := 1390) (tgt := 1429) hx hb dL_law_39 (by omega) (by omega) (by rw [hq]; rfl) (by decide) ?_
      exact lc_net F hle hl hW hX kk
    · refine lv_tableIn (off := 1446) (tgt := 1485) hx hb dL_law_39 (by omega) (by omega) (by rw [hq]; rfl) (by decide) ?_
      exact lc_carried F hle hl hW hX kk
    · refine lv_tableIn (off := 1502) (tgt := 1541) hx hb dL_law_39 (by omega) (by omega) (by rw [hq]; rfl) (by decide) ?_
      exact lc_taxable F hle hl hW hX kk
theorem law_loop (F : LC p l s m meth c b L xs cg D) : ∀ (n i : Nat), L < i + n → i ≤ 2560 → ∀ (ls : Array Slot) (st : Nat → Nat → Int) (H : Heap) (locs : List Loc), lv_has ls 7 [(0, .ref b), (1, .ref (ad 0)), (2, .ref (ad 74)), (3, .ref (ad 73)), (4, .int (iI (i : Int)))] → GW D vwCl 100 (celT cg) ad (fun q => s.heap.size ≤ q) s.heap st H locs → XI st (sub emM st) → W p l e room_1 s m #[Value.ref b] below meth c H locs (100 + i) (5674 + 6 * i) (lw_Z below #[Value.ref b] s) (F0 m 23 ls []) := by
  intro n
  induction n with
  | zero =>
    intro i h hi ls st H locs hl hW hX
    exact lk_head F hi hl hW (fun h2 => by omega)
  | succ n ih =>
    intro i h hi ls st H locs hl hW hX
    refine lk_head F hi hl hW (fun h2 => lk_body F h2 hl hW hX (fun ls st H locs hl hW hX => ?_))
    obtain ⟨hx, hb, -, -, -, -, -, -, -, -, -, -, -, -, -, hL⟩ := id F
    refine lv_iinc (v := iI ((i + 5 : Nat) : Int)) (lv' := [(4, .int (iI ((i + 5 : Nat) : Int))), (0, .ref b), (1, .ref (ad 0)), (2, .ref (ad 74)), (3, .ref (ad 73))]) hx hb dL_law_1597 hl (k := 4) rfl (by show iI (i : Int) + iI 5 = _; rw [iI_add]; rfl) (by decide) rfl (fun ls hl => ?_)
    refine lv_goto (tgt := 23) hx hb dL_law_1600 (by decide) ?_
    exact ih (i + 5) (by omega) (by omega) ls st H locs (lv_sub hl [1, 2, 3, 4, 0] rfl) hW hX
end LOOP
