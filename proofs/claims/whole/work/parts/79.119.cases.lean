section LAWC
variable {p : Program} {l : Launch} {e : Env} {R : Room} {s : State} {m : MethodId} {args : Array Value} {below : List Frame} {meth : Method} {c : Code} {H : Heap} {locs : List Loc} {cells slots : Nat} {Q : State → Prop}
variable {cc : ByteArray} {pc : Nat} {ls : Array Slot} {rest : List Value} {D : va_G} {cl : List vw_C} {A : Nat → Prop} {tys : List (ClassId × FieldType)} {H0 : Heap} {n n' : Nat} {cel cel' : (Nat → Nat) → (Nat → Int) → Nat → va_E} {ad ad' : Nat → Nat} {em : Nat → Nat} {st : Nat → Nat → Int} {cg : Nat → ClassId} {b L : Nat} {xs : Nat → Int32}
set_option maxHeartbeats 2000000 in
set_option maxRecDepth 100000 in
theorem lc_gain (F : LC p l s m meth c b L xs cg D) {i : Nat} (hi : i + 5 ≤ L) (hl : lv_has ls 7 [(0, .ref b), (1, .ref (ad 0)), (2, .ref (ad 74)), (3, .ref (ad 73)), (4, .int (iI (i : Int)))]) (hW : GW D vwCl 100 (celT cg) ad (fun q => s.heap.size ≤ q) s.heap st H locs) (hX : XI st (sub emM st))
    (kk : ∀ (ls : Array Slot) (st : Nat → Nat → Int) (H : Heap) (locs : List Loc), lv_has ls 7 [(0, .ref b), (1, .ref (ad 0)), (2, .ref (ad 74)), (3, .ref (ad 73)), (4, .int (iI (i : Int)))] → GW D vwCl 100 (celT cg) ad (fun q => s.heap.size ≤ q) s.heap st H locs → XI st (sub emM st) → W p l e room_1 s m #[Value.ref b] below meth c H locs (100 + (i + 5)) (5674 + 6 * (i + 5)) Q (F0 m 1597 ls [])) : W p l e room_1 s m #[Value.ref b] below meth c H locs (100 + i) (5674 + 6 * i) Q (F0 m 1361 ls []) := by
  obtain ⟨hx, hb, hr, hml, hown, hts, hXs, hbl, hlocks, hst, hK, hN, hxK, hxZ, hxN, hL⟩ := id F
  refine lv_aload_n hx hb dL_law_1361 rfl (lv_at hl 1 rfl) ?_
  refine lk_arg F hW (lv_at hl 0 rfl) (lv_at hl 4 rfl) (j := 1) (by omega) rfl dL_law_1362 dL_law_1363 dL_law_1365 dL_law_1366 dL_law_1367 ?_
  refine lk_arg F hW (lv_at hl 0 rfl) (lv_at hl 4 rfl) (j := 2) (by omega) rfl dL_law_1368 dL_law_1369 dL_law_1371 dL_law_1372 dL_law_1373 ?_
  refine lv_aload_n hx hb dL_law_1374 rfl (lv_at hl 3 rfl) ?_
  refine mw_goIE (EmbWT cg ad) (vx_runSW (As := [.ref (ad 0), .int (iI (xs (i + 1)).toInt), .int (iI (xs (i + 2)).toInt), .ref (ad 73)]) (rest := []) ⟨hx, hb, hml, hown, hts⟩ (w_gain l cg D ad st hst (sub emM st) hX ((xs (i + 1)).toInt) ((xs (i + 2)).toInt) (iI_rng (xs (i + 1))) (iI_rng (xs (i + 2)))) (vx_cwSW 4 hts gL_law_L_gain rfl rfl rfl (by decide +kernel) ⟨Nat.le_of_ble_eq_true rfl, Nat.le_of_ble_eq_true rfl⟩) (mw_preS hK hN hxK hxZ hxN (hW.emb (EmbWT cg ad))) rfl rfl hl.1 rfl (lv_room (Nat.le_of_ble_eq_true rfl)) dL_law_1375 ⟨show 100 + i + 1 ≤ 601024 by omega, show 5674 + 6 * i + 6 ≤ 7293034 by omega⟩) hW (fun z u hp H locs hW => ?_)
  obtain ⟨st1, e1⟩ : ∃ q, q = up 74 (fun k => k) u st := ⟨_, rfl⟩
  rw [← e1] at hW
  have e2 : sub emM st1 = sub emM st := by rw [e1]; exact sub_wm u st
  obtain ⟨v, b1, hp, hXu, hout⟩ := hp
  have hX1 : XI st1 b1 := hXu.on fun k hk => by rw [e1]; exact up_w (by omega) u st
  refine lv_istore (lv' := [(5, .int (iI z)), (0, .ref b), (1, .ref (ad 0)), (2, .ref (ad 74)), (3, .ref (ad 73)), (4, .int (iI (i : Int)))]) hx hb dL_law_1378 hl (by decide) rfl (fun ls hl => ?_)
  refine lv_aload_n hx hb dL_law_1380 rfl (lv_at hl 3 rfl) ?_
  refine lk_arg F hW (lv_at hl 1 rfl) (lv_at hl 5 rfl) (j := 1) (by omega) rfl dL_law_1381 dL_law_1382 dL_law_1384 dL_law_1385 dL_law_1386 ?_
  refine lk_arg F hW (lv_at hl 1 rfl) (lv_at hl 5 rfl) (j := 2) (by omega) rfl dL_law_1387 dL_law_1388 dL_law_1390 dL_law_1391 dL_law_1392 ?_
  refine mk_goIE (EmbMT cg ad) (va_runV (As := [.int (iI (xs (i + 1)).toInt), .int (iI (xs (i + 2)).toInt)]) (rest := []) ⟨hx, hb, hml, hown, hts⟩ (m_gain l cg D (fun j => ad (74 + j)) (sub emM st1) (xR st) (xD st) (by rw [e2]; exact hX.1) (by rw [e2]; exact hX.rows) ((xs (i + 1)).toInt) ((xs (i + 2)).toInt) (iI_rng (xs (i + 1))) (iI_rng (xs (i + 2)))) (cwV 2 hts gL_law_X6_gain rfl rfl rfl (by decide +kernel) ⟨Nat.le_of_ble_eq_true rfl, Nat.le_of_ble_eq_true rfl⟩) (mk_preV hK hN (hW.emb (EmbMT cg ad)) 0 (by decide) rfl rfl rfl) rfl rfl hl.1 rfl (lv_room (Nat.le_of_ble_eq_true rfl)) dL_law_1393 ⟨show 100 + i + 1 ≤ 601024 by omega, show 5674 + 6 * i + 6 ≤ 7293034 by omega⟩) hW (fun z2 u2 hp2 H locs hW => ?_)
  rw [e2] at hp2
  obtain ⟨b2, hp2, hbe⟩ := hp2
  obtain ⟨s1, s2, s3⟩ := POR.f (fun _ _ g1 g2 => P_gain_f _ _ _ _ _ g1 g2) hp hp2
  obtain ⟨st2, e3⟩ : ∃ q, q = up 26 emM u2 st1 := ⟨_, rfl⟩
  rw [← e3] at hW
  have hX2 : XI st2 (sub emM st2) := by rw [e3]; exact inv_next (st := st) hX1 (by rw [s3]; exact hbe)
  have h29 : st2 74 29 = z := by
    rw [e3]
    show up 26 emM u2 st1 (emM 0) 29 = z
    rw [up_in emM_inj (by decide)]
    exact s1.symm
  have h73 : z = 0 → st2 73 0 = wr z2 := fun h => by rw [e3, up_m_lo (by decide), e1, up_w (by decide), hout h, s2 h]
  refine W.widen (show 100 + i + 1 ≤ 100 + (i + 5) by omega) (show 5674 + 6 * i + 6 ≤ 5674 + 6 * (i + 5) by omega) ?_
  exact lk_tail F hl hW (POR.k hp) h29 h73 ⟨by omega, by omega⟩ (by decide) dL_law_1396 dL_law_1398 dL_law_1399 dL_law_1402 dL_law_1404 dL_law_1409 dL_law_1411 dL_law_1414 dL_law_1415 dL_law_1416 dL_law_1417 dL_law_1419 dL_law_1420 dL_law_1421 dL_law_1426 (fun ls H locs h1 h2 => kk ls st2 H locs h1 h2 hX2)
set_option maxHeartbeats 2000000 in
set_option maxRecDepth 100000 in
theorem lc_net (F : LC p l s m meth c b L xs cg D) {i : Nat} (hi : i + 5 ≤ L) (hl : lv_has ls 7 [(0, .ref b), (1, .ref (ad 0)), (2, .ref (ad 74)), (3, .ref (ad 73)), (4, .int (iI (i : Int)))]) (hW : GW D vwCl 100 (celT cg) ad (fun q => s.heap.size ≤ q) s.heap st H locs) (hX : XI st (sub emM st))
    (kk : ∀ (ls : Array Slot) (st : Nat → Nat → Int) (H : Heap) (locs : List Loc), lv_has ls 7 [(0, .ref b), (1, .ref (ad 0)), (2, .ref (ad 74)), (3, .ref (ad 73)), (4, .int (iI (i : Int)))] → GW D vwCl 100 (celT cg) ad (fun q => s.heap.size ≤ q) s.heap st H locs → XI st (sub emM st) → W p l e room_1 s m #[Value.ref b] below meth c H locs (100 + (i + 5)) (5674 + 6 * (i + 5)) Q (F0 m 1597 ls [])) : W p l e room_1 s m #[Value.ref b] below meth c H locs (100 + i) (5674 + 6 * i) Q (F0 m 1429 ls []) := by
  obtain ⟨hx, hb, hr, hml, hown, hts, hXs, hbl, hlocks, hst, hK, hN, hxK, hxZ, hxN, hL⟩ := id F
  refine lv_aload_n hx hb dL_law_1429 rfl (lv_at hl 1 rfl) ?_
  refine lk_arg F hW (lv_at hl 0 rfl) (lv_at hl 4 rfl) (j := 1) (by omega) rfl dL_law_1430 dL_law_1431 dL_law_1433 dL_law_1434 dL_law_1435 ?_
  refine lv_aload_n hx hb dL_law_1436 rfl (lv_at hl 3 rfl) ?_
  refine mw_goIE (EmbWT cg ad) (vx_runSW (As := [.ref (ad 0), .int (iI (xs (i + 1)).toInt), .ref (ad 73)]) (rest := []) ⟨hx, hb, hml, hown, hts⟩ (w_net l cg D ad st hst (sub emM st) hX ((xs (i + 1)).toInt) (iI_rng (xs (i + 1)))) (vx_cwSW 3 hts gL_law_L_net rfl rfl rfl (by decide +kernel) ⟨Nat.le_of_ble_eq_true rfl, Nat.le_of_ble_eq_true rfl⟩) (mw_preS hK hN hxK hxZ hxN (hW.emb (EmbWT cg ad))) rfl rfl hl.1 rfl (lv_room (Nat.le_of_ble_eq_true rfl)) dL_law_1437 ⟨show 100 + i + 1 ≤ 601024 by omega, show 5674 + 6 * i + 6 ≤ 7293034 by omega⟩) hW (fun z u hp H locs hW => ?_)
  obtain ⟨st1, e1⟩ : ∃ q, q = up 74 (fun k => k) u st := ⟨_, rfl⟩
  rw [← e1] at hW
  have e2 : sub emM st1 = sub emM st := by rw [e1]; exact sub_wm u st
  obtain ⟨v, b1, hp, hXu, hout⟩ := hp
  have hX1 : XI st1 b1 := hXu.on fun k hk => by rw [e1]; exact up_w (by omega) u st
  refine lv_istore (lv' := [(5, .int (iI z)), (0, .ref b), (1, .ref (ad 0)), (2, .ref (ad 74)), (3, .ref (ad 73)), (4, .int (iI (i : Int)))]) hx hb dL_law_1440 hl (by decide) rfl (fun ls hl => ?_)
  refine lv_aload_n hx hb dL_law_1442 rfl (lv_at hl 3 rfl) ?_
  refine lk_arg F hW (lv_at hl 1 rfl) (lv_at hl 5 rfl) (j := 1) (by omega) rfl dL_law_1443 dL_law_1444 dL_law_1446 dL_law_1447 dL_law_1448 ?_
  refine mk_goIE (EmbMT cg ad) (va_runV (As := [.int (iI (xs (i + 1)).toInt)]) (rest := []) ⟨hx, hb, hml, hown, hts⟩ (m_net l cg D (fun j => ad (74 + j)) (sub emM st1) (xR st) (xD st) (by rw [e2]; exact hX.1) (by rw [e2]; exact hX.rows) ((xs (i + 1)).toInt) (iI_rng (xs (i + 1)))) (cwV 1 hts gL_law_X6_net rfl rfl rfl (by decide +kernel) ⟨Nat.le_of_ble_eq_true rfl, Nat.le_of_ble_eq_true rfl⟩) (mk_preV hK hN (hW.emb (EmbMT cg ad)) 0 (by decide) rfl rfl rfl) rfl rfl hl.1 rfl (lv_room (Nat.le_of_ble_eq_true rfl)) dL_law_1449 ⟨show 100 + i + 1 ≤ 601024 by omega, show 5674 + 6 * i + 6 ≤ 7293034 by omega⟩) hW (fun z2 u2 hp2 H locs hW => ?_)
  rw [e2] at hp2
  obtain ⟨b2, hp2, hbe⟩ := hp2
  obtain ⟨s1, s2, s3⟩ := POR.f (fun _ _ g1 g2 => P_net_f _ _ _ _ g1 g2) hp hp2
  obtain ⟨st2, e3⟩ : ∃ q, q = up 26 emM u2 st1 := ⟨_, rfl⟩
  rw [← e3] at hW
  have hX2 : XI st2 (sub emM st2) := by rw [e3]; exact inv_next (st := st) hX1 (by rw [s3]; exact hbe)
  have h29 : st2 74 29 = z := by
    rw [e3]
    show up 26 emM u2 st1 (emM 0) 29 = z
    rw [up_in emM_inj (by decide)]
    exact s1.symm
  have h73 : z = 0 → st2 73 0 = wr z2 := fun h => by rw [e3, up_m_lo (by decide), e1, up_w (by decide), hout h, s2 h]
  refine W.widen (show 100 + i + 1 ≤ 100 + (i + 5) by omega) (show 5674 + 6 * i + 6 ≤ 5674 + 6 * (i + 5) by omega) ?_
  exact lk_tail F hl hW (POR.k hp) h29 h73 ⟨by omega, by omega⟩ (by decide) dL_law_1452 dL_law_1454 dL_law_1455 dL_law_1458 dL_law_1460 dL_law_1465 dL_law_1467 dL_law_1470 dL_law_1471 dL_law_1472 dL_law_1473 dL_law_1475 dL_law_1476 dL_law_1477 dL_law_1482 (fun ls H locs h1 h2 => kk ls st2 H locs h1 h2 hX2)
set_option maxHeartbeats 2000000 in
set_option maxRecDepth 100000 in
theorem lc_carried (F : LC p l s m meth c b L xs cg D) {i : Nat} (hi : i + 5 ≤ L) (hl : lv_has ls 7 [(0, .ref b), (1, .ref (ad 0)), (2, .ref (ad 74)), (3, .ref (ad 73)), (4, .int (iI (i : Int)))]) (hW : GW D vwCl 100 (celT cg) ad (fun q => s.heap.size ≤ q) s.heap st H locs) (hX : XI st (sub emM st))
    (kk : ∀ (ls : Array Slot) (st : Nat → Nat → Int) (H : Heap) (locs : List Loc), lv_has ls 7 [(0, .ref b), (1, .ref (ad 0)), (2, .ref (ad 74)), (3, .ref (ad 73)), (4, .int (iI (i : Int)))] → GW D vwCl 100 (celT cg) ad (fun q => s.heap.size ≤ q) s.heap st H locs → XI st (sub emM st) → W p l e room_1 s m #[Value.ref b] below meth c H locs (100 + (i + 5)) (5674 + 6 * (i + 5)) Q (F0 m 1597 ls [])) : W p l e room_1 s m #[Value.ref b] below meth c H locs (100 + i) (5674 + 6 * i) Q (F0 m 1485 ls []) := by
  obtain ⟨hx, hb, hr, hml, hown, hts, hXs, hbl, hlocks, hst, hK, hN, hxK, hxZ, hxN, hL⟩ := id F
  refine lv_aload_n hx hb dL_law_1485 rfl (lv_at hl 1 rfl) ?_
  refine lk_arg F hW (lv_at hl 0 rfl) (lv_at hl 4 rfl) (j := 1) (by omega) rfl dL_law_1486 dL_law_1487 dL_law_1489 dL_law_1490 dL_law_1491 ?_
  refine lv_aload_n hx hb dL_law_1492 rfl (lv_at hl 3 rfl) ?_
  refine mw_goIE (EmbWT cg ad) (vx_runSW (As := [.ref (ad 0), .int (iI (xs (i + 1)).toInt), .ref (ad 73)]) (rest := []) ⟨hx, hb, hml, hown, hts⟩ (w_carried l cg D ad st hst (sub emM st) hX ((xs (i + 1)).toInt) (iI_rng (xs (i + 1)))) (vx_cwSW 3 hts gL_law_L_carried rfl rfl rfl (by decide +kernel) ⟨Nat.le_of_ble_eq_true rfl, Nat.le_of_ble_eq_true rfl⟩) (mw_preS hK hN hxK hxZ hxN (hW.emb (EmbWT cg ad))) rfl rfl hl.1 rfl (lv_room (Nat.le_of_ble_eq_true rfl)) dL_law_1493 ⟨show 100 + i + 1 ≤ 601024 by omega, show 5674 + 6 * i + 6 ≤ 7293034 by omega⟩) hW (fun z u hp H locs hW => ?_)
  obtain ⟨st1, e1⟩ : ∃ q, q = up 74 (fun k => k) u st := ⟨_, rfl⟩
  rw [← e1] at hW
  have e2 : sub emM st1 = sub emM st := by rw [e1]; exact sub_wm u st
  obtain ⟨v, b1, hp, hXu, hout⟩ := hp
  have hX1 : XI st1 b1 := hXu.on fun k hk => by rw [e1]; exact up_w (by omega) u st
  refine lv_istore (lv' := [(5, .int (iI z)), (0, .ref b), (1, .ref (ad 0)), (2, .ref (ad 74)), (3, .ref (ad 73)), (4, .int (iI (i : Int)))]) hx hb dL_law_1496 hl (by decide) rfl (fun ls hl => ?_)
  refine lv_aload_n hx hb dL_law_1498 rfl (lv_at hl 3 rfl) ?_
  refine lk_arg F hW (lv_at hl 1 rfl) (lv_at hl 5 rfl) (j := 1) (by omega) rfl dL_law_1499 dL_law_1500 dL_law_1502 dL_law_1503 dL_law_1504 ?_
  refine mk_goIE (EmbMT cg ad) (va_runV (As := [.int (iI (xs (i + 1)).toInt)]) (rest := []) ⟨hx, hb, hml, hown, hts⟩ (m_carried l cg D (fun j => ad (74 + j)) (sub emM st1) (xR st) (xD st) (by rw [e2]; exact hX.1) (by rw [e2]; exact hX.rows) ((xs (i + 1)).toInt) (iI_rng (xs (i + 1)))) (cwV 1 hts gL_law_X6_carried rfl rfl rfl (by decide +kernel) ⟨Nat.le_of_ble_eq_true rfl, Nat.le_of_ble_eq_true rfl⟩) (mk_preV hK hN (hW.emb (EmbMT cg ad)) 0 (by decide) rfl rfl rfl) rfl rfl hl.1 rfl (lv_room (Nat.le_of_ble_eq_true rfl)) dL_law_1505 ⟨show 100 + i + 1 ≤ 601024 by omega, show 5674 + 6 * i + 6 ≤ 7293034 by omega⟩) hW (fun z2 u2 hp2 H locs hW => ?_)
  rw [e2] at hp2
  obtain ⟨b2, hp2, hbe⟩ := hp2
  obtain ⟨s1, s2, s3⟩ := POR.f (fun _ _ g1 g2 => P_carried_f _ _ _ _ g1 g2) hp hp2
  obtain ⟨st2, e3⟩ : ∃ q, q = up 26 emM u2 st1 := ⟨_, rfl⟩
  rw [← e3] at hW
  have hX2 : XI st2 (sub emM st2) := by rw [e3]; exact inv_next (st := st) hX1 (by rw [s3]; exact hbe)
  have h29 : st2 74 29 = z := by
    rw [e3]
    show up 26 emM u2 st1 (emM 0) 29 = z
    rw [up_in emM_inj (by decide)]
    exact s1.symm
  have h73 : z = 0 → st2 73 0 = wr z2 := fun h => by rw [e3, up_m_lo (by decide), e1, up_w (by decide), hout h, s2 h]
  refine W.widen (show 100 + i + 1 ≤ 100 + (i + 5) by omega) (show 5674 + 6 * i + 6 ≤ 5674 + 6 * (i + 5) by omega) ?_
  exact lk_tail F hl hW (POR.k hp) h29 h73 ⟨by omega, by omega⟩ (by decide) dL_law_1508 dL_law_1510 dL_law_1511 dL_law_1514 dL_law_1516 dL_law_1521 dL_law_1523 dL_law_1526 dL_law_1527 dL_law_1528 dL_law_1529 dL_law_1531 dL_law_1532 dL_law_1533 dL_law_1538 (fun ls H locs h1 h2 => kk ls st2 H locs h1 h2 hX2)
set_option maxHeartbeats 2000000 in
set_option maxRecDepth 100000 in
theorem lc_taxable (F : LC p l s m meth c b L xs cg D) {i : Nat} (hi : i + 5 ≤ L) (hl : lv_has ls 7 [(0, .ref b), (1, .ref (ad 0)), (2, .ref (ad 74)), (3, .ref (ad 73)), (4, .int (iI (i : Int)))]) (hW : GW D vwCl 100 (celT cg) ad (fun q => s.heap.size ≤ q) s.heap st H locs) (hX : XI st (sub emM st))
    (kk : ∀ (ls : Array Slot) (st : Nat → Nat → Int) (H : Heap) (locs : List Loc), lv_has ls 7 [(0, .ref b), (1, .ref (ad 0)), (2, .ref (ad 74)), (3, .ref (ad 73)), (4, .int (iI (i : Int)))] → GW D vwCl 100 (celT cg) ad (fun q => s.heap.size ≤ q) s.heap st H locs → XI st (sub emM st) → W p l e room_1 s m #[Value.ref b] below meth c H locs (100 + (i + 5)) (5674 + 6 * (i + 5)) Q (F0 m 1597 ls [])) : W p l e room_1 s m #[Value.ref b] below meth c H locs (100 + i) (5674 + 6 * i) Q (F0 m 1541 ls []) := by
  obtain ⟨hx, hb, hr, hml, hown, hts, hXs, hbl, hlocks, hst, hK, hN, hxK, hxZ, hxN, hL⟩ := id F
  refine lv_aload_n hx hb dL_law_1541 rfl (lv_at hl 1 rfl) ?_
  refine lk_arg F hW (lv_at hl 0 rfl) (lv_at hl 4 rfl) (j := 1) (by omega) rfl dL_law_1542 dL_law_1543 dL_law_1545 dL_law_1546 dL_law_1547 ?_
  refine lv_aload_n hx hb dL_law_1548 rfl (lv_at hl 3 rfl) ?_
  refine mw_goIE (EmbWT cg ad) (vx_runSW (As := [.ref (ad 0), .int (iI (xs (i + 1)).toInt), .ref (ad 73)]) (rest := []) ⟨hx, hb, hml, hown, hts⟩ (w_taxable l cg D ad st hst (sub emM st) hX ((xs (i + 1)).toInt) (iI_rng (xs (i + 1)))) (vx_cwSW 3 hts gL_law_L_taxable rfl rfl rfl (by decide +kernel) ⟨Nat.le_of_ble_eq_true rfl, Nat.le_of_ble_eq_true rfl⟩) (mw_preS hK hN hxK hxZ hxN (hW.emb (EmbWT cg ad))) rfl rfl hl.1 rfl (lv_room (Nat.le_of_ble_eq_true rfl)) dL_law_1549 ⟨show 100 + i + 1 ≤ 601024 by omega, show 5674 + 6 * i + 6 ≤ 7293034 by omega⟩) hW (fun z u hp H locs hW => ?_)
  obtain ⟨st1, e1⟩ : ∃ q, q = up 74 (fun k => k) u st := ⟨_, rfl⟩
  rw [← e1] at hW
  have e2 : sub emM st1 = sub emM st := by rw [e1]; exact sub_wm u st
  obtain ⟨v, b1, hp, hXu, hout⟩ := hp
  have hX1 : XI st1 b1 := hXu.on fun k hk => by rw [e1]; exact up_w (by omega) u st
  refine lv_istore (lv' := [(5, .int (iI z)), (0, .ref b), (1, .ref (ad 0)), (2, .ref (ad 74)), (3, .ref (ad 73)), (4, .int (iI (i : Int)))]) hx hb dL_law_1552 hl (by decide) rfl (fun ls hl => ?_)
  refine lv_aload_n hx hb dL_law_1554 rfl (lv_at hl 3 rfl) ?_
  refine lk_arg F hW (lv_at hl 1 rfl) (lv_at hl 5 rfl) (j := 1) (by omega) rfl dL_law_1555 dL_law_1556 dL_law_1558 dL_law_1559 dL_law_1560 ?_
  refine mk_goIE (EmbMT cg ad) (va_runV (As := [.int (iI (xs (i + 1)).toInt)]) (rest := []) ⟨hx, hb, hml, hown, hts⟩ (m_taxable l cg D (fun j => ad (74 + j)) (sub emM st1) (xR st) (xD st) (by rw [e2]; exact hX.1) (by rw [e2]; exact hX.rows) ((xs (i + 1)).toInt) (iI_rng (xs (i + 1)))) (cwV 1 hts gL_law_X6_taxable rfl rfl rfl (by decide +kernel) ⟨Nat.le_of_ble_eq_true rfl, Nat.le_of_ble_eq_true rfl⟩) (mk_preV hK hN (hW.emb (EmbMT cg ad)) 0 (by decide) rfl rfl rfl) rfl rfl hl.1 rfl (lv_room (Nat.le_of_ble_eq_true rfl)) dL_law_1561 ⟨show 100 + i + 1 ≤ 601024 by omega, show 5674 + 6 * i + 6 ≤ 7293034 by omega⟩) hW (fun z2 u2 hp2 H locs hW => ?_)
  rw [e2] at hp2
  obtain ⟨b2, hp2, hbe⟩ := hp2
  obtain ⟨s1, s2, s3⟩ := POR.f (fun _ _ g1 g2 => P_taxable_f _ _ _ _ g1 g2) hp hp2
  obtain ⟨st2, e3⟩ : ∃ q, q = up 26 emM u2 st1 := ⟨_, rfl⟩
  rw [← e3] at hW
  have hX2 : XI st2 (sub emM st2) := by rw [e3]; exact inv_next (st := st) hX1 (by rw [s3]; exact hbe)
  have h29 : st2 74 29 = z := by
    rw [e3]
    show up 26 emM u2 st1 (emM 0) 29 = z
    rw [up_in emM_inj (by decide)]
    exact s1.symm
  have h73 : z = 0 → st2 73 0 = wr z2 := fun h => by rw [e3, up_m_lo (by decide), e1, up_w (by decide), hout h, s2 h]
  refine W.widen (show 100 + i + 1 ≤ 100 + (i + 5) by omega) (show 5674 + 6 * i + 6 ≤ 5674 + 6 * (i + 5) by omega) ?_
  exact lk_tail F hl hW (POR.k hp) h29 h73 ⟨by omega, by omega⟩ (by decide) dL_law_1564 dL_law_1566 dL_law_1567 dL_law_1570 dL_law_1572 dL_law_1577 dL_law_1579 dL_law_1582 dL_law_1583 dL_law_1584 dL_law_1585 dL_law_1587 dL_law_1588 dL_law_1589 dL_law_1594 (fun ls H locs h1 h2 => kk ls st2 H locs h1 h2 hX2)
end LAWC

