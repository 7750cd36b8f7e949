section LAWC
variable {p : Program} {l : Launch} {e : Env} {R : Room} {s : State} {m : MethodId} {args : Array Value} {below : List Frame} {meth : Method} {c : Code} {H : Heap} {locs : List Loc} {cells slots : Nat} {Q : State → Prop}
variable {cc : ByteArray} {pc : Nat} {ls : Array Slot} {rest : List Value} {D : va_G} {cl : List vw_C} {A : Nat → Prop} {tys : List (ClassId × FieldType)} {H0 : Heap} {n n' : Nat} {cel cel' : (Nat → Nat) → (Nat → Int) → Nat → va_E} {ad ad' : Nat → Nat} {em : Nat → Nat} {st : Nat → Nat → Int} {cg : Nat → ClassId} {b L : Nat} {xs : Nat → Int32}
set_option maxHeartbeats 2000000 in
set_option maxRecDepth 100000 in
theorem lc_cancel (F : LC p l s m meth c b L xs cg D) {i : Nat} (hi : i + 5 ≤ L) (hl : lv_has ls 7 [(0, .ref b), (1, .ref (ad 0)), (2, .ref (ad 74)), (3, .ref (ad 73)), (4, .int (iI (i : Int)))]) (hW : GW D vwCl 100 (celT cg) ad (fun q => s.heap.size ≤ q) s.heap st H locs) (hX : XI st (sub emM st))
    (kk : ∀ (ls : Array Slot) (st : Nat → Nat → Int) (H : Heap) (locs : List Loc), lv_has ls 7 [(0, .ref b), (1, .ref (ad 0)), (2, .ref (ad 74)), (3, .ref (ad 73)), (4, .int (iI (i : Int)))] → GW D vwCl 100 (celT cg) ad (fun q => s.heap.size ≤ q) s.heap st H locs → XI st (sub emM st) → W p l e room_1 s m #[Value.ref b] below meth c H locs (100 + (i + 5)) (5674 + 6 * (i + 5)) Q (F0 m 1597 ls [])) : W p l e room_1 s m #[Value.ref b] below meth c H locs (100 + i) (5674 + 6 * i) Q (F0 m 408 ls []) := by
  obtain ⟨hx, hb, hr, hml, hown, hts, hXs, hbl, hlocks, hst, hK, hN, hxK, hxZ, hxN, hL⟩ := id F
  refine lv_aload_n hx hb dL_law_408 rfl (lv_at hl 1 rfl) ?_
  refine lk_arg F hW (lv_at hl 0 rfl) (lv_at hl 4 rfl) (j := 1) (by omega) rfl dL_law_409 dL_law_410 dL_law_412 dL_law_413 dL_law_414 ?_
  refine mw_goIE (EmbWT cg ad) (vx_runSW (As := [.ref (ad 0), .int (iI (xs (i + 1)).toInt)]) (rest := []) ⟨hx, hb, hml, hown, hts⟩ (w_cancel l cg D ad st hst (sub emM st) hX ((xs (i + 1)).toInt) (iI_rng (xs (i + 1)))) (vx_cwSW 2 hts gL_law_L_cancel rfl rfl rfl (by decide +kernel) ⟨Nat.le_of_ble_eq_true rfl, Nat.le_of_ble_eq_true rfl⟩) (mw_preS hK hN hxK hxZ hxN (hW.emb (EmbWT cg ad))) rfl rfl hl.1 rfl (lv_room (Nat.le_of_ble_eq_true rfl)) dL_law_415 ⟨show 100 + i + 1 ≤ 601024 by omega, show 5674 + 6 * i + 6 ≤ 7293034 by omega⟩) hW (fun z u hp H locs hW => ?_)
  obtain ⟨st1, e1⟩ : ∃ q, q = up 74 (fun k => k) u st := ⟨_, rfl⟩
  rw [← e1] at hW
  have e2 : sub emM st1 = sub emM st := by rw [e1]; exact sub_wm u st
  obtain ⟨v, b1, hp, hXu⟩ := hp
  have hX1 : XI st1 b1 := hXu.on fun k hk => by rw [e1]; exact up_w (by omega) u st
  refine lv_istore (lv' := [(5, .int (iI z)), (0, .ref b), (1, .ref (ad 0)), (2, .ref (ad 74)), (3, .ref (ad 73)), (4, .int (iI (i : Int)))]) hx hb dL_law_418 hl (by decide) rfl (fun ls hl => ?_)
  refine lv_aload_n hx hb dL_law_420 rfl (lv_at hl 3 rfl) ?_
  refine lk_arg F hW (lv_at hl 1 rfl) (lv_at hl 5 rfl) (j := 1) (by omega) rfl dL_law_421 dL_law_422 dL_law_424 dL_law_425 dL_law_426 ?_
  refine mk_goVE (EmbMT cg ad) (va_runV (As := [.int (iI (xs (i + 1)).toInt)]) (rest := []) ⟨hx, hb, hml, hown, hts⟩ (m_cancel l cg D (fun j => ad (74 + j)) (sub emM st1) (xR st) (xD st) (by rw [e2]; exact hX.1) (by rw [e2]; exact hX.rows) ((xs (i + 1)).toInt) (iI_rng (xs (i + 1)))) (cwV 1 hts gL_law_X6_cancel rfl rfl rfl (by decide +kernel) ⟨Nat.le_of_ble_eq_true rfl, Nat.le_of_ble_eq_true rfl⟩) (mk_preV hK hN (hW.emb (EmbMT cg ad)) 0 (by decide) rfl rfl rfl) rfl rfl hl.1 rfl (lv_room (Nat.le_of_ble_eq_true rfl)) dL_law_427 ⟨show 100 + i + 1 ≤ 601024 by omega, show 5674 + 6 * i + 6 ≤ 7293034 by omega⟩) hW (fun u2 hp2 H locs hW => ?_)
  rw [e2] at hp2
  obtain ⟨z2, b2, hp2, hbe⟩ := hp2
  obtain ⟨s1, s2, s3⟩ := E4.f hp hp2
  obtain ⟨st2, e3⟩ : ∃ q, q = up 26 emM u2 st1 := ⟨_, rfl⟩
  rw [← e3] at hW
  have hX2 : XI st2 (sub emM st2) := by rw [e3]; exact inv_next (st := st) hX1 (by rw [s3]; exact hbe)
  have h29 : st2 74 29 = z := by
    rw [e3]
    show up 26 emM u2 st1 (emM 0) 29 = z
    rw [up_in emM_inj (by decide)]
    exact s1.symm
  refine W.widen (show 100 + i + 1 ≤ 100 + (i + 5) by omega) (show 5674 + 6 * i + 6 ≤ 5674 + 6 * (i + 5) by omega) ?_
  refine lv_aload_n hx hb dL_law_430 rfl (lv_at hl 3 rfl) ?_
  refine mk_goIE (EmbMT cg ad) (va_runV (As := []) (rest := []) ⟨hx, hb, hml, hown, hts⟩ (c_X6_thrown l cg D (fun j => ad (74 + j)) (sub emM st2)) (cwV 0 hts gL_law_X6_thrown rfl rfl rfl (by decide +kernel) ⟨Nat.le_of_ble_eq_true rfl, Nat.le_of_ble_eq_true rfl⟩) (mk_preV hK hN (hW.emb (EmbMT cg ad)) 0 (by decide) rfl rfl rfl) rfl rfl hl.1 rfl (lv_room (Nat.le_of_ble_eq_true rfl)) dL_law_431 ⟨show 100 + (i + 5) ≤ 601024 by omega, show 5674 + 6 * (i + 5) ≤ 7293034 by omega⟩) hW (fun z3 u3 hp3 H locs hW => ?_)
  obtain ⟨g1, g2⟩ := hp3
  rw [g1, up_self emM_inj] at hW
  have g3 : z3 = z := g2.trans h29
  refine lv_iload hx hb dL_law_434 (lv_at hl 0 rfl) ?_
  refine lv_icmp_eq (tgt := 441) hx hb dL_law_436 (by decide) (fun _ => ?_) (fun h => absurd (by rw [g3]) h)
  refine lv_goto (tgt := 1597) hx hb dL_law_441 (by decide) ?_
  exact kk _ _ _ _ (lv_sub hl [1, 2, 3, 4, 5] rfl) hW hX2
set_option maxHeartbeats 2000000 in
set_option maxRecDepth 100000 in
theorem lc_setAllowance (F : LC p l s m meth c b L xs cg D) {i : Nat} (hi : i + 5 ≤ L) (hl : lv_has ls 7 [(0, .ref b), (1, .ref (ad 0)), (2, .ref (ad 74)), (3, .ref (ad 73)), (4, .int (iI (i : Int)))]) (hW : GW D vwCl 100 (celT cg) ad (fun q => s.heap.size ≤ q) s.heap st H locs) (hX : XI st (sub emM st))
    (kk : ∀ (ls : Array Slot) (st : Nat → Nat → Int) (H : Heap) (locs : List Loc), lv_has ls 7 [(0, .ref b), (1, .ref (ad 0)), (2, .ref (ad 74)), (3, .ref (ad 73)), (4, .int (iI (i : Int)))] → GW D vwCl 100 (celT cg) ad (fun q => s.heap.size ≤ q) s.heap st H locs → XI st (sub emM st) → W p l e room_1 s m #[Value.ref b] below meth c H locs (100 + (i + 5)) (5674 + 6 * (i + 5)) Q (F0 m 1597 ls [])) : W p l e room_1 s m #[Value.ref b] below meth c H locs (100 + i) (5674 + 6 * i) Q (F0 m 444 ls []) := by
  obtain ⟨hx, hb, hr, hml, hown, hts, hXs, hbl, hlocks, hst, hK, hN, hxK, hxZ, hxN, hL⟩ := id F
  refine lv_aload_n hx hb dL_law_444 rfl (lv_at hl 1 rfl) ?_
  refine lk_arg F hW (lv_at hl 0 rfl) (lv_at hl 4 rfl) (j := 1) (by omega) rfl dL_law_445 dL_law_446 dL_law_448 dL_law_449 dL_law_450 ?_
  refine lk_arg F hW (lv_at hl 0 rfl) (lv_at hl 4 rfl) (j := 2) (by omega) rfl dL_law_451 dL_law_452 dL_law_454 dL_law_455 dL_law_456 ?_
  refine lv_aload_n hx hb dL_law_457 rfl (lv_at hl 3 rfl) ?_
  refine mw_goIE (EmbWT cg ad) (vx_runSW (As := [.ref (ad 0), .int (iI (xs (i + 1)).toInt), .int (iI (xs (i + 2)).toInt), .ref (ad 73)]) (rest := []) ⟨hx, hb, hml, hown, hts⟩ (w_setAllowance l cg D ad st hst (sub emM st) hX ((xs (i + 1)).toInt) ((xs (i + 2)).toInt) (iI_rng (xs (i + 1))) (iI_rng (xs (i + 2)))) (vx_cwSW 4 hts gL_law_L_setAllowance rfl rfl rfl (by decide +kernel) ⟨Nat.le_of_ble_eq_true rfl, Nat.le_of_ble_eq_true rfl⟩) (mw_preS hK hN hxK hxZ hxN (hW.emb (EmbWT cg ad))) rfl rfl hl.1 rfl (lv_room (Nat.le_of_ble_eq_true rfl)) dL_law_458 ⟨show 100 + i + 1 ≤ 601024 by omega, show 5674 + 6 * i + 6 ≤ 7293034 by omega⟩) hW (fun z u hp H locs hW => ?_)
  obtain ⟨st1, e1⟩ : ∃ q, q = up 74 (fun k => k) u st := ⟨_, rfl⟩
  rw [← e1] at hW
  have e2 : sub emM st1 = sub emM st := by rw [e1]; exact sub_wm u st
  obtain ⟨v, b1, hp, hXu, hout⟩ := hp
  have hX1 : XI st1 b1 := hXu.on fun k hk => by rw [e1]; exact up_w (by omega) u st
  refine lv_istore (lv' := [(5, .int (iI z)), (0, .ref b), (1, .ref (ad 0)), (2, .ref (ad 74)), (3, .ref (ad 73)), (4, .int (iI (i : Int)))]) hx hb dL_law_461 hl (by decide) rfl (fun ls hl => ?_)
  refine lv_aload_n hx hb dL_law_463 rfl (lv_at hl 3 rfl) ?_
  refine lk_arg F hW (lv_at hl 1 rfl) (lv_at hl 5 rfl) (j := 1) (by omega) rfl dL_law_464 dL_law_465 dL_law_467 dL_law_468 dL_law_469 ?_
  refine lk_arg F hW (lv_at hl 1 rfl) (lv_at hl 5 rfl) (j := 2) (by omega) rfl dL_law_470 dL_law_471 dL_law_473 dL_law_474 dL_law_475 ?_
  refine mk_goIE (EmbMT cg ad) (va_runV (As := [.int (iI (xs (i + 1)).toInt), .int (iI (xs (i + 2)).toInt)]) (rest := []) ⟨hx, hb, hml, hown, hts⟩ (m_setAllowance l cg D (fun j => ad (74 + j)) (sub emM st1) (xR st) (xD st) (by rw [e2]; exact hX.1) (by rw [e2]; exact hX.rows) ((xs (i + 1)).toInt) ((xs (i + 2)).toInt) (iI_rng (xs (i + 1))) (iI_rng (xs (i + 2)))) (cwV 2 hts gL_law_X6_setAllowance rfl rfl rfl (by decide +kernel) ⟨Nat.le_of_ble_eq_true rfl, Nat.le_of_ble_eq_true rfl⟩) (mk_preV hK hN (hW.emb (EmbMT cg ad)) 0 (by decide) rfl rfl rfl) rfl rfl hl.1 rfl (lv_room (Nat.le_of_ble_eq_true rfl)) dL_law_476 ⟨show 100 + i + 1 ≤ 601024 by omega, show 5674 + 6 * i + 6 ≤ 7293034 by omega⟩) hW (fun z2 u2 hp2 H locs hW => ?_)
  rw [e2] at hp2
  obtain ⟨b2, hp2, hbe⟩ := hp2
  obtain ⟨s1, s2, s3⟩ := E4.f hp hp2
  obtain ⟨st2, e3⟩ : ∃ q, q = up 26 emM u2 st1 := ⟨_, rfl⟩
  rw [← e3] at hW
  have hX2 : XI st2 (sub emM st2) := by rw [e3]; exact inv_next (st := st) hX1 (by rw [s3]; exact hbe)
  have h29 : st2 74 29 = z := by
    rw [e3]
    show up 26 emM u2 st1 (emM 0) 29 = z
    rw [up_in emM_inj (by decide)]
    exact s1.symm
  have h73 : z = 0 → st2 73 0 = wr z2 := fun h => by rw [e3, up_m_lo (by decide), e1, up_w (by decide), hout h, s2 h]
  refine W.widen (show 100 + i + 1 ≤ 100 + (i + 5) by omega) (show 5674 + 6 * i + 6 ≤ 5674 + 6 * (i + 5) by omega) ?_
  exact lk_tail F hl hW (E4.k hp) h29 h73 ⟨by omega, by omega⟩ (by decide) dL_law_479 dL_law_481 dL_law_482 dL_law_485 dL_law_487 dL_law_492 dL_law_494 dL_law_497 dL_law_498 dL_law_499 dL_law_500 dL_law_502 dL_law_503 dL_law_504 dL_law_509 (fun ls H locs h1 h2 => kk ls st2 H locs h1 h2 hX2)
set_option maxHeartbeats 2000000 in
set_option maxRecDepth 100000 in
theorem lc_setWindow (F : LC p l s m meth c b L xs cg D) {i : Nat} (hi : i + 5 ≤ L) (hl : lv_has ls 7 [(0, .ref b), (1, .ref (ad 0)), (2, .ref (ad 74)), (3, .ref (ad 73)), (4, .int (iI (i : Int)))]) (hW : GW D vwCl 100 (celT cg) ad (fun q => s.heap.size ≤ q) s.heap st H locs) (hX : XI st (sub emM st))
    (kk : ∀ (ls : Array Slot) (st : Nat → Nat → Int) (H : Heap) (locs : List Loc), lv_has ls 7 [(0, .ref b), (1, .ref (ad 0)), (2, .ref (ad 74)), (3, .ref (ad 73)), (4, .int (iI (i : Int)))] → GW D vwCl 100 (celT cg) ad (fun q => s.heap.size ≤ q) s.heap st H locs → XI st (sub emM st) → W p l e room_1 s m #[Value.ref b] below meth c H locs (100 + (i + 5)) (5674 + 6 * (i + 5)) Q (F0 m 1597 ls [])) : W p l e room_1 s m #[Value.ref b] below meth c H locs (100 + i) (5674 + 6 * i) Q (F0 m 512 ls []) := by
  obtain ⟨hx, hb, hr, hml, hown, hts, hXs, hbl, hlocks, hst, hK, hN, hxK, hxZ, hxN, hL⟩ := id F
  refine lv_aload_n hx hb dL_law_512 rfl (lv_at hl 1 rfl) ?_
  refine lk_arg F hW (lv_at hl 0 rfl) (lv_at hl 4 rfl) (j := 1) (by omega) rfl dL_law_513 dL_law_514 dL_law_516 dL_law_517 dL_law_518 ?_
  refine lv_aload_n hx hb dL_law_519 rfl (lv_at hl 3 rfl) ?_
  refine mw_goIE (EmbWT cg ad) (vx_runSW (As := [.ref (ad 0), .int (iI (xs (i + 1)).toInt), .ref (ad 73)]) (rest := []) ⟨hx, hb, hml, hown, hts⟩ (w_setWindow l cg D ad st hst (sub emM st) hX ((xs (i + 1)).toInt) (iI_rng (xs (i + 1)))) (vx_cwSW 3 hts gL_law_L_setWindow rfl rfl rfl (by decide +kernel) ⟨Nat.le_of_ble_eq_true rfl, Nat.le_of_ble_eq_true rfl⟩) (mw_preS hK hN hxK hxZ hxN (hW.emb (EmbWT cg ad))) rfl rfl hl.1 rfl (lv_room (Nat.le_of_ble_eq_true rfl)) dL_law_520 ⟨show 100 + i + 1 ≤ 601024 by omega, show 5674 + 6 * i + 6 ≤ 7293034 by omega⟩) hW (fun z u hp H locs hW => ?_)
  obtain ⟨st1, e1⟩ : ∃ q, q = up 74 (fun k => k) u st := ⟨_, rfl⟩
  rw [← e1] at hW
  have e2 : sub emM st1 = sub emM st := by rw [e1]; exact sub_wm u st
  obtain ⟨v, b1, hp, hXu, hout⟩ := hp
  have hX1 : XI st1 b1 := hXu.on fun k hk => by rw [e1]; exact up_w (by omega) u st
  refine lv_istore (lv' := [(5, .int (iI z)), (0, .ref b), (1, .ref (ad 0)), (2, .ref (ad 74)), (3, .ref (ad 73)), (4, .int (iI (i : Int)))]) hx hb dL_law_523 hl (by decide) rfl (fun ls hl => ?_)
  refine lv_aload_n hx hb dL_law_525 rfl (lv_at hl 3 rfl) ?_
  refine lk_arg F hW (lv_at hl 1 rfl) (lv_at hl 5 rfl) (j := 1) (by omega) rfl dL_law_526 dL_law_527 dL_law_529 dL_law_530 dL_law_531 ?_
  refine mk_goIE (EmbMT cg ad) (va_runV (As := [.int (iI (xs (i + 1)).toInt)]) (rest := []) ⟨hx, hb, hml, hown, hts⟩ (m_setWindow l cg D (fun j => ad (74 + j)) (sub emM st1) (xR st) (xD st) (by rw [e2]; exact hX.1) (by rw [e2]; exact hX.rows) ((xs (i + 1)).toInt) (iI_rng (xs (i + 1)))) (cwV 1 hts gL_law_X6_setWindow rfl rfl rfl (by decide +kernel) ⟨Nat.le_of_ble_eq_true rfl, Nat.le_of_ble_eq_true rfl⟩) (mk_preV hK hN (hW.emb (EmbMT cg ad)) 0 (by decide) rfl rfl rfl) rfl rfl hl.1 rfl (lv_room (Nat.le_of_ble_eq_true rfl)) dL_law_532 ⟨show 100 + i + 1 ≤ 601024 by omega, show 5674 + 6 * i + 6 ≤ 7293034 by omega⟩) hW (fun z2 u2 hp2 H locs hW => ?_)
  rw [e2] at hp2
  obtain ⟨b2, hp2, hbe⟩ := hp2
  obtain ⟨s1, s2, s3⟩ := E4.f hp hp2
  obtain ⟨st2, e3⟩ : ∃ q, q = up 26 emM u2 st1 := ⟨_, rfl⟩
  rw [← e3] at hW
  have hX2 : XI st2 (sub emM st2) := by rw [e3]; exact inv_next (st := st) hX1 (by rw [s3]; exact hbe)
  have h29 : st2 74 29 = z := by
    rw [e3]
    show up 26 emM u2 st1 (emM 0) 29 = z
    rw [up_in emM_inj (by decide)]
    exact s1.symm
  have h73 : z = 0 → st2 73 0 = wr z2 := fun h => by rw [e3, up_m_lo (by decide), e1, up_w (by decide), hout h, s2 h]
  refine W.widen (show 100 + i + 1 ≤ 100 + (i + 5) by omega) (show 5674 + 6 * i + 6 ≤ 5674 + 6 * (i + 5) by omega) ?_
  exact lk_tail F hl hW (E4.k hp) h29 h73 ⟨by omega, by omega⟩ (by decide) dL_law_535 dL_law_537 dL_law_538 dL_law_541 dL_law_543 dL_law_548 dL_law_550 dL_law_553 dL_law_554 dL_law_555 dL_law_556 dL_law_558 dL_law_559 dL_law_560 dL_law_565 (fun ls H locs h1 h2 => kk ls st2 H locs h1 h2 hX2)
set_option maxHeartbeats 2000000 in
set_option maxRecDepth 100000 in
theorem lc_trades (F : LC p l s m meth c b L xs cg D) {i : Nat} (hi : i + 5 ≤ L) (hl : lv_has ls 7 [(0, .ref b), (1, .ref (ad 0)), (2, .ref (ad 74)), (3, .ref (ad 73)), (4, .int (iI (i : Int)))]) (hW : GW D vwCl 100 (celT cg) ad (fun q => s.heap.size ≤ q) s.heap st H locs) (hX : XI st (sub emM st))
    (kk : ∀ (ls : Array Slot) (st : Nat → Nat → Int) (H : Heap) (locs : List Loc), lv_has ls 7 [(0, .ref b), (1, .ref (ad 0)), (2, .ref (ad 74)), (3, .ref (ad 73)), (4, .int (iI (i : Int)))] → GW D vwCl 100 (celT cg) ad (fun q => s.heap.size ≤ q) s.heap st H locs → XI st (sub emM st) → W p l e room_1 s m #[Value.ref b] below meth c H locs (100 + (i + 5)) (5674 + 6 * (i + 5)) Q (F0 m 1597 ls [])) : W p l e room_1 s m #[Value.ref b] below meth c H locs (100 + i) (5674 + 6 * i) Q (F0 m 568 ls []) := by
  obtain ⟨hx, hb, hr, hml, hown, hts, hXs, hbl, hlocks, hst, hK, hN, hxK, hxZ, hxN, hL⟩ := id F
  refine lv_aload_n hx hb dL_law_568 rfl (lv_at hl 1 rfl) ?_
  refine mk_goIE (EmbXT cg ad) (va_runV (As := []) (rest := []) ⟨hx, hb, hml, hown, hts⟩ (c_X5_trades l cg D ad st (sub emM st) hX) (cwV 0 hts gL_law_X5_trades rfl rfl rfl (by decide +kernel) ⟨Nat.le_of_ble_eq_true rfl, Nat.le_of_ble_eq_true rfl⟩) (mk_preV hK hN (hW.emb (EmbXT cg ad)) 0 (by decide) rfl rfl rfl) rfl rfl hl.1 rfl (lv_room (Nat.le_of_ble_eq_true rfl)) dL_law_569 ⟨show 100 + i ≤ 601024 by omega, show 5674 + 6 * i ≤ 7293034 by omega⟩) hW (fun z u hp H locs hW => ?_)
  obtain ⟨g1, g2⟩ := hp
  rw [g1] at hW
  have hW : GW D vwCl 100 (celT cg) ad (fun q => s.heap.size ≤ q) s.heap (up 73 (fun k => k) (sub (fun k => k) st) st) H locs := hW
  rw [up_self (em := fun k => k) (fun _ _ _ _ h => h)] at hW
  refine lv_aload_n hx hb dL_law_572 rfl (lv_at hl 2 rfl) ?_
  refine mk_goIE (EmbMT cg ad) (va_runV (As := []) (rest := [.int (iI z)]) ⟨hx, hb, hml, hown, hts⟩ (c_X6_trades l cg D (fun j => ad (74 + j)) (sub emM st)) (cwV 0 hts gL_law_X6_trades rfl rfl rfl (by decide +kernel) ⟨Nat.le_of_ble_eq_true rfl, Nat.le_of_ble_eq_true rfl⟩) (mk_preV hK hN (hW.emb (EmbMT cg ad)) 0 (by decide) rfl rfl rfl) rfl rfl hl.1 rfl (lv_room (Nat.le_of_ble_eq_true rfl)) dL_law_573 ⟨show 100 + i ≤ 601024 by omega, show 5674 + 6 * i ≤ 7293034 by omega⟩) hW (fun z2 u2 hp2 H locs hW => ?_)
  obtain ⟨g3, g4, g5⟩ := hp2
  obtain ⟨st2, e3⟩ : ∃ q, q = up 26 emM u2 st := ⟨_, rfl⟩
  rw [← e3] at hW
  have hX2 : XI st2 (sub emM st2) := by rw [e3]; exact inv_next (st := st) hX g3.be
  refine lv_icmp_eq (tgt := 1597) hx hb dL_law_576 (by decide) (fun _ => ?_) (fun h => absurd (by rw [g2, g5]) h)
  refine W.widen (show 100 + i ≤ 100 + (i + 5) by omega) (show 5674 + 6 * i ≤ 5674 + 6 * (i + 5) by omega) ?_
  exact kk _ _ _ _ hl hW hX2
end LAWC

