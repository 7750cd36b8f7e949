-- years: the loop and the end
section SG_yl
variable {p : Program} {l : Launch} {e : Env} {s : State} {m : MethodId} {args : Array Value} {below : List Frame} {meth : Method} {c : Code} {H : Heap} {locs : List Loc} {Q : State → Prop} {ls : Array Slot} {D : va_G} {cg : Nat → ClassId} {ad : Nat → Nat} {st : Nat → Nat → Int}
set_option maxHeartbeats 4000000 in
set_option maxRecDepth 100000 in
theorem y_in (F : LX p l s m args meth c cL_years 2 wsL_years cg D (fun q => s.heap.size ≤ q)) (hl : lv_has ls 2 [(0, .ref (ad 0))]) (kk : ∀ (ls : Array Slot), lv_has ls 2 [(1, .int (iI 5)), (0, .ref (ad 0))] → W p l e (headSpec wsL_years ({ frames := 11, cells := 1000, slots := 6000, locals := 250 })).room s m args below meth c H locs 237 4159 Q (F0 m 317 ls [])) : W p l e (headSpec wsL_years ({ frames := 11, cells := 1000, slots := 6000, locals := 250 })).room s m args below meth c H locs 237 4159 Q (F0 m 315 ls []) := by
  obtain ⟨hx, hb, hml, hown, hts, hlocks, hst, hK, hN, hxK, hxZ, hxN⟩ := id F
  refine mk_iconst hx hb (5) dL_years_315 ?_
  refine lv_istore_n (lv' := [(1, .int (iI 5)), (0, .ref (ad 0))]) hx hb dL_years_316 rfl hl (by decide) rfl (fun ls hl => ?_)
  exact kk _ hl
set_option maxHeartbeats 4000000 in
set_option maxRecDepth 100000 in
theorem y_loop (F : LX p l s m args meth c cL_years 2 wsL_years cg D (fun q => s.heap.size ≤ q)) (kk : ∀ (ls : Array Slot) (st : Nat → Nat → Int) (H : Heap) (locs : List Loc), lv_has ls 2 [(1, .int (iI ((60 : Nat) : Int))), (0, .ref (ad 0))] → GW D vwCl 73 (celX cg) ad (fun q => s.heap.size ≤ q) s.heap st H locs → XI st (yB 60) → W p l e (headSpec wsL_years ({ frames := 11, cells := 1000, slots := 6000, locals := 250 })).room s m args below meth c H locs (232 + 60) (4129 + 6 * 60) Q (F0 m 317 ls [])) : ∀ (fuel n : Nat), 60 - n < fuel → 5 ≤ n → n ≤ 60 → ∀ (ls : Array Slot) (st : Nat → Nat → Int) (H : Heap) (locs : List Loc), lv_has ls 2 [(1, .int (iI ((n : Nat) : Int))), (0, .ref (ad 0))] → GW D vwCl 73 (celX cg) ad (fun q => s.heap.size ≤ q) s.heap st H locs → XI st (yB n) → W p l e (headSpec wsL_years ({ frames := 11, cells := 1000, slots := 6000, locals := 250 })).room s m args below meth c H locs (232 + n) (4129 + 6 * n) Q (F0 m 317 ls []) := by
  obtain ⟨hx, hb, hml, hown, hts, hlocks, hst, hK, hN, hxK, hxZ, hxN⟩ := id F
  intro fuel
  induction fuel with
  | zero => intro n h; omega
  | succ fuel ih =>
    intro n hf h5 h6 ls st H locs hl hW hX
    by_cases hq : n = 60
    · subst hq; exact kk ls st H locs hl hW hX
    refine lv_iload_n hx hb dL_years_317 rfl (lv_at hl 0 rfl) ?_
    refine mk_bipush hx hb (61) (by decide +kernel) dL_years_318 ?_
    refine mk_icmp_ge (tgt := 358) hx hb dL_years_320 (by decide) (by omega) (by omega) (fun h => absurd h (by omega)) (fun _ => ?_)
    refine lv_aload_n hx hb dL_years_323 rfl (lv_at hl 1 rfl) ?_
    refine mk_iconst hx hb (0) dL_years_324 ?_
    refine mk_iconst hx hb (1) dL_years_325 ?_
    refine mk_bipush hx hb (30) (by decide +kernel) dL_years_326 ?_
    refine lv_iload_n hx hb dL_years_328 rfl (lv_at hl 0 rfl) ?_
    refine mk_imul hx hb dL_years_329 ?_
    refine mk_iconst hx hb (1) dL_years_330 ?_
    refine lv_iload_n hx hb dL_years_331 rfl (lv_at hl 0 rfl) ?_
    refine mw_goIs (vx_runSW (As := [.ref (ad 0), .int (iI 0), .int (iI 1), .int (iI (30 * ((n : Nat) : Int))), .int (iI 1), .int (iI ((n : Nat) : Int))]) (rest := []) ⟨hx, hb, hml, hown, hts⟩ (c_L_act_buy_ok l cg D ad st 1 (30 * ((n : Nat) : Int)) 1 ((n : Nat) : Int) _ (c_X5_buy_1 l cg D ad st (yB n) hX (30 * ((n : Nat) : Int)) 1 ((n : Nat) : Int) (by rw [yB_N n h5]; omega) (by omega) (by decide) (by omega))) (vx_cwSW 6 hts gL_years_L_act rfl rfl rfl (by decide +kernel) ⟨Nat.le_of_ble_eq_true rfl, Nat.le_of_ble_eq_true rfl⟩) (mw_preS hK hN hxK hxZ hxN hW) rfl rfl hl.1 rfl (lv_room (Nat.le_of_ble_eq_true rfl)) dL_years_332 ⟨show 232 + n + 1 ≤ 1000 by omega, show 4129 + 6 * n + 6 ≤ 6000 by omega⟩) hW (fun z st1 hp H locs hW => ?_)
    obtain ⟨e1, e2⟩ := hp
    rw [← yB_s h5] at e1
    refine mk_sayi (y := ((n : Nat) : Int)) (e2.trans (by rw [yB_N n h5])) ?_
    refine lv_iload_n hx hb dL_years_335 rfl (lv_at hl 0 rfl) ?_
    refine mk_bipush hx hb (60) (by decide +kernel) dL_years_336 ?_
    refine mk_icmp_ge (tgt := 345) hx hb dL_years_338 (by decide) (by omega) (by omega) (fun h => absurd h (by omega)) (fun _ => ?_)
    refine lv_iload_n hx hb dL_years_341 rfl (lv_at hl 0 rfl) ?_
    refine lv_goto (tgt := 347) hx hb dL_years_342 (by decide) ?_
    refine lv_icmp_eq (tgt := 352) hx hb dL_years_347 (by decide) (fun _ => ?_) (fun h => absurd rfl h)
    refine mk_iinc (w := ((n + 1 : Nat) : Int)) (lv' := [(1, .int (iI ((n + 1 : Nat) : Int))), (0, .ref (ad 0))]) hx hb dL_years_352 hl (k := 0) rfl (by omega) (by decide) rfl (fun ls hl => ?_)
    refine lv_goto (tgt := 317) hx hb dL_years_355 (by decide) ?_
    refine W.widen (k := 232 + (n + 1)) (n := 4129 + 6 * (n + 1)) (by omega) (by omega) ?_
    exact ih (n + 1) (by omega) (by omega) (by omega) _ _ _ _ hl hW e1
set_option maxHeartbeats 4000000 in
set_option maxRecDepth 100000 in
theorem y_60 (F : LX p l s m args meth c cL_years 2 wsL_years cg D (fun q => s.heap.size ≤ q)) (hl : lv_has ls 2 [(1, .int (iI 60)), (0, .ref (ad 0))]) (hW : GW D vwCl 73 (celX cg) ad (fun q => s.heap.size ≤ q) s.heap st H locs) (hX : XI st (yB 60)) (kk : ∀ (ls : Array Slot) (st : Nat → Nat → Int) (H : Heap) (locs : List Loc), lv_has ls 2 [(1, .int (iI 61)), (0, .ref (ad 0))] → GW D vwCl 73 (celX cg) ad (fun q => s.heap.size ≤ q) s.heap st H locs → XI st (yB 60) → W p l e (headSpec wsL_years ({ frames := 11, cells := 1000, slots := 6000, locals := 250 })).room s m args below meth c H locs 293 4495 Q (F0 m 358 ls [])) : W p l e (headSpec wsL_years ({ frames := 11, cells := 1000, slots := 6000, locals := 250 })).room s m args below meth c H locs 292 4489 Q (F0 m 317 ls []) := by
  obtain ⟨hx, hb, hml, hown, hts, hlocks, hst, hK, hN, hxK, hxZ, hxN⟩ := id F
  have hn : st 1 6 = (60 : Nat) := by
    have h1 := hX.2.1.n hX.1.j
    rw [yB_N 60 (by omega)] at h1
    exact h1
  refine lv_iload_n hx hb dL_years_317 rfl (lv_at hl 0 rfl) ?_
  refine mk_bipush hx hb (61) (by decide +kernel) dL_years_318 ?_
  refine mk_icmp_ge (tgt := 358) hx hb dL_years_320 (by decide) (by decide) (by decide) (fun h => absurd h (by decide)) (fun _ => ?_)
  refine lv_aload_n hx hb dL_years_323 rfl (lv_at hl 1 rfl) ?_
  refine mk_iconst hx hb (0) dL_years_324 ?_
  refine mk_iconst hx hb (1) dL_years_325 ?_
  refine mk_bipush hx hb (30) (by decide +kernel) dL_years_326 ?_
  refine lv_iload_n hx hb dL_years_328 rfl (lv_at hl 0 rfl) ?_
  refine mk_imul hx hb dL_years_329 ?_
  refine mk_sayi (y := 1800) (by decide) ?_
  refine mk_iconst hx hb (1) dL_years_330 ?_
  refine lv_iload_n hx hb dL_years_331 rfl (lv_at hl 0 rfl) ?_
  refine mw_goIs (vx_runSW (As := [.ref (ad 0), .int (iI 0), .int (iI 1), .int (iI 1800), .int (iI 1), .int (iI 60)]) (rest := []) ⟨hx, hb, hml, hown, hts⟩ (c_L_act_buy_no3 l cg D ad st 1 1800 1 60 (c_X5_buy_noR_1 l cg D ad st hst 1800 1 60 (by decide) (by decide) (by decide) hn)) (vx_cwSW 6 hts gL_years_L_act rfl rfl rfl (by decide +kernel) ⟨Nat.le_of_ble_eq_true rfl, Nat.le_of_ble_eq_true rfl⟩) (mw_preS hK hN hxK hxZ hxN hW) rfl rfl hl.1 rfl (lv_room (Nat.le_of_ble_eq_true rfl)) dL_years_332 ⟨Nat.le_of_ble_eq_true rfl, Nat.le_of_ble_eq_true rfl⟩) hW (fun z st1 hp H locs hW => ?_)
  obtain ⟨e1, e2⟩ := hp
  rw [e2] at hW
  subst e1
  refine lv_iload_n hx hb dL_years_335 rfl (lv_at hl 0 rfl) ?_
  refine mk_bipush hx hb (60) (by decide +kernel) dL_years_336 ?_
  refine mk_icmp_ge (tgt := 345) hx hb dL_years_338 (by decide) (by decide) (by decide) (fun _ => ?_) (fun h => absurd h (by decide))
  refine mk_bipush hx hb (-93) (by decide +kernel) dL_years_345 ?_
  refine mk_icmp_eq (tgt := 352) hx hb dL_years_347 (by decide) (by decide) (by decide) (fun _ => ?_) (fun h => absurd h (by decide))
  refine mk_iinc (w := 61) (lv' := [(1, .int (iI 61)), (0, .ref (ad 0))]) hx hb dL_years_352 hl (k := 0) rfl (by omega) (by decide) rfl (fun ls hl => ?_)
  refine lv_goto (tgt := 317) hx hb dL_years_355 (by decide) ?_
  refine lv_iload_n hx hb dL_years_317 rfl (lv_at hl 0 rfl) ?_
  refine mk_bipush hx hb (61) (by decide +kernel) dL_years_318 ?_
  refine mk_icmp_ge (tgt := 358) hx hb dL_years_320 (by decide) (by decide) (by decide) (fun _ => ?_) (fun h => absurd h (by decide))
  exact kk _ _ _ _ hl hW hX
set_option maxHeartbeats 4000000 in
set_option maxRecDepth 100000 in
theorem y_tail (F : LX p l s m args meth c cL_years 2 wsL_years cg D (fun q => s.heap.size ≤ q)) (hr : meth.sig.returnType = some .boolean) (hbb : ∀ e, 0 ≤ bH by9 1 e) (hl : lv_has ls 2 [(1, .int (iI 61)), (0, .ref (ad 0))]) (hW : GW D vwCl 73 (celX cg) ad (fun q => s.heap.size ≤ q) s.heap st H locs) (hX : XI st (yB 60)) : W p l e (headSpec wsL_years ({ frames := 11, cells := 1000, slots := 6000, locals := 250 })).room s m args below meth c H locs 293 4495 (MQ below (va_Qi (fun (r : Int32) (_ : Unit) => r = iI 1) (fun _ _ => True) (fun _ => False)) args s 1000 6000 (fun _ => False)) (F0 m 358 ls []) := by
  obtain ⟨hx, hb, hml, hown, hts, hlocks, hst, hK, hN, hxK, hxZ, hxN⟩ := id F
  have hn : st 1 6 = (60 : Nat) := by
    have h1 := hX.2.1.n hX.1.j
    rw [yB_N 60 (by omega)] at h1
    exact h1
  refine lv_aload_n hx hb dL_years_358 rfl (lv_at hl 1 rfl) ?_
  refine mk_iconst hx hb (1) dL_years_359 ?_
  refine mk_iconst hx hb (1) dL_years_360 ?_
  refine mk_sipush hx hb (1824) (by decide +kernel) dL_years_361 ?_
  refine mk_iconst hx hb (1) dL_years_364 ?_
  refine mk_iconst hx hb (0) dL_years_365 ?_
  refine mw_goIs (vx_runSW (As := [.ref (ad 0), .int (iI 1), .int (iI 1), .int (iI 1824), .int (iI 1), .int (iI 0)]) (rest := []) ⟨hx, hb, hml, hown, hts⟩ (c_L_act_sell_no3 l cg D ad st 1 1824 1 0 (c_X5_sell_noR_1 l cg D ad st hst 1824 1 0 (by decide) (by decide) (by decide) hn)) (vx_cwSW 6 hts gL_years_L_act rfl rfl rfl (by decide +kernel) ⟨Nat.le_of_ble_eq_true rfl, Nat.le_of_ble_eq_true rfl⟩) (mw_preS hK hN hxK hxZ hxN hW) rfl rfl hl.1 rfl (lv_room (Nat.le_of_ble_eq_true rfl)) dL_years_366 ⟨Nat.le_of_ble_eq_true rfl, Nat.le_of_ble_eq_true rfl⟩) hW (fun z st1 hp H locs hW => ?_)
  obtain ⟨e1, e2⟩ := hp
  rw [e2] at hW
  subst e1
  refine mk_bipush hx hb (-93) (by decide +kernel) dL_years_369 ?_
  refine mk_icmp_ne (tgt := 430) hx hb dL_years_371 (by decide) (by decide) (by decide) (fun h => absurd h (by decide)) (fun _ => ?_)
  refine lv_aload_n hx hb dL_years_374 rfl (lv_at hl 1 rfl) ?_
  refine mk_bipush hx hb (59) (by decide +kernel) dL_years_375 ?_
  refine mw_goIs (vx_runSW (As := [.ref (ad 0), .int (iI 59)]) (rest := []) ⟨hx, hb, hml, hown, hts⟩ (c_L_cancel_cancel_ok l cg D ad st 59 _ (c_X5_cancel_1 l cg D ad st (yB 60) hX 59 (by rw [yB_N 60 (by omega)]; omega) y60_6 y60_1 (fun _ => y60_sp hbb))) (vx_cwSW 2 hts gL_years_L_cancel rfl rfl rfl (by decide +kernel) ⟨Nat.le_of_ble_eq_true rfl, Nat.le_of_ble_eq_true rfl⟩) (mw_preS hK hN hxK hxZ hxN hW) rfl rfl hl.1 rfl (lv_room (Nat.le_of_ble_eq_true rfl)) dL_years_377 ⟨Nat.le_of_ble_eq_true rfl, Nat.le_of_ble_eq_true rfl⟩) hW (fun z st1 hp H locs hW => ?_)
  obtain ⟨e1, e2⟩ := hp
  subst e1
  obtain ⟨st, e3⟩ : ∃ q, q = st1 := ⟨_, rfl⟩
  rw [← e3] at hW e2
  have hX : XI st (canM (yB 60) 59) := e2
  have hn : st 1 6 = (60 : Nat) := by
    have h1 := hX.2.1.n hX.1.j
    rw [canM_Nq, yB_N 60 (by omega)] at h1
    exact h1
  refine mk_if_ne (tgt := 430) hx hb dL_years_380 (by decide) (by decide) (fun h => absurd h (by decide)) (fun _ => ?_)
  refine lv_aload_n hx hb dL_years_383 rfl (lv_at hl 1 rfl) ?_
  refine mk_iconst hx hb (0) dL_years_384 ?_
  refine mk_iconst hx hb (1) dL_years_385 ?_
  refine mk_iconst hx hb (0) dL_years_386 ?_
  refine mk_iconst hx hb (1) dL_years_387 ?_
  refine mk_iconst hx hb (0) dL_years_388 ?_
  refine mw_goIs (vx_runSW (As := [.ref (ad 0), .int (iI 0), .int (iI 1), .int (iI 0), .int (iI 1), .int (iI 0)]) (rest := []) ⟨hx, hb, hml, hown, hts⟩ (c_L_act_buy_no3 l cg D ad st 1 0 1 0 (c_X5_buy_noR_1 l cg D ad st hst 0 1 0 (by decide) (by decide) (by decide) hn)) (vx_cwSW 6 hts gL_years_L_act rfl rfl rfl (by decide +kernel) ⟨Nat.le_of_ble_eq_true rfl, Nat.le_of_ble_eq_true rfl⟩) (mw_preS hK hN hxK hxZ hxN hW) rfl rfl hl.1 rfl (lv_room (Nat.le_of_ble_eq_true rfl)) dL_years_389 ⟨Nat.le_of_ble_eq_true rfl, Nat.le_of_ble_eq_true rfl⟩) hW (fun z st1 hp H locs hW => ?_)
  obtain ⟨e1, e2⟩ := hp
  rw [e2] at hW
  subst e1
  refine mk_bipush hx hb (-93) (by decide +kernel) dL_years_392 ?_
  refine mk_icmp_ne (tgt := 430) hx hb dL_years_394 (by decide) (by decide) (by decide) (fun h => absurd h (by decide)) (fun _ => ?_)
  refine lv_aload_n hx hb dL_years_397 rfl (lv_at hl 1 rfl) ?_
  refine mk_goI (va_runV (As := []) (rest := []) ⟨hx, hb, hml, hown, hts⟩ (c_X5_trades l cg D ad st (canM (yB 60) 59) hX) (cwV 0 hts gL_years_X5_trades rfl rfl rfl (by decide +kernel) ⟨Nat.le_of_ble_eq_true rfl, Nat.le_of_ble_eq_true rfl⟩) (mk_preV hK hN hW 0 (by decide) rfl rfl rfl) rfl rfl hl.1 rfl (lv_room (Nat.le_of_ble_eq_true rfl)) dL_years_398 ⟨Nat.le_of_ble_eq_true rfl, Nat.le_of_ble_eq_true rfl⟩) hW (fun z st1 hp H locs hW => ?_)
  obtain ⟨e1, e2⟩ := hp
  rw [e1] at hW
  refine mk_sayi (y := 60) (e2.trans (hX.1.1.trans (by rw [canM_Nq, yB_N 60 (by omega)]; rfl))) ?_
  refine mk_bipush hx hb (60) (by decide +kernel) dL_years_401 ?_
  refine mk_icmp_ne (tgt := 430) hx hb dL_years_403 (by decide) (by decide) (by decide) (fun h => absurd h (by decide)) (fun _ => ?_)
  refine lv_aload_n hx hb dL_years_406 rfl (lv_at hl 1 rfl) ?_
  refine mk_iconst hx hb (1) dL_years_407 ?_
  refine mk_sipush hx hb (1824) (by decide +kernel) dL_years_408 ?_
  refine mk_goI (va_runV (As := [.int (iI 1), .int (iI 1824)]) (rest := []) ⟨hx, hb, hml, hown, hts⟩ (c_X5_holding_1 l cg D ad st (canM (yB 60) 59) hX 1824 (by decide)) (cwV 2 hts gL_years_X5_holding rfl rfl rfl (by decide +kernel) ⟨Nat.le_of_ble_eq_true rfl, Nat.le_of_ble_eq_true rfl⟩) (mk_preV hK hN hW 0 (by decide) rfl rfl rfl) rfl rfl hl.1 rfl (lv_room (Nat.le_of_ble_eq_true rfl)) dL_years_411 ⟨Nat.le_of_ble_eq_true rfl, Nat.le_of_ble_eq_true rfl⟩) hW (fun z st1 hp H locs hW => ?_)
  obtain ⟨e1, e2⟩ := hp
  rw [e1] at hW
  refine mk_sayi (y := 54) (e2.trans y60_hold) ?_
  refine mk_bipush hx hb (54) (by decide +kernel) dL_years_414 ?_
  refine mk_icmp_ne (tgt := 430) hx hb dL_years_416 (by decide) (by decide) (by decide) (fun h => absurd h (by decide)) (fun _ => ?_)
  refine lv_aload_n hx hb dL_years_419 rfl (lv_at hl 1 rfl) ?_
  refine mw_goIs (va_runS (As := [.ref (ad 0)]) (rest := []) ⟨hx, hb, hml, hown, hts⟩ (c_L_refuses l cg D ad st hst (canM (yB 60) 59) hX) (cwS 1 hts gL_years_L_refuses rfl rfl rfl (by decide +kernel) ⟨Nat.le_of_ble_eq_true rfl, Nat.le_of_ble_eq_true rfl⟩) (mw_preS hK hN hxK hxZ hxN hW) rfl rfl hl.1 rfl (lv_room (Nat.le_of_ble_eq_true rfl)) dL_years_420 ⟨Nat.le_of_ble_eq_true rfl, Nat.le_of_ble_eq_true rfl⟩) hW (fun z st1 hp H locs hW => ?_)
  obtain ⟨e1, e2⟩ := hp
  rw [e2] at hW
  subst e1
  refine mk_if_eq (tgt := 430) hx hb dL_years_423 (by decide) (by decide) (fun h => absurd h (by decide)) (fun _ => ?_)
  refine mk_iconst hx hb (1) dL_years_426 ?_
  refine lv_goto (tgt := 431) hx hb dL_years_427 (by decide) ?_
  refine W.widen (k := 1000) (n := 6000) (Nat.le_of_ble_eq_true rfl) (Nat.le_of_ble_eq_true rfl) ?_
  exact z_ret hx hb hr hlocks hW dL_years_431
end SG_yl
set_option maxHeartbeats 4000000 in
set_option maxRecDepth 100000 in
theorem c_L_years (l : Launch) (cg : Nat → ClassId) (D : va_G) (hst : l.stackTraces = false) : ZM l yL_years wsL_years ({ frames := 11, cells := 1000, slots := 6000, locals := 250 }) D cg 1000 6000 := by
  refine z_open (cc := cL_years) (maxL := 2) (ret := (some .boolean)) (by decide) rfl ?_
  intro p e s m args below meth c hx hb hml hr hown hts hlocks hK hN ls hl hC hxK hxZ hxN hO
  have hown : s.vm.findClass RL = some m.cls := hown
  have hA : ∀ q : Nat, s.heap.size ≤ q → (fun q : Nat => s.heap.size ≤ q) q := fun _ h => h
  have inX5 : ∀ w ∈ wsX50, w ∈ wsL_years := by decide +kernel
  refine ck_new (ci := 5) (fs := [.null, .null, .null, .int (iI 0)]) (C := RX5) (T := TX5) (N := 4) hx hb hts inX5 tyX5 tyX5_ok hown (hts (.classLink RL 8 RX5) (by decide +kernel)) (hts (.instantiable RX5 4) (by decide +kernel)) (hts (.initialized RX5) (by decide +kernel)) hK hC hA rfl bl5 (Nat.le_of_ble_eq_true rfl) (Nat.le_of_ble_eq_true rfl) dL_years_0 (fun q H hC => ?_)
  refine lv_dup hx hb dL_years_3 rfl ?_
  refine ck_go (n := 73) (cel := celX cg) (st := sX0) hC hA (va_runI (As := []) (rest := [.ref q]) ⟨hx, hb, hml, hown, hts⟩ (c_X5_init l cg D H.size q) (cwI 0 hts gL_years_X5_init rfl rfl rfl (hts (.initialized RX5) (by decide +kernel)) (hts (.methodLink RL 101 yX5_init) (by decide +kernel)) (hts (.instanceMethod yX5_init) (by decide +kernel)) rfl (by decide +kernel) ⟨Nat.le_of_ble_eq_true rfl, Nat.le_of_ble_eq_true rfl⟩) (ck_pre hK hN hO hC) rfl rfl hl.1 rfl (lv_room (Nat.le_of_ble_eq_true rfl)) dL_years_4 ⟨Nat.le_of_ble_eq_true rfl, Nat.le_of_ble_eq_true rfl⟩) (fun ad H locs ead hC => ?_)
  have hW : GW D vwCl 73 (celX cg) ad (fun q : Nat => s.heap.size ≤ q) s.heap sX0 H locs := hC
  refine lv_astore_n (lv' := [(0, .ref q)]) hx hb dL_years_7 rfl hl (by decide) rfl (fun ls hl => ?_)
  rw [← ead] at hl
  obtain ⟨st, e3⟩ : ∃ q, q = sX0 := ⟨_, rfl⟩
  have hX : XI st by0 := by rw [e3]; exact X0_start.be by0_st
  rw [← e3] at hW
  have F : LX p l s m args meth c cL_years 2 wsL_years cg D (fun q => s.heap.size ≤ q) := ⟨hx, hb, hml, hown, hts, hlocks, hst, hK, hN, hxK, hxZ, hxN⟩
  refine by_s0 F hl hW hX (fun st H locs hW hX => ?_)
  refine by_s1 F hl hW hX (fun st H locs hW hX => ?_)
  refine by_s2 F hl hW hX (fun st H locs hW hX => ?_)
  refine by_s3 F hl hW hX (fun st H locs hW hX => ?_)
  have hbb : ∀ e, 0 ≤ bH by9 1 e := fun e => hX.1.2.2.2.2.1 1 (by decide) e
  refine y_in F hl (fun ls hl => ?_)
  refine y_loop F (fun ls st H locs hl hW hX => ?_) 60 5 (by omega) (by omega) (by omega) ls st H locs hl hW (by rw [yB_5]; exact hX)
  refine y_60 F hl hW hX (fun ls st H locs hl hW hX => ?_)
  exact y_tail F hr hbb hl hW hX
