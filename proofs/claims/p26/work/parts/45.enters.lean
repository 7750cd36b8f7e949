set_option maxHeartbeats 4000000 in
set_option maxRecDepth 100000 in
theorem c_X5_checkCanSpare_0 (l : Launch) (cg : Nat → ClassId) (D : va_G) (ad : Nat → Nat) (st : Nat → Nat → Int) (b : Nat → Nat → Int) (hX : XI st b) (d ct : Int) (hd : 0 ≤ d ∧ d < 1825) (hc : 1 ≤ ct ∧ ct ≤ 1000) (hsp : ∀ e, d ≤ e → ct * fla (bSD b 0) (bSF b 0) (bM b 0) d ≤ bH b 0 e) : MV l yX5_checkCanSpare wsX5_checkCanSpare ({ frames := 2, cells := 0, slots := 0, locals := 50 }) D vwCl (TY cg) 73 (celX cg) ad st [.ref (ad 9), .int (iI d), .int (iI ct)] (fun st1 => st1 = st) := by
  refine mk_open (cc := cX5_checkCanSpare) (maxL := 4) (ret := none) (by decide) rfl (Nat.le_of_ble_eq_true rfl) ?_
  intro p e s m args below meth c hx hb hml hr hown hts hlocks hK hN hargs ls hl hW
  have hown : s.vm.findClass RX5 = some m.cls := hown
  have hl : lv_has ls 4 [(0, .ref (ad 9)), (1, .int (iI d)), (2, .int (iI ct))] := hl
  have inX1 : ∀ w ∈ wsX10, w ∈ wsX5_checkCanSpare := by decide +kernel
  have fn63 := hN.f (args := args) "GainsReckoner" 63 "GainsReckoner$Ledger" "splits" "LGainsReckoner$Splits;" (by decide +kernel)
  have fn123 := hN.f (args := args) "GainsReckoner" 123 "GainsReckoner$Ledger" "sheet" "LGainsReckoner$Sheet;" (by decide +kernel)
  have hG := hX.2.2.1 0 (by omega)
  have hRN := hG.RN hX.1 (show 0 < 3 by omega)
  have hlen : (bAA b 0 (xR st 0) (xD st 0)).length ≤ 60 := hG.len hX.1 (show 0 < 3 by omega)
  have hR60 := hRN.1
  refine lv_iload_n hx hb dX5_checkCanSpare_0 rfl (lv_at hl 2 rfl) ?_
  refine lv_aload_n hx hb dX5_checkCanSpare_1 rfl (lv_at hl 0 rfl) ?_
  refine mk_getN (ci := 1) (C := RX1) (T := TX1) (N := 4) hx hb hts inX1 hown hK hW 9 (by decide) rfl rfl 1 (by decide) fn63 (fun _ h9 => h9) rfl dX5_checkCanSpare_2 ?_
  refine lv_iload_n hx hb dX5_checkCanSpare_5 rfl (lv_at hl 1 rfl) ?_
  refine mk_sipush hx hb (1825) (by decide +kernel) dX5_checkCanSpare_6 ?_
  refine mk_goIE (EmbL0 cg ad) (va_runV (As := [.int (iI d), .int (iI 1825)]) (rest := [.int (iI ct)]) ⟨hx, hb, hml, hown, hts⟩ (c_X4_factorBetween l cg D (fun j => ad (embL 0 j)) (sub (embL 0) st) d 1825 (bM b 0) (hX.2.1.m hX.1.j (show 0 < 3 by omega)) (hX.2.1.S hX.1.j (show 0 < 3 by omega)) (by omega) (by omega)) (cwV 2 hts gX5_checkCanSpare_X4_factorBetween rfl rfl rfl (by decide +kernel) ⟨Nat.le_of_ble_eq_true rfl, Nat.le_of_ble_eq_true rfl⟩) (mk_preV hK hN (hW.emb (EmbL0 cg ad)) 1 (by decide) rfl rfl rfl) rfl rfl hl.1 rfl (lv_room (Nat.le_of_ble_eq_true rfl)) dX5_checkCanSpare_9 ⟨Nat.zero_le _, Nat.zero_le _⟩) hW (fun f st1 hp9 H locs hW => ?_)
  obtain ⟨est1, hf9⟩ := hp9
  rw [est1, up_self (EmbL0 cg ad).2.1] at hW
  have hf8 : f = fla (bSD b 0) (bSF b 0) (bM b 0) d := by rw [hf9, fac_fla (hX.2.1.S hX.1.j (show 0 < 3 by omega)), hX.2.1.fl (show 0 < 3 by omega)]
  have hfb := fla_bd (hX.1.2.2.1 0 (by omega)).2 d
  rw [← hf8] at hfb
  have hcf1 : 1 * 1 ≤ ct * f := Int.mul_le_mul hc.1 hfb.1 (by omega) (by omega)
  have hcf2 : ct * f ≤ 1000 * 625 := Int.mul_le_mul hc.2 hfb.2 (by omega) (by omega)
  refine mk_imul hx hb dX5_checkCanSpare_12 ?_
  refine lv_istore_n (lv' := [(3, .int (iI (ct * f))), (0, .ref (ad 9)), (1, .int (iI d)), (2, .int (iI ct))]) hx hb dX5_checkCanSpare_13 rfl hl (by decide) rfl (fun ls hl => ?_)
  refine lv_aload_n hx hb dX5_checkCanSpare_14 rfl (lv_at hl 1 rfl) ?_
  refine mk_getN (ci := 1) (C := RX1) (T := TX1) (N := 4) hx hb hts inX1 hown hK hW 9 (by decide) rfl rfl 2 (by decide) fn123 (fun _ h9 => h9) rfl dX5_checkCanSpare_15 ?_
  refine lv_iload_n hx hb dX5_checkCanSpare_18 rfl (lv_at hl 2 rfl) ?_
  refine mk_goIE (EmbL0 cg ad) (va_runV (As := [.int (iI d)]) (rest := []) ⟨hx, hb, hml, hown, hts⟩ (c_X3_leastUnitsFrom l cg D (fun j => ad (embL 0 j)) (sub (embL 0) st) d (lR (sub (embL 0) st)) hG.R hR60 (fun r hr => by have h9 := hRN.2.2.1 r hr; omega) (by omega) (fun r hr => by have h9 := hG.rng hX.1 (show 0 < 3 by omega) r hr; omega)) (cwV 1 hts gX5_checkCanSpare_X3_leastUnitsFrom rfl rfl rfl (by decide +kernel) ⟨Nat.le_of_ble_eq_true rfl, Nat.le_of_ble_eq_true rfl⟩) (mk_preV hK hN (hW.emb (EmbL0 cg ad)) 4 (by decide) rfl rfl rfl) rfl rfl hl.1 rfl (lv_room (Nat.le_of_ble_eq_true rfl)) dX5_checkCanSpare_19 ⟨Nat.zero_le _, Nat.zero_le _⟩) hW (fun z st2 hp19 H locs hW => ?_)
  obtain ⟨est2, hl9⟩ := hp19
  rw [est2, up_self (EmbL0 cg ad).2.1] at hW
  obtain ⟨hzr, ⟨e9, he9, hz9⟩, hzm⟩ := hG.least hX.1 (show 0 < 3 by omega) hl9
  have hs9 := hsp e9 he9
  rw [← hz9, ← hf8] at hs9
  refine lv_iload_n hx hb dX5_checkCanSpare_22 rfl (lv_at hl 0 rfl) ?_
  refine mk_icmp_ge (tgt := 36) hx hb dX5_checkCanSpare_23 (by decide) (by omega) (by omega) (fun c_23 => ?_) (fun c_23 => ?_)
  · skip
    exact mk_retV hx hb hr hlocks hW rfl dX5_checkCanSpare_36
  · skip
    omega

set_option maxHeartbeats 4000000 in
set_option maxRecDepth 100000 in
theorem c_X5_checkCanSpare_1 (l : Launch) (cg : Nat → ClassId) (D : va_G) (ad : Nat → Nat) (st : Nat → Nat → Int) (b : Nat → Nat → Int) (hX : XI st b) (d ct : Int) (hd : 0 ≤ d ∧ d < 1825) (hc : 1 ≤ ct ∧ ct ≤ 1000) (hsp : ∀ e, d ≤ e → ct * fla (bSD b 1) (bSF b 1) (bM b 1) d ≤ bH b 1 e) : MV l yX5_checkCanSpare wsX5_checkCanSpare ({ frames := 2, cells := 0, slots := 0, locals := 50 }) D vwCl (TY cg) 73 (celX cg) ad st [.ref (ad 30), .int (iI d), .int (iI ct)] (fun st1 => st1 = st) := by
  refine mk_open (cc := cX5_checkCanSpare) (maxL := 4) (ret := none) (by decide) rfl (Nat.le_of_ble_eq_true rfl) ?_
  intro p e s m args below meth c hx hb hml hr hown hts hlocks hK hN hargs ls hl hW
  have hown : s.vm.findClass RX5 = some m.cls := hown
  have hl : lv_has ls 4 [(0, .ref (ad 30)), (1, .int (iI d)), (2, .int (iI ct))] := hl
  have inX1 : ∀ w ∈ wsX10, w ∈ wsX5_checkCanSpare := by decide +kernel
  have fn63 := hN.f (args := args) "GainsReckoner" 63 "GainsReckoner$Ledger" "splits" "LGainsReckoner$Splits;" (by decide +kernel)
  have fn123 := hN.f (args := args) "GainsReckoner" 123 "GainsReckoner$Ledger" "sheet" "LGainsReckoner$Sheet;" (by decide +kernel)
  have hG := hX.2.2.1 1 (by omega)
  have hRN := hG.RN hX.1 (show 1 < 3 by omega)
  have hlen : (bAA b 1 (xR st 1) (xD st 1)).length ≤ 60 := hG.len hX.1 (show 1 < 3 by omega)
  have hR60 := hRN.1
  refine lv_iload_n hx hb dX5_checkCanSpare_0 rfl (lv_at hl 2 rfl) ?_
  refine lv_aload_n hx hb dX5_checkCanSpare_1 rfl (lv_at hl 0 rfl) ?_
  refine mk_getN (ci := 1) (C := RX1) (T := TX1) (N := 4) hx hb hts inX1 hown hK hW 30 (by decide) rfl rfl 1 (by decide) fn63 (fun _ h9 => h9) rfl dX5_checkCanSpare_2 ?_
  refine lv_iload_n hx hb dX5_checkCanSpare_5 rfl (lv_at hl 1 rfl) ?_
  refine mk_sipush hx hb (1825) (by decide +kernel) dX5_checkCanSpare_6 ?_
  refine mk_goIE (EmbL1 cg ad) (va_runV (As := [.int (iI d), .int (iI 1825)]) (rest := [.int (iI ct)]) ⟨hx, hb, hml, hown, hts⟩ (c_X4_factorBetween l cg D (fun j => ad (embL 1 j)) (sub (embL 1) st) d 1825 (bM b 1) (hX.2.1.m hX.1.j (show 1 < 3 by omega)) (hX.2.1.S hX.1.j (show 1 < 3 by omega)) (by omega) (by omega)) (cwV 2 hts gX5_checkCanSpare_X4_factorBetween rfl rfl rfl (by decide +kernel) ⟨Nat.le_of_ble_eq_true rfl, Nat.le_of_ble_eq_true rfl⟩) (mk_preV hK hN (hW.emb (EmbL1 cg ad)) 1 (by decide) rfl rfl rfl) rfl rfl hl.1 rfl (lv_room (Nat.le_of_ble_eq_true rfl)) dX5_checkCanSpare_9 ⟨Nat.zero_le _, Nat.zero_le _⟩) hW (fun f st1 hp9 H locs hW => ?_)
  obtain ⟨est1, hf9⟩ := hp9
  rw [est1, up_self (EmbL1 cg ad).2.1] at hW
  have hf8 : f = fla (bSD b 1) (bSF b 1) (bM b 1) d := by rw [hf9, fac_fla (hX.2.1.S hX.1.j (show 1 < 3 by omega)), hX.2.1.fl (show 1 < 3 by omega)]
  have hfb := fla_bd (hX.1.2.2.1 1 (by omega)).2 d
  rw [← hf8] at hfb
  have hcf1 : 1 * 1 ≤ ct * f := Int.mul_le_mul hc.1 hfb.1 (by omega) (by omega)
  have hcf2 : ct * f ≤ 1000 * 625 := Int.mul_le_mul hc.2 hfb.2 (by omega) (by omega)
  refine mk_imul hx hb dX5_checkCanSpare_12 ?_
  refine lv_istore_n (lv' := [(3, .int (iI (ct * f))), (0, .ref (ad 30)), (1, .int (iI d)), (2, .int (iI ct))]) hx hb dX5_checkCanSpare_13 rfl hl (by decide) rfl (fun ls hl => ?_)
  refine lv_aload_n hx hb dX5_checkCanSpare_14 rfl (lv_at hl 1 rfl) ?_
  refine mk_getN (ci := 1) (C := RX1) (T := TX1) (N := 4) hx hb hts inX1 hown hK hW 30 (by decide) rfl rfl 2 (by decide) fn123 (fun _ h9 => h9) rfl dX5_checkCanSpare_15 ?_
  refine lv_iload_n hx hb dX5_checkCanSpare_18 rfl (lv_at hl 2 rfl) ?_
  refine mk_goIE (EmbL1 cg ad) (va_runV (As := [.int (iI d)]) (rest := []) ⟨hx, hb, hml, hown, hts⟩ (c_X3_leastUnitsFrom l cg D (fun j => ad (embL 1 j)) (sub (embL 1) st) d (lR (sub (embL 1) st)) hG.R hR60 (fun r hr => by have h9 := hRN.2.2.1 r hr; omega) (by omega) (fun r hr => by have h9 := hG.rng hX.1 (show 1 < 3 by omega) r hr; omega)) (cwV 1 hts gX5_checkCanSpare_X3_leastUnitsFrom rfl rfl rfl (by decide +kernel) ⟨Nat.le_of_ble_eq_true rfl, Nat.le_of_ble_eq_true rfl⟩) (mk_preV hK hN (hW.emb (EmbL1 cg ad)) 4 (by decide) rfl rfl rfl) rfl rfl hl.1 rfl (lv_room (Nat.le_of_ble_eq_true rfl)) dX5_checkCanSpare_19 ⟨Nat.zero_le _, Nat.zero_le _⟩) hW (fun z st2 hp19 H locs hW => ?_)
  obtain ⟨est2, hl9⟩ := hp19
  rw [est2, up_self (EmbL1 cg ad).2.1] at hW
  obtain ⟨hzr, ⟨e9, he9, hz9⟩, hzm⟩ := hG.least hX.1 (show 1 < 3 by omega) hl9
  have hs9 := hsp e9 he9
  rw [← hz9, ← hf8] at hs9
  refine lv_iload_n hx hb dX5_checkCanSpare_22 rfl (lv_at hl 0 rfl) ?_
  refine mk_icmp_ge (tgt := 36) hx hb dX5_checkCanSpare_23 (by decide) (by omega) (by omega) (fun c_23 => ?_) (fun c_23 => ?_)
  · skip
    exact mk_retV hx hb hr hlocks hW rfl dX5_checkCanSpare_36
  · skip
    omega

set_option maxHeartbeats 4000000 in
set_option maxRecDepth 100000 in
theorem c_X5_checkCanSpare_2 (l : Launch) (cg : Nat → ClassId) (D : va_G) (ad : Nat → Nat) (st : Nat → Nat → Int) (b : Nat → Nat → Int) (hX : XI st b) (d ct : Int) (hd : 0 ≤ d ∧ d < 1825) (hc : 1 ≤ ct ∧ ct ≤ 1000) (hsp : ∀ e, d ≤ e → ct * fla (bSD b 2) (bSF b 2) (bM b 2) d ≤ bH b 2 e) : MV l yX5_checkCanSpare wsX5_checkCanSpare ({ frames := 2, cells := 0, slots := 0, locals := 50 }) D vwCl (TY cg) 73 (celX cg) ad st [.ref (ad 51), .int (iI d), .int (iI ct)] (fun st1 => st1 = st) := by
  refine mk_open (cc := cX5_checkCanSpare) (maxL := 4) (ret := none) (by decide) rfl (Nat.le_of_ble_eq_true rfl) ?_
  intro p e s m args below meth c hx hb hml hr hown hts hlocks hK hN hargs ls hl hW
  have hown : s.vm.findClass RX5 = some m.cls := hown
  have hl : lv_has ls 4 [(0, .ref (ad 51)), (1, .int (iI d)), (2, .int (iI ct))] := hl
  have inX1 : ∀ w ∈ wsX10, w ∈ wsX5_checkCanSpare := by decide +kernel
  have fn63 := hN.f (args := args) "GainsReckoner" 63 "GainsReckoner$Ledger" "splits" "LGainsReckoner$Splits;" (by decide +kernel)
  have fn123 := hN.f (args := args) "GainsReckoner" 123 "GainsReckoner$Ledger" "sheet" "LGainsReckoner$Sheet;" (by decide +kernel)
  have hG := hX.2.2.1 2 (by omega)
  have hRN := hG.RN hX.1 (show 2 < 3 by omega)
  have hlen : (bAA b 2 (xR st 2) (xD st 2)).length ≤ 60 := hG.len hX.1 (show 2 < 3 by omega)
  have hR60 := hRN.1
  refine lv_iload_n hx hb dX5_checkCanSpare_0 rfl (lv_at hl 2 rfl) ?_
  refine lv_aload_n hx hb dX5_checkCanSpare_1 rfl (lv_at hl 0 rfl) ?_
  refine mk_getN (ci := 1) (C := RX1) (T := TX1) (N := 4) hx hb hts inX1 hown hK hW 51 (by decide) rfl rfl 1 (by decide) fn63 (fun _ h9 => h9) rfl dX5_checkCanSpare_2 ?_
  refine lv_iload_n hx hb dX5_checkCanSpare_5 rfl (lv_at hl 1 rfl) ?_
  refine mk_sipush hx hb (1825) (by decide +kernel) dX5_checkCanSpare_6 ?_
  refine mk_goIE (EmbL2 cg ad) (va_runV (As := [.int (iI d), .int (iI 1825)]) (rest := [.int (iI ct)]) ⟨hx, hb, hml, hown, hts⟩ (c_X4_factorBetween l cg D (fun j => ad (embL 2 j)) (sub (embL 2) st) d 1825 (bM b 2) (hX.2.1.m hX.1.j (show 2 < 3 by omega)) (hX.2.1.S hX.1.j (show 2 < 3 by omega)) (by omega) (by omega)) (cwV 2 hts gX5_checkCanSpare_X4_factorBetween rfl rfl rfl (by decide +kernel) ⟨Nat.le_of_ble_eq_true rfl, Nat.le_of_ble_eq_true rfl⟩) (mk_preV hK hN (hW.emb (EmbL2 cg ad)) 1 (by decide) rfl rfl rfl) rfl rfl hl.1 rfl (lv_room (Nat.le_of_ble_eq_true rfl)) dX5_checkCanSpare_9 ⟨Nat.zero_le _, Nat.zero_le _⟩) hW (fun f st1 hp9 H locs hW => ?_)
  obtain ⟨est1, hf9⟩ := hp9
  rw [est1, up_self (EmbL2 cg ad).2.1] at hW
  have hf8 : f = fla (bSD b 2) (bSF b 2) (bM b 2) d := by rw [hf9, fac_fla (hX.2.1.S hX.1.j (show 2 < 3 by omega)), hX.2.1.fl (show 2 < 3 by omega)]
  have hfb := fla_bd (hX.1.2.2.1 2 (by omega)).2 d
  rw [← hf8] at hfb
  have hcf1 : 1 * 1 ≤ ct * f := Int.mul_le_mul hc.1 hfb.1 (by omega) (by omega)
  have hcf2 : ct * f ≤ 1000 * 625 := Int.mul_le_mul hc.2 hfb.2 (by omega) (by omega)
  refine mk_imul hx hb dX5_checkCanSpare_12 ?_
  refine lv_istore_n (lv' := [(3, .int (iI (ct * f))), (0, .ref (ad 51)), (1, .int (iI d)), (2, .int (iI ct))]) hx hb dX5_checkCanSpare_13 rfl hl (by decide) rfl (fun ls hl => ?_)
  refine lv_aload_n hx hb dX5_checkCanSpare_14 rfl (lv_at hl 1 rfl) ?_
  refine mk_getN (ci := 1) (C := RX1) (T := TX1) (N := 4) hx hb hts inX1 hown hK hW 51 (by decide) rfl rfl 2 (by decide) fn123 (fun _ h9 => h9) rfl dX5_checkCanSpare_15 ?_
  refine lv_iload_n hx hb dX5_checkCanSpare_18 rfl (lv_at hl 2 rfl) ?_
  refine mk_goIE (EmbL2 cg ad) (va_runV (As := [.int (iI d)]) (rest := []) ⟨hx, hb, hml, hown, hts⟩ (c_X3_leastUnitsFrom l cg D (fun j => ad (embL 2 j)) (sub (embL 2) st) d (lR (sub (embL 2) st)) hG.R hR60 (fun r hr => by have h9 := hRN.2.2.1 r hr; omega) (by omega) (fun r hr => by have h9 := hG.rng hX.1 (show 2 < 3 by omega) r hr; omega)) (cwV 1 hts gX5_checkCanSpare_X3_leastUnitsFrom rfl rfl rfl (by decide +kernel) ⟨Nat.le_of_ble_eq_true rfl, Nat.le_of_ble_eq_true rfl⟩) (mk_preV hK hN (hW.emb (EmbL2 cg ad)) 4 (by decide) rfl rfl rfl) rfl rfl hl.1 rfl (lv_room (Nat.le_of_ble_eq_true rfl)) dX5_checkCanSpare_19 ⟨Nat.zero_le _, Nat.zero_le _⟩) hW (fun z st2 hp19 H locs hW => ?_)
  obtain ⟨est2, hl9⟩ := hp19
  rw [est2, up_self (EmbL2 cg ad).2.1] at hW
  obtain ⟨hzr, ⟨e9, he9, hz9⟩, hzm⟩ := hG.least hX.1 (show 2 < 3 by omega) hl9
  have hs9 := hsp e9 he9
  rw [← hz9, ← hf8] at hs9
  refine lv_iload_n hx hb dX5_checkCanSpare_22 rfl (lv_at hl 0 rfl) ?_
  refine mk_icmp_ge (tgt := 36) hx hb dX5_checkCanSpare_23 (by decide) (by omega) (by omega) (fun c_23 => ?_) (fun c_23 => ?_)
  · skip
    exact mk_retV hx hb hr hlocks hW rfl dX5_checkCanSpare_36
  · skip
    omega

set_option maxHeartbeats 4000000 in
set_option maxRecDepth 100000 in
theorem c_X5_buy_0 (l : Launch) (cg : Nat → ClassId) (D : va_G) (ad : Nat → Nat) (st : Nat → Nat → Int) (b : Nat → Nat → Int) (hX : XI st b) (d ct mo : Int) (hn60 : bN b < 60) (hd : 0 ≤ d ∧ d < 1825) (hc : 1 ≤ ct ∧ ct ≤ 1000) (hm : 0 ≤ mo ∧ mo ≤ 1000000) : MI l yX5_buy wsX5_buy ({ frames := 5, cells := 0, slots := 0, locals := 130 }) D vwCl (TY cg) 73 (celX cg) ad st [.ref (ad 0), .int (iI 0), .int (iI d), .int (iI ct), .int (iI mo)] (fun z st1 => XI st1 (entM b ((0 : Nat) : Int) d ct mo 0) ∧ z = bN b) := by
  refine mk_open (cc := cX5_buy) (maxL := 7) (ret := (some .int)) (by decide) rfl (Nat.le_of_ble_eq_true rfl) ?_
  intro p e s m args below meth c hx hb hml hr hown hts hlocks hK hN hargs ls hl hW
  have hown : s.vm.findClass RX5 = some m.cls := hown
  have hl : lv_has ls 7 [(0, .ref (ad 0)), (1, .int (iI 0)), (2, .int (iI d)), (3, .int (iI ct)), (4, .int (iI mo))] := hl
  have inX5 : ∀ w ∈ wsX50, w ∈ wsX5_buy := by decide +kernel
  have fl10 := hts (.fieldLink RX5 10 "GainsReckoner" "journal" "LGainsReckoner$Journal;") (by decide +kernel)
  have fl29 := hts (.fieldLink RX5 29 "GainsReckoner" "window" "I") (by decide +kernel)
  have hBB : BV (entM b ((0 : Nat) : Int) d ct mo 0) := (entM_J hX.1.j hn60 (by omega) hd hc hm (by omega)).v (buy_yes hX.1 (by omega))
  refine lv_aload_n hx hb dX5_buy_0 rfl (lv_at hl 0 rfl) ?_
  refine lv_iload_n hx hb dX5_buy_1 rfl (lv_at hl 1 rfl) ?_
  refine lv_iload_n hx hb dX5_buy_2 rfl (lv_at hl 2 rfl) ?_
  refine mk_goR (st9 := st) (va_runV (As := [.int (iI 0), .int (iI d)]) (rest := []) ⟨hx, hb, hml, hown, hts⟩ (c_X5_ledgerAt_0 l cg D ad st d (by omega)) (cwV 2 hts gX5_buy_X5_ledgerAt rfl rfl rfl (by decide +kernel) ⟨Nat.le_of_ble_eq_true rfl, Nat.le_of_ble_eq_true rfl⟩) (mk_preV hK hN hW 0 (by decide) rfl rfl rfl) rfl rfl hl.1 rfl (lv_room (Nat.le_of_ble_eq_true rfl)) dX5_buy_3 ⟨Nat.zero_le _, Nat.zero_le _⟩) hW (fun H locs hW => ?_)
  refine lv_astore (lv' := [(5, .ref (ad 9)), (0, .ref (ad 0)), (1, .int (iI 0)), (2, .int (iI d)), (3, .int (iI ct)), (4, .int (iI mo))]) hx hb dX5_buy_6 hl (by decide) rfl (fun ls hl => ?_)
  refine lv_iload_n hx hb dX5_buy_8 rfl (lv_at hl 4 rfl) ?_
  refine lv_iload hx hb dX5_buy_9 (lv_at hl 5 rfl) ?_
  refine mk_goV (va_runS (As := [.int (iI ct), .int (iI mo)]) (rest := []) ⟨hx, hb, hml, hown, hts⟩ (c_X5_checkTrade l cg D ad st ct mo hc hm) (cwS 2 hts gX5_buy_X5_checkTrade rfl rfl rfl (by decide +kernel) ⟨Nat.le_of_ble_eq_true rfl, Nat.le_of_ble_eq_true rfl⟩) (mk_preS hK hN hW) rfl rfl hl.1 rfl (lv_room (Nat.le_of_ble_eq_true rfl)) dX5_buy_11 ⟨Nat.zero_le _, Nat.zero_le _⟩) hW (fun st1 hp11 H locs hW => ?_)
  rw [hp11] at hW
  refine lv_aload_n hx hb dX5_buy_14 rfl (lv_at hl 1 rfl) ?_
  refine mk_goV (va_runV (As := []) (rest := []) ⟨hx, hb, hml, hown, hts⟩ (c_X5_checkRoomForTrade l cg D ad st (bN b) (hX.2.1.n hX.1.j) hn60) (cwV 0 hts gX5_buy_X5_checkRoomForTrade rfl rfl rfl (by decide +kernel) ⟨Nat.le_of_ble_eq_true rfl, Nat.le_of_ble_eq_true rfl⟩) (mk_preV hK hN hW 0 (by decide) rfl rfl rfl) rfl rfl hl.1 rfl (lv_room (Nat.le_of_ble_eq_true rfl)) dX5_buy_15 ⟨Nat.zero_le _, Nat.zero_le _⟩) hW (fun st3 hp15 H locs hW => ?_)
  rw [hp15] at hW
  refine lv_aload_n hx hb dX5_buy_18 rfl (lv_at hl 1 rfl) ?_
  refine mk_get (ci := 5) (C := RX5) (T := TX5) (N := 4) hx hb hts inX5 hown hK hW 0 (by decide) rfl rfl 0 (by decide) fl10 (fun _ h9 => h9) rfl dX5_buy_19 ?_
  refine mk_iconst hx hb (0) dX5_buy_22 ?_
  refine lv_iload_n hx hb dX5_buy_23 rfl (lv_at hl 2 rfl) ?_
  refine lv_iload_n hx hb dX5_buy_24 rfl (lv_at hl 3 rfl) ?_
  refine lv_iload_n hx hb dX5_buy_25 rfl (lv_at hl 4 rfl) ?_
  refine lv_iload hx hb dX5_buy_26 (lv_at hl 5 rfl) ?_
  refine mk_goI (va_runV (As := [.int (iI 0), .int (iI 0), .int (iI d), .int (iI ct), .int (iI mo)]) (rest := []) ⟨hx, hb, hml, hown, hts⟩ (c_X0_enter l cg D ad st 0 0 d ct mo (bN b) (hX.2.1.n hX.1.j) hn60 (by omega)) (cwV 5 hts gX5_buy_X0_enter rfl rfl rfl (by decide +kernel) ⟨Nat.le_of_ble_eq_true rfl, Nat.le_of_ble_eq_true rfl⟩) (mk_preV hK hN hW 1 (by decide) rfl rfl rfl) rfl rfl hl.1 rfl (lv_room (Nat.le_of_ble_eq_true rfl)) dX5_buy_28 ⟨Nat.zero_le _, Nat.zero_le _⟩) hW (fun z st5 hp28 H locs hW => ?_)
  obtain ⟨est5, hz⟩ := hp28
  have est5 : st5 = entX st (bN b) 0 ((0 : Nat) : Int) d ct mo := est5
  have hfr : Fr [1, 2, 4, 5, 6, 7] st st5 := by rw [est5]; exact entX_fr
  have hJ9 : XJ st5 (entM b ((0 : Nat) : Int) d ct mo 0) := by rw [est5]; exact entX_J hX hn60
  have h09 : sub (embL 0) st5 0 0 = ((0 : Nat) : Int) := by rw [est5, entX_sub 0 0 (by omega)]; exact (hX.2.2.1 0 (by omega)).1
  refine lv_istore (lv' := [(6, .int (iI z)), (5, .ref (ad 9)), (0, .ref (ad 0)), (1, .int (iI 0)), (2, .int (iI d)), (3, .int (iI ct)), (4, .int (iI mo))]) hx hb dX5_buy_31 hl (by decide) rfl (fun ls hl => ?_)
  refine lv_aload hx hb dX5_buy_33 (lv_at hl 1 rfl) ?_
  refine lv_aload_n hx hb dX5_buy_35 rfl (lv_at hl 2 rfl) ?_
  refine mk_get (ci := 5) (C := RX5) (T := TX5) (N := 4) hx hb hts inX5 hown hK hW 0 (by decide) rfl rfl 0 (by decide) fl10 (fun _ h9 => h9) rfl dX5_buy_36 ?_
  refine lv_aload_n hx hb dX5_buy_39 rfl (lv_at hl 2 rfl) ?_
  refine mk_get (ci := 5) (C := RX5) (T := TX5) (N := 4) hx hb hts inX5 hown hK hW 0 (by decide) rfl rfl 3 (by decide) fl29 (fun _ h9 => h9) rfl dX5_buy_40 ?_
  refine mk_sayi (y := (st 0 3)) (by rw [hfr 0 (by decide)]) ?_
  refine mk_sayi (y := ((entM b ((0 : Nat) : Int) d ct mo 0) 0 11)) hX.2.1.2.1 ?_
  refine mk_goVE (EmbL0 cg ad) (va_runV (As := [.ref (ad 1), .int (iI ((entM b ((0 : Nat) : Int) d ct mo 0) 0 11))]) (rest := []) ⟨hx, hb, hml, hown, hts⟩ (c_X1_reckon l cg D (fun j => ad (embL 0 j)) (sub (embL 0) st5) 0 ((entM b ((0 : Nat) : Int) d ct mo 0) 0 11) (bN (entM b ((0 : Nat) : Int) d ct mo 0)) (bM (entM b ((0 : Nat) : Int) d ct mo 0) 0) (hJ9.n hBB.j) (hJ9.J hBB.j) (hJ9.m hBB.j (show 0 < 3 by omega)) (hJ9.S hBB.j (show 0 < 3 by omega)) h09 (by omega) hBB.2.2.2.1 (fun d9 => by have h9 := hBB.2.2.2.2.1 0 (by omega) d9; rw [← hJ9.ho (show 0 < 3 by omega)] at h9; exact h9)) (cwV 2 hts gX5_buy_X1_reckon rfl rfl rfl (by decide +kernel) ⟨Nat.le_of_ble_eq_true rfl, Nat.le_of_ble_eq_true rfl⟩) (mk_preV hK hN (hW.emb (EmbL0 cg ad)) 0 (by decide) rfl rfl rfl) rfl rfl hl.1 rfl (lv_room (Nat.le_of_ble_eq_true rfl)) dX5_buy_43 ⟨Nat.zero_le _, Nat.zero_le _⟩) hW (fun st6 hp43 H locs hW => ?_)
  obtain ⟨st8, est8⟩ : ∃ z, z = up 28 (embL 0) st6 st5 := ⟨_, rfl⟩
  rw [← est8] at hW
  rw [est5] at hp43
  refine lv_iload hx hb dX5_buy_46 (lv_at hl 0 rfl) ?_
  exact mk_retI hx hb hr hlocks hW ⟨by rw [est8, est5]; exact entX_reck (show 0 < 3 by omega) hX hn60 hBB hp43.1 hp43.2, hz⟩ dX5_buy_48

set_option maxHeartbeats 4000000 in
set_option maxRecDepth 100000 in
theorem c_X5_sell_0 (l : Launch) (cg : Nat → ClassId) (D : va_G) (ad : Nat → Nat) (st : Nat → Nat → Int) (b : Nat → Nat → Int) (hX : XI st b) (d ct mo : Int) (hn60 : bN b < 60) (hd : 0 ≤ d ∧ d < 1825) (hc : 1 ≤ ct ∧ ct ≤ 1000) (hm : 0 ≤ mo ∧ mo ≤ 1000000) (hsp : ∀ e, d ≤ e → ct * fla (bSD b 0) (bSF b 0) (bM b 0) d ≤ bH b 0 e) : MI l yX5_sell wsX5_sell ({ frames := 5, cells := 0, slots := 0, locals := 130 }) D vwCl (TY cg) 73 (celX cg) ad st [.ref (ad 0), .int (iI 0), .int (iI d), .int (iI ct), .int (iI mo)] (fun z st1 => XI st1 (entM b ((0 : Nat) : Int) d ct mo 1) ∧ z = bN b) := by
  refine mk_open (cc := cX5_sell) (maxL := 7) (ret := (some .int)) (by decide) rfl (Nat.le_of_ble_eq_true rfl) ?_
  intro p e s m args below meth c hx hb hml hr hown hts hlocks hK hN hargs ls hl hW
  have hown : s.vm.findClass RX5 = some m.cls := hown
  have hl : lv_has ls 7 [(0, .ref (ad 0)), (1, .int (iI 0)), (2, .int (iI d)), (3, .int (iI ct)), (4, .int (iI mo))] := hl
  have inX5 : ∀ w ∈ wsX50, w ∈ wsX5_sell := by decide +kernel
  have fl10 := hts (.fieldLink RX5 10 "GainsReckoner" "journal" "LGainsReckoner$Journal;") (by decide +kernel)
  have fl29 := hts (.fieldLink RX5 29 "GainsReckoner" "window" "I") (by decide +kernel)
  have hBB : BV (entM b ((0 : Nat) : Int) d ct mo 1) := (entM_J hX.1.j hn60 (by omega) hd hc hm (by omega)).v (sell_yes hX.1 hsp)
  refine lv_aload_n hx hb dX5_sell_0 rfl (lv_at hl 0 rfl) ?_
  refine lv_iload_n hx hb dX5_sell_1 rfl (lv_at hl 1 rfl) ?_
  refine lv_iload_n hx hb dX5_sell_2 rfl (lv_at hl 2 rfl) ?_
  refine mk_goR (st9 := st) (va_runV (As := [.int (iI 0), .int (iI d)]) (rest := []) ⟨hx, hb, hml, hown, hts⟩ (c_X5_ledgerAt_0 l cg D ad st d (by omega)) (cwV 2 hts gX5_sell_X5_ledgerAt rfl rfl rfl (by decide +kernel) ⟨Nat.le_of_ble_eq_true rfl, Nat.le_of_ble_eq_true rfl⟩) (mk_preV hK hN hW 0 (by decide) rfl rfl rfl) rfl rfl hl.1 rfl (lv_room (Nat.le_of_ble_eq_true rfl)) dX5_sell_3 ⟨Nat.zero_le _, Nat.zero_le _⟩) hW (fun H locs hW => ?_)
  refine lv_astore (lv' := [(5, .ref (ad 9)), (0, .ref (ad 0)), (1, .int (iI 0)), (2, .int (iI d)), (3, .int (iI ct)), (4, .int (iI mo))]) hx hb dX5_sell_6 hl (by decide) rfl (fun ls hl => ?_)
  refine lv_iload_n hx hb dX5_sell_8 rfl (lv_at hl 4 rfl) ?_
  refine lv_iload hx hb dX5_sell_9 (lv_at hl 5 rfl) ?_
  refine mk_goV (va_runS (As := [.int (iI ct), .int (iI mo)]) (rest := []) ⟨hx, hb, hml, hown, hts⟩ (c_X5_checkTrade l cg D ad st ct mo hc hm) (cwS 2 hts gX5_sell_X5_checkTrade rfl rfl rfl (by decide +kernel) ⟨Nat.le_of_ble_eq_true rfl, Nat.le_of_ble_eq_true rfl⟩) (mk_preS hK hN hW) rfl rfl hl.1 rfl (lv_room (Nat.le_of_ble_eq_true rfl)) dX5_sell_11 ⟨Nat.zero_le _, Nat.zero_le _⟩) hW (fun st1 hp11 H locs hW => ?_)
  rw [hp11] at hW
  refine lv_aload_n hx hb dX5_sell_14 rfl (lv_at hl 1 rfl) ?_
  refine mk_goV (va_runV (As := []) (rest := []) ⟨hx, hb, hml, hown, hts⟩ (c_X5_checkRoomForTrade l cg D ad st (bN b) (hX.2.1.n hX.1.j) hn60) (cwV 0 hts gX5_sell_X5_checkRoomForTrade rfl rfl rfl (by decide +kernel) ⟨Nat.le_of_ble_eq_true rfl, Nat.le_of_ble_eq_true rfl⟩) (mk_preV hK hN hW 0 (by decide) rfl rfl rfl) rfl rfl hl.1 rfl (lv_room (Nat.le_of_ble_eq_true rfl)) dX5_sell_15 ⟨Nat.zero_le _, Nat.zero_le _⟩) hW (fun st3 hp15 H locs hW => ?_)
  rw [hp15] at hW
  refine lv_aload hx hb dX5_sell_18 (lv_at hl 0 rfl) ?_
  refine lv_iload_n hx hb dX5_sell_20 rfl (lv_at hl 3 rfl) ?_
  refine lv_iload_n hx hb dX5_sell_21 rfl (lv_at hl 4 rfl) ?_
  refine mk_goV (va_runS (As := [.ref (ad 9), .int (iI d), .int (iI ct)]) (rest := []) ⟨hx, hb, hml, hown, hts⟩ (c_X5_checkCanSpare_0 l cg D ad st b hX d ct hd hc hsp) (cwS 3 hts gX5_sell_X5_checkCanSpare rfl rfl rfl (by decide +kernel) ⟨Nat.le_of_ble_eq_true rfl, Nat.le_of_ble_eq_true rfl⟩) (mk_preS hK hN hW) rfl rfl hl.1 rfl (lv_room (Nat.le_of_ble_eq_true rfl)) dX5_sell_22 ⟨Nat.zero_le _, Nat.zero_le _⟩) hW (fun st5 hp22 H locs hW => ?_)
  rw [hp22] at hW
  refine lv_aload_n hx hb dX5_sell_25 rfl (lv_at hl 1 rfl) ?_
  refine mk_get (ci := 5) (C := RX5) (T := TX5) (N := 4) hx hb hts inX5 hown hK hW 0 (by decide) rfl rfl 0 (by decide) fl10 (fun _ h9 => h9) rfl dX5_sell_26 ?_
  refine mk_iconst hx hb (1) dX5_sell_29 ?_
  refine lv_iload_n hx hb dX5_sell_30 rfl (lv_at hl 2 rfl) ?_
  refine lv_iload_n hx hb dX5_sell_31 rfl (lv_at hl 3 rfl) ?_
  refine lv_iload_n hx hb dX5_sell_32 rfl (lv_at hl 4 rfl) ?_
  refine lv_iload hx hb dX5_sell_33 (lv_at hl 5 rfl) ?_
  refine mk_goI (va_runV (As := [.int (iI 1), .int (iI 0), .int (iI d), .int (iI ct), .int (iI mo)]) (rest := []) ⟨hx, hb, hml, hown, hts⟩ (c_X0_enter l cg D ad st 1 0 d ct mo (bN b) (hX.2.1.n hX.1.j) hn60 (by omega)) (cwV 5 hts gX5_sell_X0_enter rfl rfl rfl (by decide +kernel) ⟨Nat.le_of_ble_eq_true rfl, Nat.le_of_ble_eq_true rfl⟩) (mk_preV hK hN hW 1 (by decide) rfl rfl rfl) rfl rfl hl.1 rfl (lv_room (Nat.le_of_ble_eq_true rfl)) dX5_sell_35 ⟨Nat.zero_le _, Nat.zero_le _⟩) hW (fun z st7 hp35 H locs hW => ?_)
  obtain ⟨est7, hz⟩ := hp35
  have est7 : st7 = entX st (bN b) 1 ((0 : Nat) : Int) d ct mo := est7
  have hfr : Fr [1, 2, 4, 5, 6, 7] st st7 := by rw [est7]; exact entX_fr
  have hJ9 : XJ st7 (entM b ((0 : Nat) : Int) d ct mo 1) := by rw [est7]; exact entX_J hX hn60
  have h09 : sub (embL 0) st7 0 0 = ((0 : Nat) : Int) := by rw [est7, entX_sub 0 0 (by omega)]; exact (hX.2.2.1 0 (by omega)).1
  refine lv_istore (lv' := [(6, .int (iI z)), (5, .ref (ad 9)), (0, .ref (ad 0)), (1, .int (iI 0)), (2, .int (iI d)), (3, .int (iI ct)), (4, .int (iI mo))]) hx hb dX5_sell_38 hl (by decide) rfl (fun ls hl => ?_)
  refine lv_aload hx hb dX5_sell_40 (lv_at hl 1 rfl) ?_
  refine lv_aload_n hx hb dX5_sell_42 rfl (lv_at hl 2 rfl) ?_
  refine mk_get (ci := 5) (C := RX5) (T := TX5) (N := 4) hx hb hts inX5 hown hK hW 0 (by decide) rfl rfl 0 (by decide) fl10 (fun _ h9 => h9) rfl dX5_sell_43 ?_
  refine lv_aload_n hx hb dX5_sell_46 rfl (lv_at hl 2 rfl) ?_
  refine mk_get (ci := 5) (C := RX5) (T := TX5) (N := 4) hx hb hts inX5 hown hK hW 0 (by decide) rfl rfl 3 (by decide) fl29 (fun _ h9 => h9) rfl dX5_sell_47 ?_
  refine mk_sayi (y := (st 0 3)) (by rw [hfr 0 (by decide)]) ?_
  refine mk_sayi (y := ((entM b ((0 : Nat) : Int) d ct mo 1) 0 11)) hX.2.1.2.1 ?_
  refine mk_goVE (EmbL0 cg ad) (va_runV (As := [.ref (ad 1), .int (iI ((entM b ((0 : Nat) : Int) d ct mo 1) 0 11))]) (rest := []) ⟨hx, hb, hml, hown, hts⟩ (c_X1_reckon l cg D (fun j => ad (embL 0 j)) (sub (embL 0) st7) 0 ((entM b ((0 : Nat) : Int) d ct mo 1) 0 11) (bN (entM b ((0 : Nat) : Int) d ct mo 1)) (bM (entM b ((0 : Nat) : Int) d ct mo 1) 0) (hJ9.n hBB.j) (hJ9.J hBB.j) (hJ9.m hBB.j (show 0 < 3 by omega)) (hJ9.S hBB.j (show 0 < 3 by omega)) h09 (by omega) hBB.2.2.2.1 (fun d9 => by have h9 := hBB.2.2.2.2.1 0 (by omega) d9; rw [← hJ9.ho (show 0 < 3 by omega)] at h9; exact h9)) (cwV 2 hts gX5_sell_X1_reckon rfl rfl rfl (by decide +kernel) ⟨Nat.le_of_ble_eq_true rfl, Nat.le_of_ble_eq_true rfl⟩) (mk_preV hK hN (hW.emb (EmbL0 cg ad)) 0 (by decide) rfl rfl rfl) rfl rfl hl.1 rfl (lv_room (Nat.le_of_ble_eq_true rfl)) dX5_sell_50 ⟨Nat.zero_le _, Nat.zero_le _⟩) hW (fun st8 hp50 H locs hW => ?_)
  obtain ⟨st10, est10⟩ : ∃ z, z = up 28 (embL 0) st8 st7 := ⟨_, rfl⟩
  rw [← est10] at hW
  rw [est7] at hp50
  refine lv_iload hx hb dX5_sell_53 (lv_at hl 0 rfl) ?_
  exact mk_retI hx hb hr hlocks hW ⟨by rw [est10, est7]; exact entX_reck (show 0 < 3 by omega) hX hn60 hBB hp50.1 hp50.2, hz⟩ dX5_sell_55

set_option maxHeartbeats 4000000 in
set_option maxRecDepth 100000 in
theorem c_X5_split_0 (l : Launch) (cg : Nat → ClassId) (D : va_G) (ad : Nat → Nat) (st : Nat → Nat → Int) (b : Nat → Nat → Int) (hX : XI st b) (d f : Int) (hd : 0 ≤ d ∧ d < 1825) (hf9 : 2 ≤ f ∧ f ≤ 5) (hm4 : bM b 0 < 4) (hnd : ∀ j, j < bM b 0 → bSD b 0 j ≠ d) : MI l yX5_split wsX5_split ({ frames := 5, cells := 0, slots := 0, locals := 130 }) D vwCl (TY cg) 73 (celX cg) ad st [.ref (ad 0), .int (iI 0), .int (iI d), .int (iI f)] (fun z st1 => XI st1 (splM b 0 d f) ∧ z = (bM b 0 : Int) + 1) := by
  refine mk_open (cc := cX5_split) (maxL := 5) (ret := (some .int)) (by decide) rfl (Nat.le_of_ble_eq_true rfl) ?_
  intro p e s m args below meth c hx hb hml hr hown hts hlocks hK hN hargs ls hl hW
  have hown : s.vm.findClass RX5 = some m.cls := hown
  have hl : lv_has ls 5 [(0, .ref (ad 0)), (1, .int (iI 0)), (2, .int (iI d)), (3, .int (iI f))] := hl
  have inX1 : ∀ w ∈ wsX10, w ∈ wsX5_split := by decide +kernel
  have inX4 : ∀ w ∈ wsX40, w ∈ wsX5_split := by decide +kernel
  have inX5 : ∀ w ∈ wsX50, w ∈ wsX5_split := by decide +kernel
  have fn63 := hN.f (args := args) "GainsReckoner" 63 "GainsReckoner$Ledger" "splits" "LGainsReckoner$Splits;" (by decide +kernel)
  have fl10 := hts (.fieldLink RX5 10 "GainsReckoner" "journal" "LGainsReckoner$Journal;") (by decide +kernel)
  have fl29 := hts (.fieldLink RX5 29 "GainsReckoner" "window" "I") (by decide +kernel)
  have fn84 := hN.f (args := args) "GainsReckoner" 84 "GainsReckoner$Splits" "size" "I" (by decide +kernel)
  have hBB : BV (splM b 0 d f) := (splM_J hX.1.j (show 0 < 3 by omega) hm4 hd hf9).v (spl_yes hX.1 (show 0 < 3 by omega) hm4 hf9.1)
  have hmm := hX.2.1.m hX.1.j (show 0 < 3 by omega)
  have hSS := hX.2.1.S hX.1.j (show 0 < 3 by omega)
  refine lv_aload_n hx hb dX5_split_0 rfl (lv_at hl 0 rfl) ?_
  refine lv_iload_n hx hb dX5_split_1 rfl (lv_at hl 1 rfl) ?_
  refine lv_iload_n hx hb dX5_split_2 rfl (lv_at hl 2 rfl) ?_
  refine mk_goR (st9 := st) (va_runV (As := [.int (iI 0), .int (iI d)]) (rest := []) ⟨hx, hb, hml, hown, hts⟩ (c_X5_ledgerAt_0 l cg D ad st d (by omega)) (cwV 2 hts gX5_split_X5_ledgerAt rfl rfl rfl (by decide +kernel) ⟨Nat.le_of_ble_eq_true rfl, Nat.le_of_ble_eq_true rfl⟩) (mk_preV hK hN hW 0 (by decide) rfl rfl rfl) rfl rfl hl.1 rfl (lv_room (Nat.le_of_ble_eq_true rfl)) dX5_split_3 ⟨Nat.zero_le _, Nat.zero_le _⟩) hW (fun H locs hW => ?_)
  refine lv_astore (lv' := [(4, .ref (ad 9)), (0, .ref (ad 0)), (1, .int (iI 0)), (2, .int (iI d)), (3, .int (iI f))]) hx hb dX5_split_6 hl (by decide) rfl (fun ls hl => ?_)
  refine lv_iload_n hx hb dX5_split_8 rfl (lv_at hl 4 rfl) ?_
  refine mk_iconst hx hb (2) dX5_split_9 ?_
  refine mk_icmp_lt (tgt := 18) hx hb dX5_split_10 (by decide) (by omega) (by omega) (fun c_10 => ?_) (fun c_10 => ?_)
  · skip
    omega
  · skip
    refine lv_iload_n hx hb dX5_split_13 rfl (lv_at hl 4 rfl) ?_
    refine mk_iconst hx hb (5) dX5_split_14 ?_
    refine mk_icmp_le (tgt := 28) hx hb dX5_split_15 (by decide) (by omega) (by omega) (fun c_15 => ?_) (fun c_15 => ?_)
    · skip
      refine lv_aload hx hb dX5_split_28 (lv_at hl 0 rfl) ?_
      refine mk_getN (ci := 1) (C := RX1) (T := TX1) (N := 4) hx hb hts inX1 hown hK hW 9 (by decide) rfl rfl 1 (by decide) fn63 (fun _ h9 => h9) rfl dX5_split_30 ?_
      refine mk_goIE (EmbL0 cg ad) (va_runV (As := []) (rest := []) ⟨hx, hb, hml, hown, hts⟩ (c_X4_isFull l cg D (fun j => ad (embL 0 j)) (sub (embL 0) st) (bM b 0) hmm (by omega)) (cwV 0 hts gX5_split_X4_isFull rfl rfl rfl (by decide +kernel) ⟨Nat.le_of_ble_eq_true rfl, Nat.le_of_ble_eq_true rfl⟩) (mk_preV hK hN (hW.emb (EmbL0 cg ad)) 1 (by decide) rfl rfl rfl) rfl rfl hl.1 rfl (lv_room (Nat.le_of_ble_eq_true rfl)) dX5_split_33 ⟨Nat.zero_le _, Nat.zero_le _⟩) hW (fun z1 st1 hp33 H locs hW => ?_)
      obtain ⟨est1, hz1⟩ := hp33
      rw [est1, up_self (EmbL0 cg ad).2.1] at hW
      refine mk_if_ne (tgt := 51) hx hb dX5_split_36 (by decide) (by omega) (fun c_36 => ?_) (fun c_36 => ?_)
      · skip
        omega
      · skip
        refine lv_aload hx hb dX5_split_39 (lv_at hl 0 rfl) ?_
        refine mk_getN (ci := 1) (C := RX1) (T := TX1) (N := 4) hx hb hts inX1 hown hK hW 9 (by decide) rfl rfl 1 (by decide) fn63 (fun _ h9 => h9) rfl dX5_split_41 ?_
        refine lv_iload_n hx hb dX5_split_44 rfl (lv_at hl 3 rfl) ?_
        refine mk_goIE (EmbL0 cg ad) (va_runV (As := [.int (iI d)]) (rest := []) ⟨hx, hb, hml, hown, hts⟩ (c_X4_hasDay l cg D (fun j => ad (embL 0 j)) (sub (embL 0) st) d (bM b 0) hmm hSS (by omega)) (cwV 1 hts gX5_split_X4_hasDay rfl rfl rfl (by decide +kernel) ⟨Nat.le_of_ble_eq_true rfl, Nat.le_of_ble_eq_true rfl⟩) (mk_preV hK hN (hW.emb (EmbL0 cg ad)) 1 (by decide) rfl rfl rfl) rfl rfl hl.1 rfl (lv_room (Nat.le_of_ble_eq_true rfl)) dX5_split_45 ⟨Nat.zero_le _, Nat.zero_le _⟩) hW (fun z2 st2 hp45 H locs hW => ?_)
        obtain ⟨est2, hz2⟩ := hp45
        rw [est2, up_self (EmbL0 cg ad).2.1] at hW
        have hz20 : z2 = 0 := by
          rcases hz2 with ⟨h1, j, h2, h3⟩ | ⟨h1, h2⟩
          · exact absurd (by rw [show bSD b 0 j = b 8 (4 * 0 + j) from rfl, ← ((hX.2.1.2.2.2.1 0 (by omega)).2 j h2).1]; exact h3) (hnd j h2)
          · exact h1
        refine mk_if_eq (tgt := 61) hx hb dX5_split_48 (by decide) (by omega) (fun c_48 => ?_) (fun c_48 => ?_)
        · skip
          refine lv_aload hx hb dX5_split_61 (lv_at hl 0 rfl) ?_
          refine mk_getN (ci := 1) (C := RX1) (T := TX1) (N := 4) hx hb hts inX1 hown hK hW 9 (by decide) rfl rfl 1 (by decide) fn63 (fun _ h9 => h9) rfl dX5_split_63 ?_
          refine lv_iload_n hx hb dX5_split_66 rfl (lv_at hl 3 rfl) ?_
          refine lv_iload_n hx hb dX5_split_67 rfl (lv_at hl 4 rfl) ?_
          refine mk_goVE (EmbL0 cg ad) (va_runV (As := [.int (iI d), .int (iI f)]) (rest := []) ⟨hx, hb, hml, hown, hts⟩ (c_X4_enter l cg D (fun j => ad (embL 0 j)) (sub (embL 0) st) d f (bM b 0) hmm hm4) (cwV 2 hts gX5_split_X4_enter rfl rfl rfl (by decide +kernel) ⟨Nat.le_of_ble_eq_true rfl, Nat.le_of_ble_eq_true rfl⟩) (mk_preV hK hN (hW.emb (EmbL0 cg ad)) 1 (by decide) rfl rfl rfl) rfl rfl hl.1 rfl (lv_room (Nat.le_of_ble_eq_true rfl)) dX5_split_68 ⟨Nat.zero_le _, Nat.zero_le _⟩) hW (fun st3 hp68 H locs hW => ?_)
          obtain ⟨st5, est5⟩ : ∃ z, z = up 28 (embL 0) st3 st := ⟨_, rfl⟩
          rw [← est5] at hW
          have est3 : st3 = splL (sub (embL 0) st) (bM b 0) d f := hp68
          have hfs : Fr [1, 2, 3] (sub (embL 0) st) st3 := by rw [est3]; exact ((Fr.rf.st (by decide)).st (by decide)).st (by decide)
          rw [est3] at est5
          obtain ⟨hJ9, hoth, h09, hlow⟩ := splX_J (d := d) (f := f) (show 0 < 3 by omega) hX hm4
          rw [← est5] at hJ9 hoth h09 hlow
          refine lv_aload hx hb dX5_split_71 (lv_at hl 0 rfl) ?_
          refine lv_aload_n hx hb dX5_split_73 rfl (lv_at hl 1 rfl) ?_
          refine mk_get (ci := 5) (C := RX5) (T := TX5) (N := 4) hx hb hts inX5 hown hK hW 0 (by decide) rfl rfl 0 (by decide) fl10 (fun _ h9 => h9) rfl dX5_split_74 ?_
          refine lv_aload_n hx hb dX5_split_77 rfl (lv_at hl 1 rfl) ?_
          refine mk_get (ci := 5) (C := RX5) (T := TX5) (N := 4) hx hb hts inX5 hown hK hW 0 (by decide) rfl rfl 3 (by decide) fl29 (fun _ h9 => h9) rfl dX5_split_78 ?_
          refine mk_sayi (y := (st 0 3)) (by rw [show st5 0 = st 0 from by rw [est5]; exact up_out (by decide) _ _]) ?_
          refine mk_sayi (y := ((splM b 0 d f) 0 11)) hX.2.1.2.1 ?_
          refine mk_goVE (EmbL0 cg ad) (va_runV (As := [.ref (ad 1), .int (iI ((splM b 0 d f) 0 11))]) (rest := []) ⟨hx, hb, hml, hown, hts⟩ (c_X1_reckon l cg D (fun j => ad (embL 0 j)) (sub (embL 0) st5) 0 ((splM b 0 d f) 0 11) (bN (splM b 0 d f)) (bM (splM b 0 d f) 0) (hJ9.n hBB.j) (hJ9.J hBB.j) (hJ9.m hBB.j (show 0 < 3 by omega)) (hJ9.S hBB.j (show 0 < 3 by omega)) h09 (by omega) hBB.2.2.2.1 (fun d9 => by have h9 := hBB.2.2.2.2.1 0 (by omega) d9; rw [← hJ9.ho (show 0 < 3 by omega)] at h9; exact h9)) (cwV 2 hts gX5_split_X1_reckon rfl rfl rfl (by decide +kernel) ⟨Nat.le_of_ble_eq_true rfl, Nat.le_of_ble_eq_true rfl⟩) (mk_preV hK hN (hW.emb (EmbL0 cg ad)) 0 (by decide) rfl rfl rfl) rfl rfl hl.1 rfl (lv_room (Nat.le_of_ble_eq_true rfl)) dX5_split_81 ⟨Nat.zero_le _, Nat.zero_le _⟩) hW (fun st6 hp81 H locs hW => ?_)
          obtain ⟨st8, est8⟩ : ∃ z, z = up 28 (embL 0) st6 st5 := ⟨_, rfl⟩
          rw [← est8] at hW
          refine lv_aload hx hb dX5_split_84 (lv_at hl 0 rfl) ?_
          refine mk_getN (ci := 1) (C := RX1) (T := TX1) (N := 4) hx hb hts inX1 hown hK hW 9 (by decide) rfl rfl 1 (by decide) fn63 (fun _ h9 => h9) rfl dX5_split_86 ?_
          refine mk_getN (ci := 4) (C := RX4) (T := TX4) (N := 3) hx hb hts inX4 hown hK hW 10 (by decide) rfl rfl 2 (by decide) fn84 (fun _ h9 => h9) rfl dX5_split_89 ?_
          exact mk_retI hx hb hr hlocks hW (by
            have hz9 : ∀ k, bN (splM b 0 d f) ≤ k → k < 60 → st5 3 k = 0 := by rw [hlow 3 (by omega) (by omega)]; exact hX.2.2.2
            obtain ⟨g1, g2, g3, g4⟩ := reck_step (show 0 < 3 by omega) hJ9 hz9 h09 hp81.1 hp81.2
            rw [← est8] at g1 g2 g3 g4
            refine ⟨⟨hBB, g1, fun u hu => ?_, g4⟩, ?_⟩
            · by_cases x : u = 0
              · rw [x]; exact g2
              · exact ((hX.2.2.1 u hu).se (splM_se hm4 (hX.1.2.2.1 u hu).2.1 x)).cells fun k hk => (g3 u hu x k hk).trans (hoth u hu x k hk)
            · have g5 := g1.m hBB.j (show 0 < 3 by omega)
              rw [splM_M] at g5
              exact g5) dX5_split_92
        · skip
          omega
    · skip
      omega

set_option maxHeartbeats 4000000 in
set_option maxRecDepth 100000 in
theorem c_X5_cancel_0 (l : Launch) (cg : Nat → ClassId) (D : va_G) (ad : Nat → Nat) (st : Nat → Nat → Int) (b : Nat → Nat → Int) (hX : XI st b) (t : Nat) (ht : t < bN b) (hg : b 6 t = 0) (hv : b 1 t = ((0 : Nat) : Int)) (hsp : b 5 t = 0 → ∀ e, b 2 t ≤ e → bU b 0 t ≤ bH b 0 e) : MV l yX5_cancel wsX5_cancel ({ frames := 5, cells := 0, slots := 0, locals := 130 }) D vwCl (TY cg) 73 (celX cg) ad st [.ref (ad 0), .int (iI ((t : Nat) : Int))] (fun st1 => XI st1 (canM b t)) := by
  refine mk_open (cc := cX5_cancel) (maxL := 3) (ret := none) (by decide) rfl (Nat.le_of_ble_eq_true rfl) ?_
  intro p e s m args below meth c hx hb hml hr hown hts hlocks hK hN hargs ls hl hW
  have hown : s.vm.findClass RX5 = some m.cls := hown
  have hl : lv_has ls 3 [(0, .ref (ad 0)), (1, .int (iI ((t : Nat) : Int)))] := hl
  have inX0 : ∀ w ∈ wsX00, w ∈ wsX5_cancel := by decide +kernel
  have inX5 : ∀ w ∈ wsX50, w ∈ wsX5_cancel := by decide +kernel
  have fl10 := hts (.fieldLink RX5 10 "GainsReckoner" "journal" "LGainsReckoner$Journal;") (by decide +kernel)
  have fn87 := hN.f (args := args) "GainsReckoner" 87 "GainsReckoner$Journal" "size" "I" (by decide +kernel)
  have fn93 := hN.f (args := args) "GainsReckoner" 93 "GainsReckoner$Journal" "cancelled" "[Z" (by decide +kernel)
  have fn99 := hN.f (args := args) "GainsReckoner" 99 "GainsReckoner$Journal" "share" "[I" (by decide +kernel)
  have fn102 := hN.f (args := args) "GainsReckoner" 102 "GainsReckoner$Journal" "day" "[I" (by decide +kernel)
  have fn105 := hN.f (args := args) "GainsReckoner" 105 "GainsReckoner$Journal" "sale" "[Z" (by decide +kernel)
  have fl29 := hts (.fieldLink RX5 29 "GainsReckoner" "window" "I") (by decide +kernel)
  have fn108 := hN.f (args := args) "GainsReckoner" 108 "GainsReckoner$Journal" "count" "[I" (by decide +kernel)
  have hn6 := hX.1.n60
  have hbt := hX.1.2.1.2 t ht
  have hxt := hX.2.1.2.2.1 t ht
  have hBB : BV (canM b t) := (canM_J hX.1.j).v (by
    by_cases x : b 5 t = 0
    · exact can_buy hX.1 ht hg x hv (hsp x)
    · exact can_sale hX.1 ht hg x)
  refine lv_iload_n hx hb dX5_cancel_0 rfl (lv_at hl 1 rfl) ?_
  refine mk_if_lt (tgt := 15) hx hb dX5_cancel_1 (by decide) (by omega) (fun c_1 => ?_) (fun c_1 => ?_)
  · skip
    omega
  · skip
    refine lv_iload_n hx hb dX5_cancel_4 rfl (lv_at hl 1 rfl) ?_
    refine lv_aload_n hx hb dX5_cancel_5 rfl (lv_at hl 0 rfl) ?_
    refine mk_get (ci := 5) (C := RX5) (T := TX5) (N := 4) hx hb hts inX5 hown hK hW 0 (by decide) rfl rfl 0 (by decide) fl10 (fun _ h9 => h9) rfl dX5_cancel_6 ?_
    refine mk_getN (ci := 0) (C := RX0) (T := TX0) (N := 7) hx hb hts inX0 hown hK hW 1 (by decide) rfl rfl 6 (by decide) fn87 (fun _ h9 => h9) rfl dX5_cancel_9 ?_
    refine mk_sayi (y := (((bN b) : Nat) : Int)) (hX.2.1.n hX.1.j) ?_
    refine mk_icmp_lt (tgt := 25) hx hb dX5_cancel_12 (by decide) (by omega) (by omega) (fun c_12 => ?_) (fun c_12 => ?_)
    · skip
      refine lv_aload_n hx hb dX5_cancel_25 rfl (lv_at hl 0 rfl) ?_
      refine mk_get (ci := 5) (C := RX5) (T := TX5) (N := 4) hx hb hts inX5 hown hK hW 0 (by decide) rfl rfl 0 (by decide) fl10 (fun _ h9 => h9) rfl dX5_cancel_26 ?_
      refine mk_getN (ci := 0) (C := RX0) (T := TX0) (N := 7) hx hb hts inX0 hown hK hW 1 (by decide) rfl rfl 1 (by decide) fn93 (fun _ h9 => h9) rfl dX5_cancel_29 ?_
      refine lv_iload_n hx hb dX5_cancel_32 rfl (lv_at hl 1 rfl) ?_
      refine mk_zald hx hb hK hW 3 (by decide) rfl 1 rfl (j := t) rfl (by omega) (by decide) dX5_cancel_33 ?_
      refine mk_sayi (y := (b 6 t)) hxt.2.2.2.2.2 ?_
      refine mk_if_eq (tgt := 47) hx hb dX5_cancel_34 (by decide) (by omega) (fun c_34 => ?_) (fun c_34 => ?_)
      · skip
        refine lv_aload_n hx hb dX5_cancel_47 rfl (lv_at hl 0 rfl) ?_
        refine lv_aload_n hx hb dX5_cancel_48 rfl (lv_at hl 0 rfl) ?_
        refine mk_get (ci := 5) (C := RX5) (T := TX5) (N := 4) hx hb hts inX5 hown hK hW 0 (by decide) rfl rfl 0 (by decide) fl10 (fun _ h9 => h9) rfl dX5_cancel_49 ?_
        refine mk_getN (ci := 0) (C := RX0) (T := TX0) (N := 7) hx hb hts inX0 hown hK hW 1 (by decide) rfl rfl 2 (by decide) fn99 (fun _ h9 => h9) rfl dX5_cancel_52 ?_
        refine lv_iload_n hx hb dX5_cancel_55 rfl (lv_at hl 1 rfl) ?_
        refine mk_iald hx hb hK hW 4 (by decide) rfl 0 rfl (j := t) rfl (by omega) (by decide) dX5_cancel_56 ?_
        refine mk_sayi (y := 0) (hxt.1.trans hv) ?_
        refine lv_aload_n hx hb dX5_cancel_57 rfl (lv_at hl 0 rfl) ?_
        refine mk_get (ci := 5) (C := RX5) (T := TX5) (N := 4) hx hb hts inX5 hown hK hW 0 (by decide) rfl rfl 0 (by decide) fl10 (fun _ h9 => h9) rfl dX5_cancel_58 ?_
        refine mk_getN (ci := 0) (C := RX0) (T := TX0) (N := 7) hx hb hts inX0 hown hK hW 1 (by decide) rfl rfl 3 (by decide) fn102 (fun _ h9 => h9) rfl dX5_cancel_61 ?_
        refine lv_iload_n hx hb dX5_cancel_64 rfl (lv_at hl 1 rfl) ?_
        refine mk_iald hx hb hK hW 5 (by decide) rfl 0 rfl (j := t) rfl (by omega) (by decide) dX5_cancel_65 ?_
        refine mk_sayi (y := (b 2 t)) hxt.2.1 ?_
        refine mk_goR (st9 := st) (va_runV (As := [.int (iI 0), .int (iI (b 2 t))]) (rest := []) ⟨hx, hb, hml, hown, hts⟩ (c_X5_ledgerAt_0 l cg D ad st (b 2 t) hbt.2.2.2.1) (cwV 2 hts gX5_cancel_X5_ledgerAt rfl rfl rfl (by decide +kernel) ⟨Nat.le_of_ble_eq_true rfl, Nat.le_of_ble_eq_true rfl⟩) (mk_preV hK hN hW 0 (by decide) rfl rfl rfl) rfl rfl hl.1 rfl (lv_room (Nat.le_of_ble_eq_true rfl)) dX5_cancel_66 ⟨Nat.zero_le _, Nat.zero_le _⟩) hW (fun H locs hW => ?_)
        refine lv_astore_n (lv' := [(2, .ref (ad 9)), (0, .ref (ad 0)), (1, .int (iI ((t : Nat) : Int)))]) hx hb dX5_cancel_69 rfl hl (by decide) rfl (fun ls hl => ?_)
        refine lv_aload_n hx hb dX5_cancel_70 rfl (lv_at hl 1 rfl) ?_
        refine mk_get (ci := 5) (C := RX5) (T := TX5) (N := 4) hx hb hts inX5 hown hK hW 0 (by decide) rfl rfl 0 (by decide) fl10 (fun _ h9 => h9) rfl dX5_cancel_71 ?_
        refine mk_getN (ci := 0) (C := RX0) (T := TX0) (N := 7) hx hb hts inX0 hown hK hW 1 (by decide) rfl rfl 0 (by decide) fn105 (fun _ h9 => h9) rfl dX5_cancel_74 ?_
        refine lv_iload_n hx hb dX5_cancel_77 rfl (lv_at hl 2 rfl) ?_
        refine mk_zald hx hb hK hW 2 (by decide) rfl 1 rfl (j := t) rfl (by omega) (by decide) dX5_cancel_78 ?_
        refine mk_sayi (y := (b 5 t)) hxt.2.2.2.2.1 ?_
        refine mk_if_ne (tgt := 104) hx hb dX5_cancel_79 (by decide) (by omega) (fun c_79 => ?_) (fun c_79 => ?_)
        · skip
          refine lv_aload_n hx hb dX5_cancel_104 rfl (lv_at hl 1 rfl) ?_
          refine mk_get (ci := 5) (C := RX5) (T := TX5) (N := 4) hx hb hts inX5 hown hK hW 0 (by decide) rfl rfl 0 (by decide) fl10 (fun _ h9 => h9) rfl dX5_cancel_105 ?_
          refine mk_getN (ci := 0) (C := RX0) (T := TX0) (N := 7) hx hb hts inX0 hown hK hW 1 (by decide) rfl rfl 1 (by decide) fn93 (fun _ h9 => h9) rfl dX5_cancel_108 ?_
          refine lv_iload_n hx hb dX5_cancel_111 rfl (lv_at hl 2 rfl) ?_
          refine mk_iconst hx hb (1) dX5_cancel_112 ?_
          refine mk_zast hx hb hK hW 3 (by decide) (fun _ => rfl) 1 rfl (j := t) rfl (by omega) (by decide) (by omega) dX5_cancel_113 (fun H locs hW => ?_)
          obtain ⟨st1, est1⟩ : ∃ z, z = stC st 3 (fnU (st 3) t 1) := ⟨_, rfl⟩
          rw [← est1] at hW
          have hJ9 : XJ st1 (canM b t) := by rw [est1]; exact canX_J hX
          have h09 : sub (embL 0) st1 0 0 = ((0 : Nat) : Int) := by rw [est1, stC_sub (Or.inl (by omega)) (show 0 < 3 by omega) 0 (by omega)]; exact (hX.2.2.1 0 (by omega)).1
          refine lv_aload_n hx hb dX5_cancel_114 rfl (lv_at hl 0 rfl) ?_
          refine lv_aload_n hx hb dX5_cancel_115 rfl (lv_at hl 1 rfl) ?_
          refine mk_get (ci := 5) (C := RX5) (T := TX5) (N := 4) hx hb hts inX5 hown hK hW 0 (by decide) rfl rfl 0 (by decide) fl10 (fun _ h9 => h9) rfl dX5_cancel_116 ?_
          refine lv_aload_n hx hb dX5_cancel_119 rfl (lv_at hl 1 rfl) ?_
          refine mk_get (ci := 5) (C := RX5) (T := TX5) (N := 4) hx hb hts inX5 hown hK hW 0 (by decide) rfl rfl 3 (by decide) fl29 (fun _ h9 => h9) rfl dX5_cancel_120 ?_
          refine mk_sayi (y := (st 0 3)) (by rw [show st1 0 = st 0 from by rw [est1]; exact stC_ne (by decide)]) ?_
          refine mk_sayi (y := ((canM b t) 0 11)) hX.2.1.2.1 ?_
          refine mk_goVE (EmbL0 cg ad) (va_runV (As := [.ref (ad 1), .int (iI ((canM b t) 0 11))]) (rest := []) ⟨hx, hb, hml, hown, hts⟩ (c_X1_reckon l cg D (fun j => ad (embL 0 j)) (sub (embL 0) st1) 0 ((canM b t) 0 11) (bN (canM b t)) (bM (canM b t) 0) (hJ9.n hBB.j) (hJ9.J hBB.j) (hJ9.m hBB.j (show 0 < 3 by omega)) (hJ9.S hBB.j (show 0 < 3 by omega)) h09 (by omega) hBB.2.2.2.1 (fun d9 => by have h9 := hBB.2.2.2.2.1 0 (by omega) d9; rw [← hJ9.ho (show 0 < 3 by omega)] at h9; exact h9)) (cwV 2 hts gX5_cancel_X1_reckon rfl rfl rfl (by decide +kernel) ⟨Nat.le_of_ble_eq_true rfl, Nat.le_of_ble_eq_true rfl⟩) (mk_preV hK hN (hW.emb (EmbL0 cg ad)) 0 (by decide) rfl rfl rfl) rfl rfl hl.1 rfl (lv_room (Nat.le_of_ble_eq_true rfl)) dX5_cancel_123 ⟨Nat.zero_le _, Nat.zero_le _⟩) hW (fun st2 hp123 H locs hW => ?_)
          obtain ⟨st4, est4⟩ : ∃ z, z = up 28 (embL 0) st2 st1 := ⟨_, rfl⟩
          rw [← est4] at hW
          exact mk_retV hx hb hr hlocks hW (by
            have hz9 : ∀ k, bN (canM b t) ≤ k → k < 60 → st1 3 k = 0 := fun k h1 h2 => by
              rw [est1, stC_eq, fnU_ne (by have h3 : bN b ≤ k := h1; omega)]; exact hX.2.2.2 k h1 h2
            obtain ⟨g1, g2, g3, g4⟩ := reck_step (show 0 < 3 by omega) hJ9 hz9 h09 hp123.1 hp123.2
            rw [← est4] at g1 g2 g3 g4
            refine ⟨hBB, g1, fun u hu => ?_, g4⟩
            by_cases x : u = 0
            · rw [x]; exact g2
            · exact ((hX.2.2.1 u hu).se (canM_se (by rw [hv]; omega))).cells fun k hk => (g3 u hu x k hk).trans (by rw [est1]; exact stC_sub (Or.inl (by omega)) hu k hk)) dX5_cancel_126
        · skip
          refine lv_aload_n hx hb dX5_cancel_82 rfl (lv_at hl 0 rfl) ?_
          refine lv_aload_n hx hb dX5_cancel_83 rfl (lv_at hl 1 rfl) ?_
          refine mk_get (ci := 5) (C := RX5) (T := TX5) (N := 4) hx hb hts inX5 hown hK hW 0 (by decide) rfl rfl 0 (by decide) fl10 (fun _ h9 => h9) rfl dX5_cancel_84 ?_
          refine mk_getN (ci := 0) (C := RX0) (T := TX0) (N := 7) hx hb hts inX0 hown hK hW 1 (by decide) rfl rfl 3 (by decide) fn102 (fun _ h9 => h9) rfl dX5_cancel_87 ?_
          refine lv_iload_n hx hb dX5_cancel_90 rfl (lv_at hl 2 rfl) ?_
          refine mk_iald hx hb hK hW 5 (by decide) rfl 0 rfl (j := t) rfl (by omega) (by decide) dX5_cancel_91 ?_
          refine mk_sayi (y := (b 2 t)) hxt.2.1 ?_
          refine lv_aload_n hx hb dX5_cancel_92 rfl (lv_at hl 1 rfl) ?_
          refine mk_get (ci := 5) (C := RX5) (T := TX5) (N := 4) hx hb hts inX5 hown hK hW 0 (by decide) rfl rfl 0 (by decide) fl10 (fun _ h9 => h9) rfl dX5_cancel_93 ?_
          refine mk_getN (ci := 0) (C := RX0) (T := TX0) (N := 7) hx hb hts inX0 hown hK hW 1 (by decide) rfl rfl 4 (by decide) fn108 (fun _ h9 => h9) rfl dX5_cancel_96 ?_
          refine lv_iload_n hx hb dX5_cancel_99 rfl (lv_at hl 2 rfl) ?_
          refine mk_iald hx hb hK hW 6 (by decide) rfl 0 rfl (j := t) rfl (by omega) (by decide) dX5_cancel_100 ?_
          refine mk_sayi (y := (b 3 t)) hxt.2.2.1 ?_
          refine mk_goV (va_runS (As := [.ref (ad 9), .int (iI (b 2 t)), .int (iI (b 3 t))]) (rest := []) ⟨hx, hb, hml, hown, hts⟩ (c_X5_checkCanSpare_0 l cg D ad st b hX (b 2 t) (b 3 t) hbt.2.2.2.1 hbt.2.2.2.2.1 (hsp (by omega))) (cwS 3 hts gX5_cancel_X5_checkCanSpare rfl rfl rfl (by decide +kernel) ⟨Nat.le_of_ble_eq_true rfl, Nat.le_of_ble_eq_true rfl⟩) (mk_preS hK hN hW) rfl rfl hl.1 rfl (lv_room (Nat.le_of_ble_eq_true rfl)) dX5_cancel_101 ⟨Nat.zero_le _, Nat.zero_le _⟩) hW (fun st5 hp101 H locs hW => ?_)
          rw [hp101] at hW
          refine lv_aload_n hx hb dX5_cancel_104 rfl (lv_at hl 1 rfl) ?_
          refine mk_get (ci := 5) (C := RX5) (T := TX5) (N := 4) hx hb hts inX5 hown hK hW 0 (by decide) rfl rfl 0 (by decide) fl10 (fun _ h9 => h9) rfl dX5_cancel_105 ?_
          refine mk_getN (ci := 0) (C := RX0) (T := TX0) (N := 7) hx hb hts inX0 hown hK hW 1 (by decide) rfl rfl 1 (by decide) fn93 (fun _ h9 => h9) rfl dX5_cancel_108 ?_
          refine lv_iload_n hx hb dX5_cancel_111 rfl (lv_at hl 2 rfl) ?_
          refine mk_iconst hx hb (1) dX5_cancel_112 ?_
          refine mk_zast hx hb hK hW 3 (by decide) (fun _ => rfl) 1 rfl (j := t) rfl (by omega) (by decide) (by omega) dX5_cancel_113 (fun H locs hW => ?_)
          obtain ⟨st7, est7⟩ : ∃ z, z = stC st 3 (fnU (st 3) t 1) := ⟨_, rfl⟩
          rw [← est7] at hW
          have hJ9 : XJ st7 (canM b t) := by rw [est7]; exact canX_J hX
          have h09 : sub (embL 0) st7 0 0 = ((0 : Nat) : Int) := by rw [est7, stC_sub (Or.inl (by omega)) (show 0 < 3 by omega) 0 (by omega)]; exact (hX.2.2.1 0 (by omega)).1
          refine lv_aload_n hx hb dX5_cancel_114 rfl (lv_at hl 0 rfl) ?_
          refine lv_aload_n hx hb dX5_cancel_115 rfl (lv_at hl 1 rfl) ?_
          refine mk_get (ci := 5) (C := RX5) (T := TX5) (N := 4) hx hb hts inX5 hown hK hW 0 (by decide) rfl rfl 0 (by decide) fl10 (fun _ h9 => h9) rfl dX5_cancel_116 ?_
          refine lv_aload_n hx hb dX5_cancel_119 rfl (lv_at hl 1 rfl) ?_
          refine mk_get (ci := 5) (C := RX5) (T := TX5) (N := 4) hx hb hts inX5 hown hK hW 0 (by decide) rfl rfl 3 (by decide) fl29 (fun _ h9 => h9) rfl dX5_cancel_120 ?_
          refine mk_sayi (y := (st 0 3)) (by rw [show st7 0 = st 0 from by rw [est7]; exact stC_ne (by decide)]) ?_
          refine mk_sayi (y := ((canM b t) 0 11)) hX.2.1.2.1 ?_
          refine mk_goVE (EmbL0 cg ad) (va_runV (As := [.ref (ad 1), .int (iI ((canM b t) 0 11))]) (rest := []) ⟨hx, hb, hml, hown, hts⟩ (c_X1_reckon l cg D (fun j => ad (embL 0 j)) (sub (embL 0) st7) 0 ((canM b t) 0 11) (bN (canM b t)) (bM (canM b t) 0) (hJ9.n hBB.j) (hJ9.J hBB.j) (hJ9.m hBB.j (show 0 < 3 by omega)) (hJ9.S hBB.j (show 0 < 3 by omega)) h09 (by omega) hBB.2.2.2.1 (fun d9 => by have h9 := hBB.2.2.2.2.1 0 (by omega) d9; rw [← hJ9.ho (show 0 < 3 by omega)] at h9; exact h9)) (cwV 2 hts gX5_cancel_X1_reckon rfl rfl rfl (by decide +kernel) ⟨Nat.le_of_ble_eq_true rfl, Nat.le_of_ble_eq_true rfl⟩) (mk_preV hK hN (hW.emb (EmbL0 cg ad)) 0 (by decide) rfl rfl rfl) rfl rfl hl.1 rfl (lv_room (Nat.le_of_ble_eq_true rfl)) dX5_cancel_123 ⟨Nat.zero_le _, Nat.zero_le _⟩) hW (fun st8 hp123 H locs hW => ?_)
          obtain ⟨st10, est10⟩ : ∃ z, z = up 28 (embL 0) st8 st7 := ⟨_, rfl⟩
          rw [← est10] at hW
          exact mk_retV hx hb hr hlocks hW (by
            have hz9 : ∀ k, bN (canM b t) ≤ k → k < 60 → st7 3 k = 0 := fun k h1 h2 => by
              rw [est7, stC_eq, fnU_ne (by have h3 : bN b ≤ k := h1; omega)]; exact hX.2.2.2 k h1 h2
            obtain ⟨g1, g2, g3, g4⟩ := reck_step (show 0 < 3 by omega) hJ9 hz9 h09 hp123.1 hp123.2
            rw [← est10] at g1 g2 g3 g4
            refine ⟨hBB, g1, fun u hu => ?_, g4⟩
            by_cases x : u = 0
            · rw [x]; exact g2
            · exact ((hX.2.2.1 u hu).se (canM_se (by rw [hv]; omega))).cells fun k hk => (g3 u hu x k hk).trans (by rw [est7]; exact stC_sub (Or.inl (by omega)) hu k hk)) dX5_cancel_126
      · skip
        omega
    · skip
      omega

set_option maxHeartbeats 4000000 in
set_option maxRecDepth 100000 in
theorem c_X5_buy_1 (l : Launch) (cg : Nat → ClassId) (D : va_G) (ad : Nat → Nat) (st : Nat → Nat → Int) (b : Nat → Nat → Int) (hX : XI st b) (d ct mo : Int) (hn60 : bN b < 60) (hd : 0 ≤ d ∧ d < 1825) (hc : 1 ≤ ct ∧ ct ≤ 1000) (hm : 0 ≤ mo ∧ mo ≤ 1000000) : MI l yX5_buy wsX5_buy ({ frames := 5, cells := 0, slots := 0, locals := 130 }) D vwCl (TY cg) 73 (celX cg) ad st [.ref (ad 0), .int (iI 1), .int (iI d), .int (iI ct), .int (iI mo)] (fun z st1 => XI st1 (entM b ((1 : Nat) : Int) d ct mo 0) ∧ z = bN b) := by
  refine mk_open (cc := cX5_buy) (maxL := 7) (ret := (some .int)) (by decide) rfl (Nat.le_of_ble_eq_true rfl) ?_
  intro p e s m args below meth c hx hb hml hr hown hts hlocks hK hN hargs ls hl hW
  have hown : s.vm.findClass RX5 = some m.cls := hown
  have hl : lv_has ls 7 [(0, .ref (ad 0)), (1, .int (iI 1)), (2, .int (iI d)), (3, .int (iI ct)), (4, .int (iI mo))] := hl
  have inX5 : ∀ w ∈ wsX50, w ∈ wsX5_buy := by decide +kernel
  have fl10 := hts (.fieldLink RX5 10 "GainsReckoner" "journal" "LGainsReckoner$Journal;") (by decide +kernel)
  have fl29 := hts (.fieldLink RX5 29 "GainsReckoner" "window" "I") (by decide +kernel)
  have hBB : BV (entM b ((1 : Nat) : Int) d ct mo 0) := (entM_J hX.1.j hn60 (by omega) hd hc hm (by omega)).v (buy_yes hX.1 (by omega))
  refine lv_aload_n hx hb dX5_buy_0 rfl (lv_at hl 0 rfl) ?_
  refine lv_iload_n hx hb dX5_buy_1 rfl (lv_at hl 1 rfl) ?_
  refine lv_iload_n hx hb dX5_buy_2 rfl (lv_at hl 2 rfl) ?_
  refine mk_goR (st9 := st) (va_runV (As := [.int (iI 1), .int (iI d)]) (rest := []) ⟨hx, hb, hml, hown, hts⟩ (c_X5_ledgerAt_1 l cg D ad st d (by omega)) (cwV 2 hts gX5_buy_X5_ledgerAt rfl rfl rfl (by decide +kernel) ⟨Nat.le_of_ble_eq_true rfl, Nat.le_of_ble_eq_true rfl⟩) (mk_preV hK hN hW 0 (by decide) rfl rfl rfl) rfl rfl hl.1 rfl (lv_room (Nat.le_of_ble_eq_true rfl)) dX5_buy_3 ⟨Nat.zero_le _, Nat.zero_le _⟩) hW (fun H locs hW => ?_)
  refine lv_astore (lv' := [(5, .ref (ad 30)), (0, .ref (ad 0)), (1, .int (iI 1)), (2, .int (iI d)), (3, .int (iI ct)), (4, .int (iI mo))]) hx hb dX5_buy_6 hl (by decide) rfl (fun ls hl => ?_)
  refine lv_iload_n hx hb dX5_buy_8 rfl (lv_at hl 4 rfl) ?_
  refine lv_iload hx hb dX5_buy_9 (lv_at hl 5 rfl) ?_
  refine mk_goV (va_runS (As := [.int (iI ct), .int (iI mo)]) (rest := []) ⟨hx, hb, hml, hown, hts⟩ (c_X5_checkTrade l cg D ad st ct mo hc hm) (cwS 2 hts gX5_buy_X5_checkTrade rfl rfl rfl (by decide +kernel) ⟨Nat.le_of_ble_eq_true rfl, Nat.le_of_ble_eq_true rfl⟩) (mk_preS hK hN hW) rfl rfl hl.1 rfl (lv_room (Nat.le_of_ble_eq_true rfl)) dX5_buy_11 ⟨Nat.zero_le _, Nat.zero_le _⟩) hW (fun st1 hp11 H locs hW => ?_)
  rw [hp11] at hW
  refine lv_aload_n hx hb dX5_buy_14 rfl (lv_at hl 1 rfl) ?_
  refine mk_goV (va_runV (As := []) (rest := []) ⟨hx, hb, hml, hown, hts⟩ (c_X5_checkRoomForTrade l cg D ad st (bN b) (hX.2.1.n hX.1.j) hn60) (cwV 0 hts gX5_buy_X5_checkRoomForTrade rfl rfl rfl (by decide +kernel) ⟨Nat.le_of_ble_eq_true rfl, Nat.le_of_ble_eq_true rfl⟩) (mk_preV hK hN hW 0 (by decide) rfl rfl rfl) rfl rfl hl.1 rfl (lv_room (Nat.le_of_ble_eq_true rfl)) dX5_buy_15 ⟨Nat.zero_le _, Nat.zero_le _⟩) hW (fun st3 hp15 H locs hW => ?_)
  rw [hp15] at hW
  refine lv_aload_n hx hb dX5_buy_18 rfl (lv_at hl 1 rfl) ?_
  refine mk_get (ci := 5) (C := RX5) (T := TX5) (N := 4) hx hb hts inX5 hown hK hW 0 (by decide) rfl rfl 0 (by decide) fl10 (fun _ h9 => h9) rfl dX5_buy_19 ?_
  refine mk_iconst hx hb (0) dX5_buy_22 ?_
  refine lv_iload_n hx hb dX5_buy_23 rfl (lv_at hl 2 rfl) ?_
  refine lv_iload_n hx hb dX5_buy_24 rfl (lv_at hl 3 rfl) ?_
  refine lv_iload_n hx hb dX5_buy_25 rfl (lv_at hl 4 rfl) ?_
  refine lv_iload hx hb dX5_buy_26 (lv_at hl 5 rfl) ?_
  refine mk_goI (va_runV (As := [.int (iI 0), .int (iI 1), .int (iI d), .int (iI ct), .int (iI mo)]) (rest := []) ⟨hx, hb, hml, hown, hts⟩ (c_X0_enter l cg D ad st 0 1 d ct mo (bN b) (hX.2.1.n hX.1.j) hn60 (by omega)) (cwV 5 hts gX5_buy_X0_enter rfl rfl rfl (by decide +kernel) ⟨Nat.le_of_ble_eq_true rfl, Nat.le_of_ble_eq_true rfl⟩) (mk_preV hK hN hW 1 (by decide) rfl rfl rfl) rfl rfl hl.1 rfl (lv_room (Nat.le_of_ble_eq_true rfl)) dX5_buy_28 ⟨Nat.zero_le _, Nat.zero_le _⟩) hW (fun z st5 hp28 H locs hW => ?_)
  obtain ⟨est5, hz⟩ := hp28
  have est5 : st5 = entX st (bN b) 0 ((1 : Nat) : Int) d ct mo := est5
  have hfr : Fr [1, 2, 4, 5, 6, 7] st st5 := by rw [est5]; exact entX_fr
  have hJ9 : XJ st5 (entM b ((1 : Nat) : Int) d ct mo 0) := by rw [est5]; exact entX_J hX hn60
  have h09 : sub (embL 1) st5 0 0 = ((1 : Nat) : Int) := by rw [est5, entX_sub 1 0 (by omega)]; exact (hX.2.2.1 1 (by omega)).1
  refine lv_istore (lv' := [(6, .int (iI z)), (5, .ref (ad 30)), (0, .ref (ad 0)), (1, .int (iI 1)), (2, .int (iI d)), (3, .int (iI ct)), (4, .int (iI mo))]) hx hb dX5_buy_31 hl (by decide) rfl (fun ls hl => ?_)
  refine lv_aload hx hb dX5_buy_33 (lv_at hl 1 rfl) ?_
  refine lv_aload_n hx hb dX5_buy_35 rfl (lv_at hl 2 rfl) ?_
  refine mk_get (ci := 5) (C := RX5) (T := TX5) (N := 4) hx hb hts inX5 hown hK hW 0 (by decide) rfl rfl 0 (by decide) fl10 (fun _ h9 => h9) rfl dX5_buy_36 ?_
  refine lv_aload_n hx hb dX5_buy_39 rfl (lv_at hl 2 rfl) ?_
  refine mk_get (ci := 5) (C := RX5) (T := TX5) (N := 4) hx hb hts inX5 hown hK hW 0 (by decide) rfl rfl 3 (by decide) fl29 (fun _ h9 => h9) rfl dX5_buy_40 ?_
  refine mk_sayi (y := (st 0 3)) (by rw [hfr 0 (by decide)]) ?_
  refine mk_sayi (y := ((entM b ((1 : Nat) : Int) d ct mo 0) 0 11)) hX.2.1.2.1 ?_
  refine mk_goVE (EmbL1 cg ad) (va_runV (As := [.ref (ad 1), .int (iI ((entM b ((1 : Nat) : Int) d ct mo 0) 0 11))]) (rest := []) ⟨hx, hb, hml, hown, hts⟩ (c_X1_reckon l cg D (fun j => ad (embL 1 j)) (sub (embL 1) st5) 1 ((entM b ((1 : Nat) : Int) d ct mo 0) 0 11) (bN (entM b ((1 : Nat) : Int) d ct mo 0)) (bM (entM b ((1 : Nat) : Int) d ct mo 0) 1) (hJ9.n hBB.j) (hJ9.J hBB.j) (hJ9.m hBB.j (show 1 < 3 by omega)) (hJ9.S hBB.j (show 1 < 3 by omega)) h09 (by omega) hBB.2.2.2.1 (fun d9 => by have h9 := hBB.2.2.2.2.1 1 (by omega) d9; rw [← hJ9.ho (show 1 < 3 by omega)] at h9; exact h9)) (cwV 2 hts gX5_buy_X1_reckon rfl rfl rfl (by decide +kernel) ⟨Nat.le_of_ble_eq_true rfl, Nat.le_of_ble_eq_true rfl⟩) (mk_preV hK hN (hW.emb (EmbL1 cg ad)) 0 (by decide) rfl rfl rfl) rfl rfl hl.1 rfl (lv_room (Nat.le_of_ble_eq_true rfl)) dX5_buy_43 ⟨Nat.zero_le _, Nat.zero_le _⟩) hW (fun st6 hp43 H locs hW => ?_)
  obtain ⟨st8, est8⟩ : ∃ z, z = up 28 (embL 1) st6 st5 := ⟨_, rfl⟩
  rw [← est8] at hW
  rw [est5] at hp43
  refine lv_iload hx hb dX5_buy_46 (lv_at hl 0 rfl) ?_
  exact mk_retI hx hb hr hlocks hW ⟨by rw [est8, est5]; exact entX_reck (show 1 < 3 by omega) hX hn60 hBB hp43.1 hp43.2, hz⟩ dX5_buy_48

set_option maxHeartbeats 4000000 in
set_option maxRecDepth 100000 in
theorem c_X5_sell_1 (l : Launch) (cg : Nat → ClassId) (D : va_G) (ad : Nat → Nat) (st : Nat → Nat → Int) (b : Nat → Nat → Int) (hX : XI st b) (d ct mo : Int) (hn60 : bN b < 60) (hd : 0 ≤ d ∧ d < 1825) (hc : 1 ≤ ct ∧ ct ≤ 1000) (hm : 0 ≤ mo ∧ mo ≤ 1000000) (hsp : ∀ e, d ≤ e → ct * fla (bSD b 1) (bSF b 1) (bM b 1) d ≤ bH b 1 e) : MI l yX5_sell wsX5_sell ({ frames := 5, cells := 0, slots := 0, locals := 130 }) D vwCl (TY cg) 73 (celX cg) ad st [.ref (ad 0), .int (iI 1), .int (iI d), .int (iI ct), .int (iI mo)] (fun z st1 => XI st1 (entM b ((1 : Nat) : Int) d ct mo 1) ∧ z = bN b) := by
  refine mk_open (cc := cX5_sell) (maxL := 7) (ret := (some .int)) (by decide) rfl (Nat.le_of_ble_eq_true rfl) ?_
  intro p e s m args below meth c hx hb hml hr hown hts hlocks hK hN hargs ls hl hW
  have hown : s.vm.findClass RX5 = some m.cls := hown
  have hl : lv_has ls 7 [(0, .ref (ad 0)), (1, .int (iI 1)), (2, .int (iI d)), (3, .int (iI ct)), (4, .int (iI mo))] := hl
  have inX5 : ∀ w ∈ wsX50, w ∈ wsX5_sell := by decide +kernel
  have fl10 := hts (.fieldLink RX5 10 "GainsReckoner" "journal" "LGainsReckoner$Journal;") (by decide +kernel)
  have fl29 := hts (.fieldLink RX5 29 "GainsReckoner" "window" "I") (by decide +kernel)
  have hBB : BV (entM b ((1 : Nat) : Int) d ct mo 1) := (entM_J hX.1.j hn60 (by omega) hd hc hm (by omega)).v (sell_yes hX.1 hsp)
  refine lv_aload_n hx hb dX5_sell_0 rfl (lv_at hl 0 rfl) ?_
  refine lv_iload_n hx hb dX5_sell_1 rfl (lv_at hl 1 rfl) ?_
  refine lv_iload_n hx hb dX5_sell_2 rfl (lv_at hl 2 rfl) ?_
  refine mk_goR (st9 := st) (va_runV (As := [.int (iI 1), .int (iI d)]) (rest := []) ⟨hx, hb, hml, hown, hts⟩ (c_X5_ledgerAt_1 l cg D ad st d (by omega)) (cwV 2 hts gX5_sell_X5_ledgerAt rfl rfl rfl (by decide +kernel) ⟨Nat.le_of_ble_eq_true rfl, Nat.le_of_ble_eq_true rfl⟩) (mk_preV hK hN hW 0 (by decide) rfl rfl rfl) rfl rfl hl.1 rfl (lv_room (Nat.le_of_ble_eq_true rfl)) dX5_sell_3 ⟨Nat.zero_le _, Nat.zero_le _⟩) hW (fun H locs hW => ?_)
  refine lv_astore (lv' := [(5, .ref (ad 30)), (0, .ref (ad 0)), (1, .int (iI 1)), (2, .int (iI d)), (3, .int (iI ct)), (4, .int (iI mo))]) hx hb dX5_sell_6 hl (by decide) rfl (fun ls hl => ?_)
  refine lv_iload_n hx hb dX5_sell_8 rfl (lv_at hl 4 rfl) ?_
  refine lv_iload hx hb dX5_sell_9 (lv_at hl 5 rfl) ?_
  refine mk_goV (va_runS (As := [.int (iI ct), .int (iI mo)]) (rest := []) ⟨hx, hb, hml, hown, hts⟩ (c_X5_checkTrade l cg D ad st ct mo hc hm) (cwS 2 hts gX5_sell_X5_checkTrade rfl rfl rfl (by decide +kernel) ⟨Nat.le_of_ble_eq_true rfl, Nat.le_of_ble_eq_true rfl⟩) (mk_preS hK hN hW) rfl rfl hl.1 rfl (lv_room (Nat.le_of_ble_eq_true rfl)) dX5_sell_11 ⟨Nat.zero_le _, Nat.zero_le _⟩) hW (fun st1 hp11 H locs hW => ?_)
  rw [hp11] at hW
  refine lv_aload_n hx hb dX5_sell_14 rfl (lv_at hl 1 rfl) ?_
  refine mk_goV (va_runV (As := []) (rest := []) ⟨hx, hb, hml, hown, hts⟩ (c_X5_checkRoomForTrade l cg D ad st (bN b) (hX.2.1.n hX.1.j) hn60) (cwV 0 hts gX5_sell_X5_checkRoomForTrade rfl rfl rfl (by decide +kernel) ⟨Nat.le_of_ble_eq_true rfl, Nat.le_of_ble_eq_true rfl⟩) (mk_preV hK hN hW 0 (by decide) rfl rfl rfl) rfl rfl hl.1 rfl (lv_room (Nat.le_of_ble_eq_true rfl)) dX5_sell_15 ⟨Nat.zero_le _, Nat.zero_le _⟩) hW (fun st3 hp15 H locs hW => ?_)
  rw [hp15] at hW
  refine lv_aload hx hb dX5_sell_18 (lv_at hl 0 rfl) ?_
  refine lv_iload_n hx hb dX5_sell_20 rfl (lv_at hl 3 rfl) ?_
  refine lv_iload_n hx hb dX5_sell_21 rfl (lv_at hl 4 rfl) ?_
  refine mk_goV (va_runS (As := [.ref (ad 30), .int (iI d), .int (iI ct)]) (rest := []) ⟨hx, hb, hml, hown, hts⟩ (c_X5_checkCanSpare_1 l cg D ad st b hX d ct hd hc hsp) (cwS 3 hts gX5_sell_X5_checkCanSpare rfl rfl rfl (by decide +kernel) ⟨Nat.le_of_ble_eq_true rfl, Nat.le_of_ble_eq_true rfl⟩) (mk_preS hK hN hW) rfl rfl hl.1 rfl (lv_room (Nat.le_of_ble_eq_true rfl)) dX5_sell_22 ⟨Nat.zero_le _, Nat.zero_le _⟩) hW (fun st5 hp22 H locs hW => ?_)
  rw [hp22] at hW
  refine lv_aload_n hx hb dX5_sell_25 rfl (lv_at hl 1 rfl) ?_
  refine mk_get (ci := 5) (C := RX5) (T := TX5) (N := 4) hx hb hts inX5 hown hK hW 0 (by decide) rfl rfl 0 (by decide) fl10 (fun _ h9 => h9) rfl dX5_sell_26 ?_
  refine mk_iconst hx hb (1) dX5_sell_29 ?_
  refine lv_iload_n hx hb dX5_sell_30 rfl (lv_at hl 2 rfl) ?_
  refine lv_iload_n hx hb dX5_sell_31 rfl (lv_at hl 3 rfl) ?_
  refine lv_iload_n hx hb dX5_sell_32 rfl (lv_at hl 4 rfl) ?_
  refine lv_iload hx hb dX5_sell_33 (lv_at hl 5 rfl) ?_
  refine mk_goI (va_runV (As := [.int (iI 1), .int (iI 1), .int (iI d), .int (iI ct), .int (iI mo)]) (rest := []) ⟨hx, hb, hml, hown, hts⟩ (c_X0_enter l cg D ad st 1 1 d ct mo (bN b) (hX.2.1.n hX.1.j) hn60 (by omega)) (cwV 5 hts gX5_sell_X0_enter rfl rfl rfl (by decide +kernel) ⟨Nat.le_of_ble_eq_true rfl, Nat.le_of_ble_eq_true rfl⟩) (mk_preV hK hN hW 1 (by decide) rfl rfl rfl) rfl rfl hl.1 rfl (lv_room (Nat.le_of_ble_eq_true rfl)) dX5_sell_35 ⟨Nat.zero_le _, Nat.zero_le _⟩) hW (fun z st7 hp35 H locs hW => ?_)
  obtain ⟨est7, hz⟩ := hp35
  have est7 : st7 = entX st (bN b) 1 ((1 : Nat) : Int) d ct mo := est7
  have hfr : Fr [1, 2, 4, 5, 6, 7] st st7 := by rw [est7]; exact entX_fr
  have hJ9 : XJ st7 (entM b ((1 : Nat) : Int) d ct mo 1) := by rw [est7]; exact entX_J hX hn60
  have h09 : sub (embL 1) st7 0 0 = ((1 : Nat) : Int) := by rw [est7, entX_sub 1 0 (by omega)]; exact (hX.2.2.1 1 (by omega)).1
  refine lv_istore (lv' := [(6, .int (iI z)), (5, .ref (ad 30)), (0, .ref (ad 0)), (1, .int (iI 1)), (2, .int (iI d)), (3, .int (iI ct)), (4, .int (iI mo))]) hx hb dX5_sell_38 hl (by decide) rfl (fun ls hl => ?_)
  refine lv_aload hx hb dX5_sell_40 (lv_at hl 1 rfl) ?_
  refine lv_aload_n hx hb dX5_sell_42 rfl (lv_at hl 2 rfl) ?_
  refine mk_get (ci := 5) (C := RX5) (T := TX5) (N := 4) hx hb hts inX5 hown hK hW 0 (by decide) rfl rfl 0 (by decide) fl10 (fun _ h9 => h9) rfl dX5_sell_43 ?_
  refine lv_aload_n hx hb dX5_sell_46 rfl (lv_at hl 2 rfl) ?_
  refine mk_get (ci := 5) (C := RX5) (T := TX5) (N := 4) hx hb hts inX5 hown hK hW 0 (by decide) rfl rfl 3 (by decide) fl29 (fun _ h9 => h9) rfl dX5_sell_47 ?_
  refine mk_sayi (y := (st 0 3)) (by rw [hfr 0 (by decide)]) ?_
  refine mk_sayi (y := ((entM b ((1 : Nat) : Int) d ct mo 1) 0 11)) hX.2.1.2.1 ?_
  refine mk_goVE (EmbL1 cg ad) (va_runV (As := [.ref (ad 1), .int (iI ((entM b ((1 : Nat) : Int) d ct mo 1) 0 11))]) (rest := []) ⟨hx, hb, hml, hown, hts⟩ (c_X1_reckon l cg D (fun j => ad (embL 1 j)) (sub (embL 1) st7) 1 ((entM b ((1 : Nat) : Int) d ct mo 1) 0 11) (bN (entM b ((1 : Nat) : Int) d ct mo 1)) (bM (entM b ((1 : Nat) : Int) d ct mo 1) 1) (hJ9.n hBB.j) (hJ9.J hBB.j) (hJ9.m hBB.j (show 1 < 3 by omega)) (hJ9.S hBB.j (show 1 < 3 by omega)) h09 (by omega) hBB.2.2.2.1 (fun d9 => by have h9 := hBB.2.2.2.2.1 1 (by omega) d9; rw [← hJ9.ho (show 1 < 3 by omega)] at h9; exact h9)) (cwV 2 hts gX5_sell_X1_reckon rfl rfl rfl (by decide +kernel) ⟨Nat.le_of_ble_eq_true rfl, Nat.le_of_ble_eq_true rfl⟩) (mk_preV hK hN (hW.emb (EmbL1 cg ad)) 0 (by decide) rfl rfl rfl) rfl rfl hl.1 rfl (lv_room (Nat.le_of_ble_eq_true rfl)) dX5_sell_50 ⟨Nat.zero_le _, Nat.zero_le _⟩) hW (fun st8 hp50 H locs hW => ?_)
  obtain ⟨st10, est10⟩ : ∃ z, z = up 28 (embL 1) st8 st7 := ⟨_, rfl⟩
  rw [← est10] at hW
  rw [est7] at hp50
  refine lv_iload hx hb dX5_sell_53 (lv_at hl 0 rfl) ?_
  exact mk_retI hx hb hr hlocks hW ⟨by rw [est10, est7]; exact entX_reck (show 1 < 3 by omega) hX hn60 hBB hp50.1 hp50.2, hz⟩ dX5_sell_55

set_option maxHeartbeats 4000000 in
set_option maxRecDepth 100000 in
theorem c_X5_split_1 (l : Launch) (cg : Nat → ClassId) (D : va_G) (ad : Nat → Nat) (st : Nat → Nat → Int) (b : Nat → Nat → Int) (hX : XI st b) (d f : Int) (hd : 0 ≤ d ∧ d < 1825) (hf9 : 2 ≤ f ∧ f ≤ 5) (hm4 : bM b 1 < 4) (hnd : ∀ j, j < bM b 1 → bSD b 1 j ≠ d) : MI l yX5_split wsX5_split ({ frames := 5, cells := 0, slots := 0, locals := 130 }) D vwCl (TY cg) 73 (celX cg) ad st [.ref (ad 0), .int (iI 1), .int (iI d), .int (iI f)] (fun z st1 => XI st1 (splM b 1 d f) ∧ z = (bM b 1 : Int) + 1) := by
  refine mk_open (cc := cX5_split) (maxL := 5) (ret := (some .int)) (by decide) rfl (Nat.le_of_ble_eq_true rfl) ?_
  intro p e s m args below meth c hx hb hml hr hown hts hlocks hK hN hargs ls hl hW
  have hown : s.vm.findClass RX5 = some m.cls := hown
  have hl : lv_has ls 5 [(0, .ref (ad 0)), (1, .int (iI 1)), (2, .int (iI d)), (3, .int (iI f))] := hl
  have inX1 : ∀ w ∈ wsX10, w ∈ wsX5_split := by decide +kernel
  have inX4 : ∀ w ∈ wsX40, w ∈ wsX5_split := by decide +kernel
  have inX5 : ∀ w ∈ wsX50, w ∈ wsX5_split := by decide +kernel
  have fn63 := hN.f (args := args) "GainsReckoner" 63 "GainsReckoner$Ledger" "splits" "LGainsReckoner$Splits;" (by decide +kernel)
  have fl10 := hts (.fieldLink RX5 10 "GainsReckoner" "journal" "LGainsReckoner$Journal;") (by decide +kernel)
  have fl29 := hts (.fieldLink RX5 29 "GainsReckoner" "window" "I") (by decide +kernel)
  have fn84 := hN.f (args := args) "GainsReckoner" 84 "GainsReckoner$Splits" "size" "I" (by decide +kernel)
  have hBB : BV (splM b 1 d f) := (splM_J hX.1.j (show 1 < 3 by omega) hm4 hd hf9).v (spl_yes hX.1 (show 1 < 3 by omega) hm4 hf9.1)
  have hmm := hX.2.1.m hX.1.j (show 1 < 3 by omega)
  have hSS := hX.2.1.S hX.1.j (show 1 < 3 by omega)
  refine lv_aload_n hx hb dX5_split_0 rfl (lv_at hl 0 rfl) ?_
  refine lv_iload_n hx hb dX5_split_1 rfl (lv_at hl 1 rfl) ?_
  refine lv_iload_n hx hb dX5_split_2 rfl (lv_at hl 2 rfl) ?_
  refine mk_goR (st9 := st) (va_runV (As := [.int (iI 1), .int (iI d)]) (rest := []) ⟨hx, hb, hml, hown, hts⟩ (c_X5_ledgerAt_1 l cg D ad st d (by omega)) (cwV 2 hts gX5_split_X5_ledgerAt rfl rfl rfl (by decide +kernel) ⟨Nat.le_of_ble_eq_true rfl, Nat.le_of_ble_eq_true rfl⟩) (mk_preV hK hN hW 0 (by decide) rfl rfl rfl) rfl rfl hl.1 rfl (lv_room (Nat.le_of_ble_eq_true rfl)) dX5_split_3 ⟨Nat.zero_le _, Nat.zero_le _⟩) hW (fun H locs hW => ?_)
  refine lv_astore (lv' := [(4, .ref (ad 30)), (0, .ref (ad 0)), (1, .int (iI 1)), (2, .int (iI d)), (3, .int (iI f))]) hx hb dX5_split_6 hl (by decide) rfl (fun ls hl => ?_)
  refine lv_iload_n hx hb dX5_split_8 rfl (lv_at hl 4 rfl) ?_
  refine mk_iconst hx hb (2) dX5_split_9 ?_
  refine mk_icmp_lt (tgt := 18) hx hb dX5_split_10 (by decide) (by omega) (by omega) (fun c_10 => ?_) (fun c_10 => ?_)
  · skip
    omega
  · skip
    refine lv_iload_n hx hb dX5_split_13 rfl (lv_at hl 4 rfl) ?_
    refine mk_iconst hx hb (5) dX5_split_14 ?_
    refine mk_icmp_le (tgt := 28) hx hb dX5_split_15 (by decide) (by omega) (by omega) (fun c_15 => ?_) (fun c_15 => ?_)
    · skip
      refine lv_aload hx hb dX5_split_28 (lv_at hl 0 rfl) ?_
      refine mk_getN (ci := 1) (C := RX1) (T := TX1) (N := 4) hx hb hts inX1 hown hK hW 30 (by decide) rfl rfl 1 (by decide) fn63 (fun _ h9 => h9) rfl dX5_split_30 ?_
      refine mk_goIE (EmbL1 cg ad) (va_runV (As := []) (rest := []) ⟨hx, hb, hml, hown, hts⟩ (c_X4_isFull l cg D (fun j => ad (embL 1 j)) (sub (embL 1) st) (bM b 1) hmm (by omega)) (cwV 0 hts gX5_split_X4_isFull rfl rfl rfl (by decide +kernel) ⟨Nat.le_of_ble_eq_true rfl, Nat.le_of_ble_eq_true rfl⟩) (mk_preV hK hN (hW.emb (EmbL1 cg ad)) 1 (by decide) rfl rfl rfl) rfl rfl hl.1 rfl (lv_room (Nat.le_of_ble_eq_true rfl)) dX5_split_33 ⟨Nat.zero_le _, Nat.zero_le _⟩) hW (fun z1 st1 hp33 H locs hW => ?_)
      obtain ⟨est1, hz1⟩ := hp33
      rw [est1, up_self (EmbL1 cg ad).2.1] at hW
      refine mk_if_ne (tgt := 51) hx hb dX5_split_36 (by decide) (by omega) (fun c_36 => ?_) (fun c_36 => ?_)
      · skip
        omega
      · skip
        refine lv_aload hx hb dX5_split_39 (lv_at hl 0 rfl) ?_
        refine mk_getN (ci := 1) (C := RX1) (T := TX1) (N := 4) hx hb hts inX1 hown hK hW 30 (by decide) rfl rfl 1 (by decide) fn63 (fun _ h9 => h9) rfl dX5_split_41 ?_
        refine lv_iload_n hx hb dX5_split_44 rfl (lv_at hl 3 rfl) ?_
        refine mk_goIE (EmbL1 cg ad) (va_runV (As := [.int (iI d)]) (rest := []) ⟨hx, hb, hml, hown, hts⟩ (c_X4_hasDay l cg D (fun j => ad (embL 1 j)) (sub (embL 1) st) d (bM b 1) hmm hSS (by omega)) (cwV 1 hts gX5_split_X4_hasDay rfl rfl rfl (by decide +kernel) ⟨Nat.le_of_ble_eq_true rfl, Nat.le_of_ble_eq_true rfl⟩) (mk_preV hK hN (hW.emb (EmbL1 cg ad)) 1 (by decide) rfl rfl rfl) rfl rfl hl.1 rfl (lv_room (Nat.le_of_ble_eq_true rfl)) dX5_split_45 ⟨Nat.zero_le _, Nat.zero_le _⟩) hW (fun z2 st2 hp45 H locs hW => ?_)
        obtain ⟨est2, hz2⟩ := hp45
        rw [est2, up_self (EmbL1 cg ad).2.1] at hW
        have hz20 : z2 = 0 := by
          rcases hz2 with ⟨h1, j, h2, h3⟩ | ⟨h1, h2⟩
          · exact absurd (by rw [show bSD b 1 j = b 8 (4 * 1 + j) from rfl, ← ((hX.2.1.2.2.2.1 1 (by omega)).2 j h2).1]; exact h3) (hnd j h2)
          · exact h1
        refine mk_if_eq (tgt := 61) hx hb dX5_split_48 (by decide) (by omega) (fun c_48 => ?_) (fun c_48 => ?_)
        · skip
          refine lv_aload hx hb dX5_split_61 (lv_at hl 0 rfl) ?_
          refine mk_getN (ci := 1) (C := RX1) (T := TX1) (N := 4) hx hb hts inX1 hown hK hW 30 (by decide) rfl rfl 1 (by decide) fn63 (fun _ h9 => h9) rfl dX5_split_63 ?_
          refine lv_iload_n hx hb dX5_split_66 rfl (lv_at hl 3 rfl) ?_
          refine lv_iload_n hx hb dX5_split_67 rfl (lv_at hl 4 rfl) ?_
          refine mk_goVE (EmbL1 cg ad) (va_runV (As := [.int (iI d), .int (iI f)]) (rest := []) ⟨hx, hb, hml, hown, hts⟩ (c_X4_enter l cg D (fun j => ad (embL 1 j)) (sub (embL 1) st) d f (bM b 1) hmm hm4) (cwV 2 hts gX5_split_X4_enter rfl rfl rfl (by decide +kernel) ⟨Nat.le_of_ble_eq_true rfl, Nat.le_of_ble_eq_true rfl⟩) (mk_preV hK hN (hW.emb (EmbL1 cg ad)) 1 (by decide) rfl rfl rfl) rfl rfl hl.1 rfl (lv_room (Nat.le_of_ble_eq_true rfl)) dX5_split_68 ⟨Nat.zero_le _, Nat.zero_le _⟩) hW (fun st3 hp68 H locs hW => ?_)
          obtain ⟨st5, est5⟩ : ∃ z, z = up 28 (embL 1) st3 st := ⟨_, rfl⟩
          rw [← est5] at hW
          have est3 : st3 = splL (sub (embL 1) st) (bM b 1) d f := hp68
          have hfs : Fr [1, 2, 3] (sub (embL 1) st) st3 := by rw [est3]; exact ((Fr.rf.st (by decide)).st (by decide)).st (by decide)
          rw [est3] at est5
          obtain ⟨hJ9, hoth, h09, hlow⟩ := splX_J (d := d) (f := f) (show 1 < 3 by omega) hX hm4
          rw [← est5] at hJ9 hoth h09 hlow
          refine lv_aload hx hb dX5_split_71 (lv_at hl 0 rfl) ?_
          refine lv_aload_n hx hb dX5_split_73 rfl (lv_at hl 1 rfl) ?_
          refine mk_get (ci := 5) (C := RX5) (T := TX5) (N := 4) hx hb hts inX5 hown hK hW 0 (by decide) rfl rfl 0 (by decide) fl10 (fun _ h9 => h9) rfl dX5_split_74 ?_
          refine lv_aload_n hx hb dX5_split_77 rfl (lv_at hl 1 rfl) ?_
          refine mk_get (ci := 5) (C := RX5) (T := TX5) (N := 4) hx hb hts inX5 hown hK hW 0 (by decide) rfl rfl 3 (by decide) fl29 (fun _ h9 => h9) rfl dX5_split_78 ?_
          refine mk_sayi (y := (st 0 3)) (by rw [show st5 0 = st 0 from by rw [est5]; exact up_out (by decide) _ _]) ?_
          refine mk_sayi (y := ((splM b 1 d f) 0 11)) hX.2.1.2.1 ?_
          refine mk_goVE (EmbL1 cg ad) (va_runV (As := [.ref (ad 1), .int (iI ((splM b 1 d f) 0 11))]) (rest := []) ⟨hx, hb, hml, hown, hts⟩ (c_X1_reckon l cg D (fun j => ad (embL 1 j)) (sub (embL 1) st5) 1 ((splM b 1 d f) 0 11) (bN (splM b 1 d f)) (bM (splM b 1 d f) 1) (hJ9.n hBB.j) (hJ9.J hBB.j) (hJ9.m hBB.j (show 1 < 3 by omega)) (hJ9.S hBB.j (show 1 < 3 by omega)) h09 (by omega) hBB.2.2.2.1 (fun d9 => by have h9 := hBB.2.2.2.2.1 1 (by omega) d9; rw [← hJ9.ho (show 1 < 3 by omega)] at h9; exact h9)) (cwV 2 hts gX5_split_X1_reckon rfl rfl rfl (by decide +kernel) ⟨Nat.le_of_ble_eq_true rfl, Nat.le_of_ble_eq_true rfl⟩) (mk_preV hK hN (hW.emb (EmbL1 cg ad)) 0 (by decide) rfl rfl rfl) rfl rfl hl.1 rfl (lv_room (Nat.le_of_ble_eq_true rfl)) dX5_split_81 ⟨Nat.zero_le _, Nat.zero_le _⟩) hW (fun st6 hp81 H locs hW => ?_)
          obtain ⟨st8, est8⟩ : ∃ z, z = up 28 (embL 1) st6 st5 := ⟨_, rfl⟩
          rw [← est8] at hW
          refine lv_aload hx hb dX5_split_84 (lv_at hl 0 rfl) ?_
          refine mk_getN (ci := 1) (C := RX1) (T := TX1) (N := 4) hx hb hts inX1 hown hK hW 30 (by decide) rfl rfl 1 (by decide) fn63 (fun _ h9 => h9) rfl dX5_split_86 ?_
          refine mk_getN (ci := 4) (C := RX4) (T := TX4) (N := 3) hx hb hts inX4 hown hK hW 31 (by decide) rfl rfl 2 (by decide) fn84 (fun _ h9 => h9) rfl dX5_split_89 ?_
          exact mk_retI hx hb hr hlocks hW (by
            have hz9 : ∀ k, bN (splM b 1 d f) ≤ k → k < 60 → st5 3 k = 0 := by rw [hlow 3 (by omega) (by omega)]; exact hX.2.2.2
            obtain ⟨g1, g2, g3, g4⟩ := reck_step (show 1 < 3 by omega) hJ9 hz9 h09 hp81.1 hp81.2
            rw [← est8] at g1 g2 g3 g4
            refine ⟨⟨hBB, g1, fun u hu => ?_, g4⟩, ?_⟩
            · by_cases x : u = 1
              · rw [x]; exact g2
              · exact ((hX.2.2.1 u hu).se (splM_se hm4 (hX.1.2.2.1 u hu).2.1 x)).cells fun k hk => (g3 u hu x k hk).trans (hoth u hu x k hk)
            · have g5 := g1.m hBB.j (show 1 < 3 by omega)
              rw [splM_M] at g5
              exact g5) dX5_split_92
        · skip
          omega
    · skip
      omega

set_option maxHeartbeats 4000000 in
set_option maxRecDepth 100000 in
theorem c_X5_cancel_1 (l : Launch) (cg : Nat → ClassId) (D : va_G) (ad : Nat → Nat) (st : Nat → Nat → Int) (b : Nat → Nat → Int) (hX : XI st b) (t : Nat) (ht : t < bN b) (hg : b 6 t = 0) (hv : b 1 t = ((1 : Nat) : Int)) (hsp : b 5 t = 0 → ∀ e, b 2 t ≤ e → bU b 1 t ≤ bH b 1 e) : MV l yX5_cancel wsX5_cancel ({ frames := 5, cells := 0, slots := 0, locals := 130 }) D vwCl (TY cg) 73 (celX cg) ad st [.ref (ad 0), .int (iI ((t : Nat) : Int))] (fun st1 => XI st1 (canM b t)) := by
  refine mk_open (cc := cX5_cancel) (maxL := 3) (ret := none) (by decide) rfl (Nat.le_of_ble_eq_true rfl) ?_
  intro p e s m args below meth c hx hb hml hr hown hts hlocks hK hN hargs ls hl hW
  have hown : s.vm.findClass RX5 = some m.cls := hown
  have hl : lv_has ls 3 [(0, .ref (ad 0)), (1, .int (iI ((t : Nat) : Int)))] := hl
  have inX0 : ∀ w ∈ wsX00, w ∈ wsX5_cancel := by decide +kernel
  have inX5 : ∀ w ∈ wsX50, w ∈ wsX5_cancel := by decide +kernel
  have fl10 := hts (.fieldLink RX5 10 "GainsReckoner" "journal" "LGainsReckoner$Journal;") (by decide +kernel)
  have fn87 := hN.f (args := args) "GainsReckoner" 87 "GainsReckoner$Journal" "size" "I" (by decide +kernel)
  have fn93 := hN.f (args := args) "GainsReckoner" 93 "GainsReckoner$Journal" "cancelled" "[Z" (by decide +kernel)
  have fn99 := hN.f (args := args) "GainsReckoner" 99 "GainsReckoner$Journal" "share" "[I" (by decide +kernel)
  have fn102 := hN.f (args := args) "GainsReckoner" 102 "GainsReckoner$Journal" "day" "[I" (by decide +kernel)
  have fn105 := hN.f (args := args) "GainsReckoner" 105 "GainsReckoner$Journal" "sale" "[Z" (by decide +kernel)
  have fl29 := hts (.fieldLink RX5 29 "GainsReckoner" "window" "I") (by decide +kernel)
  have fn108 := hN.f (args := args) "GainsReckoner" 108 "GainsReckoner$Journal" "count" "[I" (by decide +kernel)
  have hn6 := hX.1.n60
  have hbt := hX.1.2.1.2 t ht
  have hxt := hX.2.1.2.2.1 t ht
  have hBB : BV (canM b t) := (canM_J hX.1.j).v (by
    by_cases x : b 5 t = 0
    · exact can_buy hX.1 ht hg x hv (hsp x)
    · exact can_sale hX.1 ht hg x)
  refine lv_iload_n hx hb dX5_cancel_0 rfl (lv_at hl 1 rfl) ?_
  refine mk_if_lt (tgt := 15) hx hb dX5_cancel_1 (by decide) (by omega) (fun c_1 => ?_) (fun c_1 => ?_)
  · skip
    omega
  · skip
    refine lv_iload_n hx hb dX5_cancel_4 rfl (lv_at hl 1 rfl) ?_
    refine lv_aload_n hx hb dX5_cancel_5 rfl (lv_at hl 0 rfl) ?_
    refine mk_get (ci := 5) (C := RX5) (T := TX5) (N := 4) hx hb hts inX5 hown hK hW 0 (by decide) rfl rfl 0 (by decide) fl10 (fun _ h9 => h9) rfl dX5_cancel_6 ?_
    refine mk_getN (ci := 0) (C := RX0) (T := TX0) (N := 7) hx hb hts inX0 hown hK hW 1 (by decide) rfl rfl 6 (by decide) fn87 (fun _ h9 => h9) rfl dX5_cancel_9 ?_
    refine mk_sayi (y := (((bN b) : Nat) : Int)) (hX.2.1.n hX.1.j) ?_
    refine mk_icmp_lt (tgt := 25) hx hb dX5_cancel_12 (by decide) (by omega) (by omega) (fun c_12 => ?_) (fun c_12 => ?_)
    · skip
      refine lv_aload_n hx hb dX5_cancel_25 rfl (lv_at hl 0 rfl) ?_
      refine mk_get (ci := 5) (C := RX5) (T := TX5) (N := 4) hx hb hts inX5 hown hK hW 0 (by decide) rfl rfl 0 (by decide) fl10 (fun _ h9 => h9) rfl dX5_cancel_26 ?_
      refine mk_getN (ci := 0) (C := RX0) (T := TX0) (N := 7) hx hb hts inX0 hown hK hW 1 (by decide) rfl rfl 1 (by decide) fn93 (fun _ h9 => h9) rfl dX5_cancel_29 ?_
      refine lv_iload_n hx hb dX5_cancel_32 rfl (lv_at hl 1 rfl) ?_
      refine mk_zald hx hb hK hW 3 (by decide) rfl 1 rfl (j := t) rfl (by omega) (by decide) dX5_cancel_33 ?_
      refine mk_sayi (y := (b 6 t)) hxt.2.2.2.2.2 ?_
      refine mk_if_eq (tgt := 47) hx hb dX5_cancel_34 (by decide) (by omega) (fun c_34 => ?_) (fun c_34 => ?_)
      · skip
        refine lv_aload_n hx hb dX5_cancel_47 rfl (lv_at hl 0 rfl) ?_
        refine lv_aload_n hx hb dX5_cancel_48 rfl (lv_at hl 0 rfl) ?_
        refine mk_get (ci := 5) (C := RX5) (T := TX5) (N := 4) hx hb hts inX5 hown hK hW 0 (by decide) rfl rfl 0 (by decide) fl10 (fun _ h9 => h9) rfl dX5_cancel_49 ?_
        refine mk_getN (ci := 0) (C := RX0) (T := TX0) (N := 7) hx hb hts inX0 hown hK hW 1 (by decide) rfl rfl 2 (by decide) fn99 (fun _ h9 => h9) rfl dX5_cancel_52 ?_
        refine lv_iload_n hx hb dX5_cancel_55 rfl (lv_at hl 1 rfl) ?_
        refine mk_iald hx hb hK hW 4 (by decide) rfl 0 rfl (j := t) rfl (by omega) (by decide) dX5_cancel_56 ?_
        refine mk_sayi (y := 1) (hxt.1.trans hv) ?_
        refine lv_aload_n hx hb dX5_cancel_57 rfl (lv_at hl 0 rfl) ?_
        refine mk_get (ci := 5) (C := RX5) (T := TX5) (N := 4) hx hb hts inX5 hown hK hW 0 (by decide) rfl rfl 0 (by decide) fl10 (fun _ h9 => h9) rfl dX5_cancel_58 ?_
        refine mk_getN (ci := 0) (C := RX0) (T := TX0) (N := 7) hx hb hts inX0 hown hK hW 1 (by decide) rfl rfl 3 (by decide) fn102 (fun _ h9 => h9) rfl dX5_cancel_61 ?_
        refine lv_iload_n hx hb dX5_cancel_64 rfl (lv_at hl 1 rfl) ?_
        refine mk_iald hx hb hK hW 5 (by decide) rfl 0 rfl (j := t) rfl (by omega) (by decide) dX5_cancel_65 ?_
        refine mk_sayi (y := (b 2 t)) hxt.2.1 ?_
        refine mk_goR (st9 := st) (va_runV (As := [.int (iI 1), .int (iI (b 2 t))]) (rest := []) ⟨hx, hb, hml, hown, hts⟩ (c_X5_ledgerAt_1 l cg D ad st (b 2 t) hbt.2.2.2.1) (cwV 2 hts gX5_cancel_X5_ledgerAt rfl rfl rfl (by decide +kernel) ⟨Nat.le_of_ble_eq_true rfl, Nat.le_of_ble_eq_true rfl⟩) (mk_preV hK hN hW 0 (by decide) rfl rfl rfl) rfl rfl hl.1 rfl (lv_room (Nat.le_of_ble_eq_true rfl)) dX5_cancel_66 ⟨Nat.zero_le _, Nat.zero_le _⟩) hW (fun H locs hW => ?_)
        refine lv_astore_n (lv' := [(2, .ref (ad 30)), (0, .ref (ad 0)), (1, .int (iI ((t : Nat) : Int)))]) hx hb dX5_cancel_69 rfl hl (by decide) rfl (fun ls hl => ?_)
        refine lv_aload_n hx hb dX5_cancel_70 rfl (lv_at hl 1 rfl) ?_
        refine mk_get (ci := 5) (C := RX5) (T := TX5) (N := 4) hx hb hts inX5 hown hK hW 0 (by decide) rfl rfl 0 (by decide) fl10 (fun _ h9 => h9) rfl dX5_cancel_71 ?_
        refine mk_getN (ci := 0) (C := RX0) (T := TX0) (N := 7) hx hb hts inX0 hown hK hW 1 (by decide) rfl rfl 0 (by decide) fn105 (fun _ h9 => h9) rfl dX5_cancel_74 ?_
        refine lv_iload_n hx hb dX5_cancel_77 rfl (lv_at hl 2 rfl) ?_
        refine mk_zald hx hb hK hW 2 (by decide) rfl 1 rfl (j := t) rfl (by omega) (by decide) dX5_cancel_78 ?_
        refine mk_sayi (y := (b 5 t)) hxt.2.2.2.2.1 ?_
        refine mk_if_ne (tgt := 104) hx hb dX5_cancel_79 (by decide) (by omega) (fun c_79 => ?_) (fun c_79 => ?_)
        · skip
          refine lv_aload_n hx hb dX5_cancel_104 rfl (lv_at hl 1 rfl) ?_
          refine mk_get (ci := 5) (C := RX5) (T := TX5) (N := 4) hx hb hts inX5 hown hK hW 0 (by decide) rfl rfl 0 (by decide) fl10 (fun _ h9 => h9) rfl dX5_cancel_105 ?_
          refine mk_getN (ci := 0) (C := RX0) (T := TX0) (N := 7) hx hb hts inX0 hown hK hW 1 (by decide) rfl rfl 1 (by decide) fn93 (fun _ h9 => h9) rfl dX5_cancel_108 ?_
          refine lv_iload_n hx hb dX5_cancel_111 rfl (lv_at hl 2 rfl) ?_
          refine mk_iconst hx hb (1) dX5_cancel_112 ?_
          refine mk_zast hx hb hK hW 3 (by decide) (fun _ => rfl) 1 rfl (j := t) rfl (by omega) (by decide) (by omega) dX5_cancel_113 (fun H locs hW => ?_)
          obtain ⟨st1, est1⟩ : ∃ z, z = stC st 3 (fnU (st 3) t 1) := ⟨_, rfl⟩
          rw [← est1] at hW
          have hJ9 : XJ st1 (canM b t) := by rw [est1]; exact canX_J hX
          have h09 : sub (embL 1) st1 0 0 = ((1 : Nat) : Int) := by rw [est1, stC_sub (Or.inl (by omega)) (show 1 < 3 by omega) 0 (by omega)]; exact (hX.2.2.1 1 (by omega)).1
          refine lv_aload_n hx hb dX5_cancel_114 rfl (lv_at hl 0 rfl) ?_
          refine lv_aload_n hx hb dX5_cancel_115 rfl (lv_at hl 1 rfl) ?_
          refine mk_get (ci := 5) (C := RX5) (T := TX5) (N := 4) hx hb hts inX5 hown hK hW 0 (by decide) rfl rfl 0 (by decide) fl10 (fun _ h9 => h9) rfl dX5_cancel_116 ?_
          refine lv_aload_n hx hb dX5_cancel_119 rfl (lv_at hl 1 rfl) ?_
          refine mk_get (ci := 5) (C := RX5) (T := TX5) (N := 4) hx hb hts inX5 hown hK hW 0 (by decide) rfl rfl 3 (by decide) fl29 (fun _ h9 => h9) rfl dX5_cancel_120 ?_
          refine mk_sayi (y := (st 0 3)) (by rw [show st1 0 = st 0 from by rw [est1]; exact stC_ne (by decide)]) ?_
          refine mk_sayi (y := ((canM b t) 0 11)) hX.2.1.2.1 ?_
          refine mk_goVE (EmbL1 cg ad) (va_runV (As := [.ref (ad 1), .int (iI ((canM b t) 0 11))]) (rest := []) ⟨hx, hb, hml, hown, hts⟩ (c_X1_reckon l cg D (fun j => ad (embL 1 j)) (sub (embL 1) st1) 1 ((canM b t) 0 11) (bN (canM b t)) (bM (canM b t) 1) (hJ9.n hBB.j) (hJ9.J hBB.j) (hJ9.m hBB.j (show 1 < 3 by omega)) (hJ9.S hBB.j (show 1 < 3 by omega)) h09 (by omega) hBB.2.2.2.1 (fun d9 => by have h9 := hBB.2.2.2.2.1 1 (by omega) d9; rw [← hJ9.ho (show 1 < 3 by omega)] at h9; exact h9)) (cwV 2 hts gX5_cancel_X1_reckon rfl rfl rfl (by decide +kernel) ⟨Nat.le_of_ble_eq_true rfl, Nat.le_of_ble_eq_true rfl⟩) (mk_preV hK hN (hW.emb (EmbL1 cg ad)) 0 (by decide) rfl rfl rfl) rfl rfl hl.1 rfl (lv_room (Nat.le_of_ble_eq_true rfl)) dX5_cancel_123 ⟨Nat.zero_le _, Nat.zero_le _⟩) hW (fun st2 hp123 H locs hW => ?_)
          obtain ⟨st4, est4⟩ : ∃ z, z = up 28 (embL 1) st2 st1 := ⟨_, rfl⟩
          rw [← est4] at hW
          exact mk_retV hx hb hr hlocks hW (by
            have hz9 : ∀ k, bN (canM b t) ≤ k → k < 60 → st1 3 k = 0 := fun k h1 h2 => by
              rw [est1, stC_eq, fnU_ne (by have h3 : bN b ≤ k := h1; omega)]; exact hX.2.2.2 k h1 h2
            obtain ⟨g1, g2, g3, g4⟩ := reck_step (show 1 < 3 by omega) hJ9 hz9 h09 hp123.1 hp123.2
            rw [← est4] at g1 g2 g3 g4
            refine ⟨hBB, g1, fun u hu => ?_, g4⟩
            by_cases x : u = 1
            · rw [x]; exact g2
            · exact ((hX.2.2.1 u hu).se (canM_se (by rw [hv]; omega))).cells fun k hk => (g3 u hu x k hk).trans (by rw [est1]; exact stC_sub (Or.inl (by omega)) hu k hk)) dX5_cancel_126
        · skip
          refine lv_aload_n hx hb dX5_cancel_82 rfl (lv_at hl 0 rfl) ?_
          refine lv_aload_n hx hb dX5_cancel_83 rfl (lv_at hl 1 rfl) ?_
          refine mk_get (ci := 5) (C := RX5) (T := TX5) (N := 4) hx hb hts inX5 hown hK hW 0 (by decide) rfl rfl 0 (by decide) fl10 (fun _ h9 => h9) rfl dX5_cancel_84 ?_
          refine mk_getN (ci := 0) (C := RX0) (T := TX0) (N := 7) hx hb hts inX0 hown hK hW 1 (by decide) rfl rfl 3 (by decide) fn102 (fun _ h9 => h9) rfl dX5_cancel_87 ?_
          refine lv_iload_n hx hb dX5_cancel_90 rfl (lv_at hl 2 rfl) ?_
          refine mk_iald hx hb hK hW 5 (by decide) rfl 0 rfl (j := t) rfl (by omega) (by decide) dX5_cancel_91 ?_
          refine mk_sayi (y := (b 2 t)) hxt.2.1 ?_
          refine lv_aload_n hx hb dX5_cancel_92 rfl (lv_at hl 1 rfl) ?_
          refine mk_get (ci := 5) (C := RX5) (T := TX5) (N := 4) hx hb hts inX5 hown hK hW 0 (by decide) rfl rfl 0 (by decide) fl10 (fun _ h9 => h9) rfl dX5_cancel_93 ?_
          refine mk_getN (ci := 0) (C := RX0) (T := TX0) (N := 7) hx hb hts inX0 hown hK hW 1 (by decide) rfl rfl 4 (by decide) fn108 (fun _ h9 => h9) rfl dX5_cancel_96 ?_
          refine lv_iload_n hx hb dX5_cancel_99 rfl (lv_at hl 2 rfl) ?_
          refine mk_iald hx hb hK hW 6 (by decide) rfl 0 rfl (j := t) rfl (by omega) (by decide) dX5_cancel_100 ?_
          refine mk_sayi (y := (b 3 t)) hxt.2.2.1 ?_
          refine mk_goV (va_runS (As := [.ref (ad 30), .int (iI (b 2 t)), .int (iI (b 3 t))]) (rest := []) ⟨hx, hb, hml, hown, hts⟩ (c_X5_checkCanSpare_1 l cg D ad st b hX (b 2 t) (b 3 t) hbt.2.2.2.1 hbt.2.2.2.2.1 (hsp (by omega))) (cwS 3 hts gX5_cancel_X5_checkCanSpare rfl rfl rfl (by decide +kernel) ⟨Nat.le_of_ble_eq_true rfl, Nat.le_of_ble_eq_true rfl⟩) (mk_preS hK hN hW) rfl rfl hl.1 rfl (lv_room (Nat.le_of_ble_eq_true rfl)) dX5_cancel_101 ⟨Nat.zero_le _, Nat.zero_le _⟩) hW (fun st5 hp101 H locs hW => ?_)
          rw [hp101] at hW
          refine lv_aload_n hx hb dX5_cancel_104 rfl (lv_at hl 1 rfl) ?_
          refine mk_get (ci := 5) (C := RX5) (T := TX5) (N := 4) hx hb hts inX5 hown hK hW 0 (by decide) rfl rfl 0 (by decide) fl10 (fun _ h9 => h9) rfl dX5_cancel_105 ?_
          refine mk_getN (ci := 0) (C := RX0) (T := TX0) (N := 7) hx hb hts inX0 hown hK hW 1 (by decide) rfl rfl 1 (by decide) fn93 (fun _ h9 => h9) rfl dX5_cancel_108 ?_
          refine lv_iload_n hx hb dX5_cancel_111 rfl (lv_at hl 2 rfl) ?_
          refine mk_iconst hx hb (1) dX5_cancel_112 ?_
          refine mk_zast hx hb hK hW 3 (by decide) (fun _ => rfl) 1 rfl (j := t) rfl (by omega) (by decide) (by omega) dX5_cancel_113 (fun H locs hW => ?_)
          obtain ⟨st7, est7⟩ : ∃ z, z = stC st 3 (fnU (st 3) t 1) := ⟨_, rfl⟩
          rw [← est7] at hW
          have hJ9 : XJ st7 (canM b t) := by rw [est7]; exact canX_J hX
          have h09 : sub (embL 1) st7 0 0 = ((1 : Nat) : Int) := by rw [est7, stC_sub (Or.inl (by omega)) (show 1 < 3 by omega) 0 (by omega)]; exact (hX.2.2.1 1 (by omega)).1
          refine lv_aload_n hx hb dX5_cancel_114 rfl (lv_at hl 0 rfl) ?_
          refine lv_aload_n hx hb dX5_cancel_115 rfl (lv_at hl 1 rfl) ?_
          refine mk_get (ci := 5) (C := RX5) (T := TX5) (N := 4) hx hb hts inX5 hown hK hW 0 (by decide) rfl rfl 0 (by decide) fl10 (fun _ h9 => h9) rfl dX5_cancel_116 ?_
          refine lv_aload_n hx hb dX5_cancel_119 rfl (lv_at hl 1 rfl) ?_
          refine mk_get (ci := 5) (C := RX5) (T := TX5) (N := 4) hx hb hts inX5 hown hK hW 0 (by decide) rfl rfl 3 (by decide) fl29 (fun _ h9 => h9) rfl dX5_cancel_120 ?_
          refine mk_sayi (y := (st 0 3)) (by rw [show st7 0 = st 0 from by rw [est7]; exact stC_ne (by decide)]) ?_
          refine mk_sayi (y := ((canM b t) 0 11)) hX.2.1.2.1 ?_
          refine mk_goVE (EmbL1 cg ad) (va_runV (As := [.ref (ad 1), .int (iI ((canM b t) 0 11))]) (rest := []) ⟨hx, hb, hml, hown, hts⟩ (c_X1_reckon l cg D (fun j => ad (embL 1 j)) (sub (embL 1) st7) 1 ((canM b t) 0 11) (bN (canM b t)) (bM (canM b t) 1) (hJ9.n hBB.j) (hJ9.J hBB.j) (hJ9.m hBB.j (show 1 < 3 by omega)) (hJ9.S hBB.j (show 1 < 3 by omega)) h09 (by omega) hBB.2.2.2.1 (fun d9 => by have h9 := hBB.2.2.2.2.1 1 (by omega) d9; rw [← hJ9.ho (show 1 < 3 by omega)] at h9; exact h9)) (cwV 2 hts gX5_cancel_X1_reckon rfl rfl rfl (by decide +kernel) ⟨Nat.le_of_ble_eq_true rfl, Nat.le_of_ble_eq_true rfl⟩) (mk_preV hK hN (hW.emb (EmbL1 cg ad)) 0 (by decide) rfl rfl rfl) rfl rfl hl.1 rfl (lv_room (Nat.le_of_ble_eq_true rfl)) dX5_cancel_123 ⟨Nat.zero_le _, Nat.zero_le _⟩) hW (fun st8 hp123 H locs hW => ?_)
          obtain ⟨st10, est10⟩ : ∃ z, z = up 28 (embL 1) st8 st7 := ⟨_, rfl⟩
          rw [← est10] at hW
          exact mk_retV hx hb hr hlocks hW (by
            have hz9 : ∀ k, bN (canM b t) ≤ k → k < 60 → st7 3 k = 0 := fun k h1 h2 => by
              rw [est7, stC_eq, fnU_ne (by have h3 : bN b ≤ k := h1; omega)]; exact hX.2.2.2 k h1 h2
            obtain ⟨g1, g2, g3, g4⟩ := reck_step (show 1 < 3 by omega) hJ9 hz9 h09 hp123.1 hp123.2
            rw [← est10] at g1 g2 g3 g4
            refine ⟨hBB, g1, fun u hu => ?_, g4⟩
            by_cases x : u = 1
            · rw [x]; exact g2
            · exact ((hX.2.2.1 u hu).se (canM_se (by rw [hv]; omega))).cells fun k hk => (g3 u hu x k hk).trans (by rw [est7]; exact stC_sub (Or.inl (by omega)) hu k hk)) dX5_cancel_126
      · skip
        omega
    · skip
      omega

set_option maxHeartbeats 4000000 in
set_option maxRecDepth 100000 in
theorem c_X5_buy_2 (l : Launch) (cg : Nat → ClassId) (D : va_G) (ad : Nat → Nat) (st : Nat → Nat → Int) (b : Nat → Nat → Int) (hX : XI st b) (d ct mo : Int) (hn60 : bN b < 60) (hd : 0 ≤ d ∧ d < 1825) (hc : 1 ≤ ct ∧ ct ≤ 1000) (hm : 0 ≤ mo ∧ mo ≤ 1000000) : MI l yX5_buy wsX5_buy ({ frames := 5, cells := 0, slots := 0, locals := 130 }) D vwCl (TY cg) 73 (celX cg) ad st [.ref (ad 0), .int (iI 2), .int (iI d), .int (iI ct), .int (iI mo)] (fun z st1 => XI st1 (entM b ((2 : Nat) : Int) d ct mo 0) ∧ z = bN b) := by
  refine mk_open (cc := cX5_buy) (maxL := 7) (ret := (some .int)) (by decide) rfl (Nat.le_of_ble_eq_true rfl) ?_
  intro p e s m args below meth c hx hb hml hr hown hts hlocks hK hN hargs ls hl hW
  have hown : s.vm.findClass RX5 = some m.cls := hown
  have hl : lv_has ls 7 [(0, .ref (ad 0)), (1, .int (iI 2)), (2, .int (iI d)), (3, .int (iI ct)), (4, .int (iI mo))] := hl
  have inX5 : ∀ w ∈ wsX50, w ∈ wsX5_buy := by decide +kernel
  have fl10 := hts (.fieldLink RX5 10 "GainsReckoner" "journal" "LGainsReckoner$Journal;") (by decide +kernel)
  have fl29 := hts (.fieldLink RX5 29 "GainsReckoner" "window" "I") (by decide +kernel)
  have hBB : BV (entM b ((2 : Nat) : Int) d ct mo 0) := (entM_J hX.1.j hn60 (by omega) hd hc hm (by omega)).v (buy_yes hX.1 (by omega))
  refine lv_aload_n hx hb dX5_buy_0 rfl (lv_at hl 0 rfl) ?_
  refine lv_iload_n hx hb dX5_buy_1 rfl (lv_at hl 1 rfl) ?_
  refine lv_iload_n hx hb dX5_buy_2 rfl (lv_at hl 2 rfl) ?_
  refine mk_goR (st9 := st) (va_runV (As := [.int (iI 2), .int (iI d)]) (rest := []) ⟨hx, hb, hml, hown, hts⟩ (c_X5_ledgerAt_2 l cg D ad st d (by omega)) (cwV 2 hts gX5_buy_X5_ledgerAt rfl rfl rfl (by decide +kernel) ⟨Nat.le_of_ble_eq_true rfl, Nat.le_of_ble_eq_true rfl⟩) (mk_preV hK hN hW 0 (by decide) rfl rfl rfl) rfl rfl hl.1 rfl (lv_room (Nat.le_of_ble_eq_true rfl)) dX5_buy_3 ⟨Nat.zero_le _, Nat.zero_le _⟩) hW (fun H locs hW => ?_)
  refine lv_astore (lv' := [(5, .ref (ad 51)), (0, .ref (ad 0)), (1, .int (iI 2)), (2, .int (iI d)), (3, .int (iI ct)), (4, .int (iI mo))]) hx hb dX5_buy_6 hl (by decide) rfl (fun ls hl => ?_)
  refine lv_iload_n hx hb dX5_buy_8 rfl (lv_at hl 4 rfl) ?_
  refine lv_iload hx hb dX5_buy_9 (lv_at hl 5 rfl) ?_
  refine mk_goV (va_runS (As := [.int (iI ct), .int (iI mo)]) (rest := []) ⟨hx, hb, hml, hown, hts⟩ (c_X5_checkTrade l cg D ad st ct mo hc hm) (cwS 2 hts gX5_buy_X5_checkTrade rfl rfl rfl (by decide +kernel) ⟨Nat.le_of_ble_eq_true rfl, Nat.le_of_ble_eq_true rfl⟩) (mk_preS hK hN hW) rfl rfl hl.1 rfl (lv_room (Nat.le_of_ble_eq_true rfl)) dX5_buy_11 ⟨Nat.zero_le _, Nat.zero_le _⟩) hW (fun st1 hp11 H locs hW => ?_)
  rw [hp11] at hW
  refine lv_aload_n hx hb dX5_buy_14 rfl (lv_at hl 1 rfl) ?_
  refine mk_goV (va_runV (As := []) (rest := []) ⟨hx, hb, hml, hown, hts⟩ (c_X5_checkRoomForTrade l cg D ad st (bN b) (hX.2.1.n hX.1.j) hn60) (cwV 0 hts gX5_buy_X5_checkRoomForTrade rfl rfl rfl (by decide +kernel) ⟨Nat.le_of_ble_eq_true rfl, Nat.le_of_ble_eq_true rfl⟩) (mk_preV hK hN hW 0 (by decide) rfl rfl rfl) rfl rfl hl.1 rfl (lv_room (Nat.le_of_ble_eq_true rfl)) dX5_buy_15 ⟨Nat.zero_le _, Nat.zero_le _⟩) hW (fun st3 hp15 H locs hW => ?_)
  rw [hp15] at hW
  refine lv_aload_n hx hb dX5_buy_18 rfl (lv_at hl 1 rfl) ?_
  refine mk_get (ci := 5) (C := RX5) (T := TX5) (N := 4) hx hb hts inX5 hown hK hW 0 (by decide) rfl rfl 0 (by decide) fl10 (fun _ h9 => h9) rfl dX5_buy_19 ?_
  refine mk_iconst hx hb (0) dX5_buy_22 ?_
  refine lv_iload_n hx hb dX5_buy_23 rfl (lv_at hl 2 rfl) ?_
  refine lv_iload_n hx hb dX5_buy_24 rfl (lv_at hl 3 rfl) ?_
  refine lv_iload_n hx hb dX5_buy_25 rfl (lv_at hl 4 rfl) ?_
  refine lv_iload hx hb dX5_buy_26 (lv_at hl 5 rfl) ?_
  refine mk_goI (va_runV (As := [.int (iI 0), .int (iI 2), .int (iI d), .int (iI ct), .int (iI mo)]) (rest := []) ⟨hx, hb, hml, hown, hts⟩ (c_X0_enter l cg D ad st 0 2 d ct mo (bN b) (hX.2.1.n hX.1.j) hn60 (by omega)) (cwV 5 hts gX5_buy_X0_enter rfl rfl rfl (by decide +kernel) ⟨Nat.le_of_ble_eq_true rfl, Nat.le_of_ble_eq_true rfl⟩) (mk_preV hK hN hW 1 (by decide) rfl rfl rfl) rfl rfl hl.1 rfl (lv_room (Nat.le_of_ble_eq_true rfl)) dX5_buy_28 ⟨Nat.zero_le _, Nat.zero_le _⟩) hW (fun z st5 hp28 H locs hW => ?_)
  obtain ⟨est5, hz⟩ := hp28
  have est5 : st5 = entX st (bN b) 0 ((2 : Nat) : Int) d ct mo := est5
  have hfr : Fr [1, 2, 4, 5, 6, 7] st st5 := by rw [est5]; exact entX_fr
  have hJ9 : XJ st5 (entM b ((2 : Nat) : Int) d ct mo 0) := by rw [est5]; exact entX_J hX hn60
  have h09 : sub (embL 2) st5 0 0 = ((2 : Nat) : Int) := by rw [est5, entX_sub 2 0 (by omega)]; exact (hX.2.2.1 2 (by omega)).1
  refine lv_istore (lv' := [(6, .int (iI z)), (5, .ref (ad 51)), (0, .ref (ad 0)), (1, .int (iI 2)), (2, .int (iI d)), (3, .int (iI ct)), (4, .int (iI mo))]) hx hb dX5_buy_31 hl (by decide) rfl (fun ls hl => ?_)
  refine lv_aload hx hb dX5_buy_33 (lv_at hl 1 rfl) ?_
  refine lv_aload_n hx hb dX5_buy_35 rfl (lv_at hl 2 rfl) ?_
  refine mk_get (ci := 5) (C := RX5) (T := TX5) (N := 4) hx hb hts inX5 hown hK hW 0 (by decide) rfl rfl 0 (by decide) fl10 (fun _ h9 => h9) rfl dX5_buy_36 ?_
  refine lv_aload_n hx hb dX5_buy_39 rfl (lv_at hl 2 rfl) ?_
  refine mk_get (ci := 5) (C := RX5) (T := TX5) (N := 4) hx hb hts inX5 hown hK hW 0 (by decide) rfl rfl 3 (by decide) fl29 (fun _ h9 => h9) rfl dX5_buy_40 ?_
  refine mk_sayi (y := (st 0 3)) (by rw [hfr 0 (by decide)]) ?_
  refine mk_sayi (y := ((entM b ((2 : Nat) : Int) d ct mo 0) 0 11)) hX.2.1.2.1 ?_
  refine mk_goVE (EmbL2 cg ad) (va_runV (As := [.ref (ad 1), .int (iI ((entM b ((2 : Nat) : Int) d ct mo 0) 0 11))]) (rest := []) ⟨hx, hb, hml, hown, hts⟩ (c_X1_reckon l cg D (fun j => ad (embL 2 j)) (sub (embL 2) st5) 2 ((entM b ((2 : Nat) : Int) d ct mo 0) 0 11) (bN (entM b ((2 : Nat) : Int) d ct mo 0)) (bM (entM b ((2 : Nat) : Int) d ct mo 0) 2) (hJ9.n hBB.j) (hJ9.J hBB.j) (hJ9.m hBB.j (show 2 < 3 by omega)) (hJ9.S hBB.j (show 2 < 3 by omega)) h09 (by omega) hBB.2.2.2.1 (fun d9 => by have h9 := hBB.2.2.2.2.1 2 (by omega) d9; rw [← hJ9.ho (show 2 < 3 by omega)] at h9; exact h9)) (cwV 2 hts gX5_buy_X1_reckon rfl rfl rfl (by decide +kernel) ⟨Nat.le_of_ble_eq_true rfl, Nat.le_of_ble_eq_true rfl⟩) (mk_preV hK hN (hW.emb (EmbL2 cg ad)) 0 (by decide) rfl rfl rfl) rfl rfl hl.1 rfl (lv_room (Nat.le_of_ble_eq_true rfl)) dX5_buy_43 ⟨Nat.zero_le _, Nat.zero_le _⟩) hW (fun st6 hp43 H locs hW => ?_)
  obtain ⟨st8, est8⟩ : ∃ z, z = up 28 (embL 2) st6 st5 := ⟨_, rfl⟩
  rw [← est8] at hW
  rw [est5] at hp43
  refine lv_iload hx hb dX5_buy_46 (lv_at hl 0 rfl) ?_
  exact mk_retI hx hb hr hlocks hW ⟨by rw [est8, est5]; exact entX_reck (show 2 < 3 by omega) hX hn60 hBB hp43.1 hp43.2, hz⟩ dX5_buy_48

set_option maxHeartbeats 4000000 in
set_option maxRecDepth 100000 in
theorem c_X5_sell_2 (l : Launch) (cg : Nat → ClassId) (D : va_G) (ad : Nat → Nat) (st : Nat → Nat → Int) (b : Nat → Nat → Int) (hX : XI st b) (d ct mo : Int) (hn60 : bN b < 60) (hd : 0 ≤ d ∧ d < 1825) (hc : 1 ≤ ct ∧ ct ≤ 1000) (hm : 0 ≤ mo ∧ mo ≤ 1000000) (hsp : ∀ e, d ≤ e → ct * fla (bSD b 2) (bSF b 2) (bM b 2) d ≤ bH b 2 e) : MI l yX5_sell wsX5_sell ({ frames := 5, cells := 0, slots := 0, locals := 130 }) D vwCl (TY cg) 73 (celX cg) ad st [.ref (ad 0), .int (iI 2), .int (iI d), .int (iI ct), .int (iI mo)] (fun z st1 => XI st1 (entM b ((2 : Nat) : Int) d ct mo 1) ∧ z = bN b) := by
  refine mk_open (cc := cX5_sell) (maxL := 7) (ret := (some .int)) (by decide) rfl (Nat.le_of_ble_eq_true rfl) ?_
  intro p e s m args below meth c hx hb hml hr hown hts hlocks hK hN hargs ls hl hW
  have hown : s.vm.findClass RX5 = some m.cls := hown
  have hl : lv_has ls 7 [(0, .ref (ad 0)), (1, .int (iI 2)), (2, .int (iI d)), (3, .int (iI ct)), (4, .int (iI mo))] := hl
  have inX5 : ∀ w ∈ wsX50, w ∈ wsX5_sell := by decide +kernel
  have fl10 := hts (.fieldLink RX5 10 "GainsReckoner" "journal" "LGainsReckoner$Journal;") (by decide +kernel)
  have fl29 := hts (.fieldLink RX5 29 "GainsReckoner" "window" "I") (by decide +kernel)
  have hBB : BV (entM b ((2 : Nat) : Int) d ct mo 1) := (entM_J hX.1.j hn60 (by omega) hd hc hm (by omega)).v (sell_yes hX.1 hsp)
  refine lv_aload_n hx hb dX5_sell_0 rfl (lv_at hl 0 rfl) ?_
  refine lv_iload_n hx hb dX5_sell_1 rfl (lv_at hl 1 rfl) ?_
  refine lv_iload_n hx hb dX5_sell_2 rfl (lv_at hl 2 rfl) ?_
  refine mk_goR (st9 := st) (va_runV (As := [.int (iI 2), .int (iI d)]) (rest := []) ⟨hx, hb, hml, hown, hts⟩ (c_X5_ledgerAt_2 l cg D ad st d (by omega)) (cwV 2 hts gX5_sell_X5_ledgerAt rfl rfl rfl (by decide +kernel) ⟨Nat.le_of_ble_eq_true rfl, Nat.le_of_ble_eq_true rfl⟩) (mk_preV hK hN hW 0 (by decide) rfl rfl rfl) rfl rfl hl.1 rfl (lv_room (Nat.le_of_ble_eq_true rfl)) dX5_sell_3 ⟨Nat.zero_le _, Nat.zero_le _⟩) hW (fun H locs hW => ?_)
  refine lv_astore (lv' := [(5, .ref (ad 51)), (0, .ref (ad 0)), (1, .int (iI 2)), (2, .int (iI d)), (3, .int (iI ct)), (4, .int (iI mo))]) hx hb dX5_sell_6 hl (by decide) rfl (fun ls hl => ?_)
  refine lv_iload_n hx hb dX5_sell_8 rfl (lv_at hl 4 rfl) ?_
  refine lv_iload hx hb dX5_sell_9 (lv_at hl 5 rfl) ?_
  refine mk_goV (va_runS (As := [.int (iI ct), .int (iI mo)]) (rest := []) ⟨hx, hb, hml, hown, hts⟩ (c_X5_checkTrade l cg D ad st ct mo hc hm) (cwS 2 hts gX5_sell_X5_checkTrade rfl rfl rfl (by decide +kernel) ⟨Nat.le_of_ble_eq_true rfl, Nat.le_of_ble_eq_true rfl⟩) (mk_preS hK hN hW) rfl rfl hl.1 rfl (lv_room (Nat.le_of_ble_eq_true rfl)) dX5_sell_11 ⟨Nat.zero_le _, Nat.zero_le _⟩) hW (fun st1 hp11 H locs hW => ?_)
  rw [hp11] at hW
  refine lv_aload_n hx hb dX5_sell_14 rfl (lv_at hl 1 rfl) ?_
  refine mk_goV (va_runV (As := []) (rest := []) ⟨hx, hb, hml, hown, hts⟩ (c_X5_checkRoomForTrade l cg D ad st (bN b) (hX.2.1.n hX.1.j) hn60) (cwV 0 hts gX5_sell_X5_checkRoomForTrade rfl rfl rfl (by decide +kernel) ⟨Nat.le_of_ble_eq_true rfl, Nat.le_of_ble_eq_true rfl⟩) (mk_preV hK hN hW 0 (by decide) rfl rfl rfl) rfl rfl hl.1 rfl (lv_room (Nat.le_of_ble_eq_true rfl)) dX5_sell_15 ⟨Nat.zero_le _, Nat.zero_le _⟩) hW (fun st3 hp15 H locs hW => ?_)
  rw [hp15] at hW
  refine lv_aload hx hb dX5_sell_18 (lv_at hl 0 rfl) ?_
  refine lv_iload_n hx hb dX5_sell_20 rfl (lv_at hl 3 rfl) ?_
  refine lv_iload_n hx hb dX5_sell_21 rfl (lv_at hl 4 rfl) ?_
  refine mk_goV (va_runS (As := [.ref (ad 51), .int (iI d), .int (iI ct)]) (rest := []) ⟨hx, hb, hml, hown, hts⟩ (c_X5_checkCanSpare_2 l cg D ad st b hX d ct hd hc hsp) (cwS 3 hts gX5_sell_X5_checkCanSpare rfl rfl rfl (by decide +kernel) ⟨Nat.le_of_ble_eq_true rfl, Nat.le_of_ble_eq_true rfl⟩) (mk_preS hK hN hW) rfl rfl hl.1 rfl (lv_room (Nat.le_of_ble_eq_true rfl)) dX5_sell_22 ⟨Nat.zero_le _, Nat.zero_le _⟩) hW (fun st5 hp22 H locs hW => ?_)
  rw [hp22] at hW
  refine lv_aload_n hx hb dX5_sell_25 rfl (lv_at hl 1 rfl) ?_
  refine mk_get (ci := 5) (C := RX5) (T := TX5) (N := 4) hx hb hts inX5 hown hK hW 0 (by decide) rfl rfl 0 (by decide) fl10 (fun _ h9 => h9) rfl dX5_sell_26 ?_
  refine mk_iconst hx hb (1) dX5_sell_29 ?_
  refine lv_iload_n hx hb dX5_sell_30 rfl (lv_at hl 2 rfl) ?_
  refine lv_iload_n hx hb dX5_sell_31 rfl (lv_at hl 3 rfl) ?_
  refine lv_iload_n hx hb dX5_sell_32 rfl (lv_at hl 4 rfl) ?_
  refine lv_iload hx hb dX5_sell_33 (lv_at hl 5 rfl) ?_
  refine mk_goI (va_runV (As := [.int (iI 1), .int (iI 2), .int (iI d), .int (iI ct), .int (iI mo)]) (rest := []) ⟨hx, hb, hml, hown, hts⟩ (c_X0_enter l cg D ad st 1 2 d ct mo (bN b) (hX.2.1.n hX.1.j) hn60 (by omega)) (cwV 5 hts gX5_sell_X0_enter rfl rfl rfl (by decide +kernel) ⟨Nat.le_of_ble_eq_true rfl, Nat.le_of_ble_eq_true rfl⟩) (mk_preV hK hN hW 1 (by decide) rfl rfl rfl) rfl rfl hl.1 rfl (lv_room (Nat.le_of_ble_eq_true rfl)) dX5_sell_35 ⟨Nat.zero_le _, Nat.zero_le _⟩) hW (fun z st7 hp35 H locs hW => ?_)
  obtain ⟨est7, hz⟩ := hp35
  have est7 : st7 = entX st (bN b) 1 ((2 : Nat) : Int) d ct mo := est7
  have hfr : Fr [1, 2, 4, 5, 6, 7] st st7 := by rw [est7]; exact entX_fr
  have hJ9 : XJ st7 (entM b ((2 : Nat) : Int) d ct mo 1) := by rw [est7]; exact entX_J hX hn60
  have h09 : sub (embL 2) st7 0 0 = ((2 : Nat) : Int) := by rw [est7, entX_sub 2 0 (by omega)]; exact (hX.2.2.1 2 (by omega)).1
  refine lv_istore (lv' := [(6, .int (iI z)), (5, .ref (ad 51)), (0, .ref (ad 0)), (1, .int (iI 2)), (2, .int (iI d)), (3, .int (iI ct)), (4, .int (iI mo))]) hx hb dX5_sell_38 hl (by decide) rfl (fun ls hl => ?_)
  refine lv_aload hx hb dX5_sell_40 (lv_at hl 1 rfl) ?_
  refine lv_aload_n hx hb dX5_sell_42 rfl (lv_at hl 2 rfl) ?_
  refine mk_get (ci := 5) (C := RX5) (T := TX5) (N := 4) hx hb hts inX5 hown hK hW 0 (by decide) rfl rfl 0 (by decide) fl10 (fun _ h9 => h9) rfl dX5_sell_43 ?_
  refine lv_aload_n hx hb dX5_sell_46 rfl (lv_at hl 2 rfl) ?_
  refine mk_get (ci := 5) (C := RX5) (T := TX5) (N := 4) hx hb hts inX5 hown hK hW 0 (by decide) rfl rfl 3 (by decide) fl29 (fun _ h9 => h9) rfl dX5_sell_47 ?_
  refine mk_sayi (y := (st 0 3)) (by rw [hfr 0 (by decide)]) ?_
  refine mk_sayi (y := ((entM b ((2 : Nat) : Int) d ct mo 1) 0 11)) hX.2.1.2.1 ?_
  refine mk_goVE (EmbL2 cg ad) (va_runV (As := [.ref (ad 1), .int (iI ((entM b ((2 : Nat) : Int) d ct mo 1) 0 11))]) (rest := []) ⟨hx, hb, hml, hown, hts⟩ (c_X1_reckon l cg D (fun j => ad (embL 2 j)) (sub (embL 2) st7) 2 ((entM b ((2 : Nat) : Int) d ct mo 1) 0 11) (bN (entM b ((2 : Nat) : Int) d ct mo 1)) (bM (entM b ((2 : Nat) : Int) d ct mo 1) 2) (hJ9.n hBB.j) (hJ9.J hBB.j) (hJ9.m hBB.j (show 2 < 3 by omega)) (hJ9.S hBB.j (show 2 < 3 by omega)) h09 (by omega) hBB.2.2.2.1 (fun d9 => by have h9 := hBB.2.2.2.2.1 2 (by omega) d9; rw [← hJ9.ho (show 2 < 3 by omega)] at h9; exact h9)) (cwV 2 hts gX5_sell_X1_reckon rfl rfl rfl (by decide +kernel) ⟨Nat.le_of_ble_eq_true rfl, Nat.le_of_ble_eq_true rfl⟩) (mk_preV hK hN (hW.emb (EmbL2 cg ad)) 0 (by decide) rfl rfl rfl) rfl rfl hl.1 rfl (lv_room (Nat.le_of_ble_eq_true rfl)) dX5_sell_50 ⟨Nat.zero_le _, Nat.zero_le _⟩) hW (fun st8 hp50 H locs hW => ?_)
  obtain ⟨st10, est10⟩ : ∃ z, z = up 28 (embL 2) st8 st7 := ⟨_, rfl⟩
  rw [← est10] at hW
  rw [est7] at hp50
  refine lv_iload hx hb dX5_sell_53 (lv_at hl 0 rfl) ?_
  exact mk_retI hx hb hr hlocks hW ⟨by rw [est10, est7]; exact entX_reck (show 2 < 3 by omega) hX hn60 hBB hp50.1 hp50.2, hz⟩ dX5_sell_55

set_option maxHeartbeats 4000000 in
set_option maxRecDepth 100000 in
theorem c_X5_split_2 (l : Launch) (cg : Nat → ClassId) (D : va_G) (ad : Nat → Nat) (st : Nat → Nat → Int) (b : Nat → Nat → Int) (hX : XI st b) (d f : Int) (hd : 0 ≤ d ∧ d < 1825) (hf9 : 2 ≤ f ∧ f ≤ 5) (hm4 : bM b 2 < 4) (hnd : ∀ j, j < bM b 2 → bSD b 2 j ≠ d) : MI l yX5_split wsX5_split ({ frames := 5, cells := 0, slots := 0, locals := 130 }) D vwCl (TY cg) 73 (celX cg) ad st [.ref (ad 0), .int (iI 2), .int (iI d), .int (iI f)] (fun z st1 => XI st1 (splM b 2 d f) ∧ z = (bM b 2 : Int) + 1) := by
  refine mk_open (cc := cX5_split) (maxL := 5) (ret := (some .int)) (by decide) rfl (Nat.le_of_ble_eq_true rfl) ?_
  intro p e s m args below meth c hx hb hml hr hown hts hlocks hK hN hargs ls hl hW
  have hown : s.vm.findClass RX5 = some m.cls := hown
  have hl : lv_has ls 5 [(0, .ref (ad 0)), (1, .int (iI 2)), (2, .int (iI d)), (3, .int (iI f))] := hl
  have inX1 : ∀ w ∈ wsX10, w ∈ wsX5_split := by decide +kernel
  have inX4 : ∀ w ∈ wsX40, w ∈ wsX5_split := by decide +kernel
  have inX5 : ∀ w ∈ wsX50, w ∈ wsX5_split := by decide +kernel
  have fn63 := hN.f (args := args) "GainsReckoner" 63 "GainsReckoner$Ledger" "splits" "LGainsReckoner$Splits;" (by decide +kernel)
  have fl10 := hts (.fieldLink RX5 10 "GainsReckoner" "journal" "LGainsReckoner$Journal;") (by decide +kernel)
  have fl29 := hts (.fieldLink RX5 29 "GainsReckoner" "window" "I") (by decide +kernel)
  have fn84 := hN.f (args := args) "GainsReckoner" 84 "GainsReckoner$Splits" "size" "I" (by decide +kernel)
  have hBB : BV (splM b 2 d f) := (splM_J hX.1.j (show 2 < 3 by omega) hm4 hd hf9).v (spl_yes hX.1 (show 2 < 3 by omega) hm4 hf9.1)
  have hmm := hX.2.1.m hX.1.j (show 2 < 3 by omega)
  have hSS := hX.2.1.S hX.1.j (show 2 < 3 by omega)
  refine lv_aload_n hx hb dX5_split_0 rfl (lv_at hl 0 rfl) ?_
  refine lv_iload_n hx hb dX5_split_1 rfl (lv_at hl 1 rfl) ?_
  refine lv_iload_n hx hb dX5_split_2 rfl (lv_at hl 2 rfl) ?_
  refine mk_goR (st9 := st) (va_runV (As := [.int (iI 2), .int (iI d)]) (rest := []) ⟨hx, hb, hml, hown, hts⟩ (c_X5_ledgerAt_2 l cg D ad st d (by omega)) (cwV 2 hts gX5_split_X5_ledgerAt rfl rfl rfl (by decide +kernel) ⟨Nat.le_of_ble_eq_true rfl, Nat.le_of_ble_eq_true rfl⟩) (mk_preV hK hN hW 0 (by decide) rfl rfl rfl) rfl rfl hl.1 rfl (lv_room (Nat.le_of_ble_eq_true rfl)) dX5_split_3 ⟨Nat.zero_le _, Nat.zero_le _⟩) hW (fun H locs hW => ?_)
  refine lv_astore (lv' := [(4, .ref (ad 51)), (0, .ref (ad 0)), (1, .int (iI 2)), (2, .int (iI d)), (3, .int (iI f))]) hx hb dX5_split_6 hl (by decide) rfl (fun ls hl => ?_)
  refine lv_iload_n hx hb dX5_split_8 rfl (lv_at hl 4 rfl) ?_
  refine mk_iconst hx hb (2) dX5_split_9 ?_
  refine mk_icmp_lt (tgt := 18) hx hb dX5_split_10 (by decide) (by omega) (by omega) (fun c_10 => ?_) (fun c_10 => ?_)
  · skip
    omega
  · skip
    refine lv_iload_n hx hb dX5_split_13 rfl (lv_at hl 4 rfl) ?_
    refine mk_iconst hx hb (5) dX5_split_14 ?_
    refine mk_icmp_le (tgt := 28) hx hb dX5_split_15 (by decide) (by omega) (by omega) (fun c_15 => ?_) (fun c_15 => ?_)
    · skip
      refine lv_aload hx hb dX5_split_28 (lv_at hl 0 rfl) ?_
      refine mk_getN (ci := 1) (C := RX1) (T := TX1) (N := 4) hx hb hts inX1 hown hK hW 51 (by decide) rfl rfl 1 (by decide) fn63 (fun _ h9 => h9) rfl dX5_split_30 ?_
      refine mk_goIE (EmbL2 cg ad) (va_runV (As := []) (rest := []) ⟨hx, hb, hml, hown, hts⟩ (c_X4_isFull l cg D (fun j => ad (embL 2 j)) (sub (embL 2) st) (bM b 2) hmm (by omega)) (cwV 0 hts gX5_split_X4_isFull rfl rfl rfl (by decide +kernel) ⟨Nat.le_of_ble_eq_true rfl, Nat.le_of_ble_eq_true rfl⟩) (mk_preV hK hN (hW.emb (EmbL2 cg ad)) 1 (by decide) rfl rfl rfl) rfl rfl hl.1 rfl (lv_room (Nat.le_of_ble_eq_true rfl)) dX5_split_33 ⟨Nat.zero_le _, Nat.zero_le _⟩) hW (fun z1 st1 hp33 H locs hW => ?_)
      obtain ⟨est1, hz1⟩ := hp33
      rw [est1, up_self (EmbL2 cg ad).2.1] at hW
      refine mk_if_ne (tgt := 51) hx hb dX5_split_36 (by decide) (by omega) (fun c_36 => ?_) (fun c_36 => ?_)
      · skip
        omega
      · skip
        refine lv_aload hx hb dX5_split_39 (lv_at hl 0 rfl) ?_
        refine mk_getN (ci := 1) (C := RX1) (T := TX1) (N := 4) hx hb hts inX1 hown hK hW 51 (by decide) rfl rfl 1 (by decide) fn63 (fun _ h9 => h9) rfl dX5_split_41 ?_
        refine lv_iload_n hx hb dX5_split_44 rfl (lv_at hl 3 rfl) ?_
        refine mk_goIE (EmbL2 cg ad) (va_runV (As := [.int (iI d)]) (rest := []) ⟨hx, hb, hml, hown, hts⟩ (c_X4_hasDay l cg D (fun j => ad (embL 2 j)) (sub (embL 2) st) d (bM b 2) hmm hSS (by omega)) (cwV 1 hts gX5_split_X4_hasDay rfl rfl rfl (by decide +kernel) ⟨Nat.le_of_ble_eq_true rfl, Nat.le_of_ble_eq_true rfl⟩) (mk_preV hK hN (hW.emb (EmbL2 cg ad)) 1 (by decide) rfl rfl rfl) rfl rfl hl.1 rfl (lv_room (Nat.le_of_ble_eq_true rfl)) dX5_split_45 ⟨Nat.zero_le _, Nat.zero_le _⟩) hW (fun z2 st2 hp45 H locs hW => ?_)
        obtain ⟨est2, hz2⟩ := hp45
        rw [est2, up_self (EmbL2 cg ad).2.1] at hW
        have hz20 : z2 = 0 := by
          rcases hz2 with ⟨h1, j, h2, h3⟩ | ⟨h1, h2⟩
          · exact absurd (by rw [show bSD b 2 j = b 8 (4 * 2 + j) from rfl, ← ((hX.2.1.2.2.2.1 2 (by omega)).2 j h2).1]; exact h3) (hnd j h2)
          · exact h1
        refine mk_if_eq (tgt := 61) hx hb dX5_split_48 (by decide) (by omega) (fun c_48 => ?_) (fun c_48 => ?_)
        · skip
          refine lv_aload hx hb dX5_split_61 (lv_at hl 0 rfl) ?_
          refine mk_getN (ci := 1) (C := RX1) (T := TX1) (N := 4) hx hb hts inX1 hown hK hW 51 (by decide) rfl rfl 1 (by decide) fn63 (fun _ h9 => h9) rfl dX5_split_63 ?_
          refine lv_iload_n hx hb dX5_split_66 rfl (lv_at hl 3 rfl) ?_
          refine lv_iload_n hx hb dX5_split_67 rfl (lv_at hl 4 rfl) ?_
          refine mk_goVE (EmbL2 cg ad) (va_runV (As := [.int (iI d), .int (iI f)]) (rest := []) ⟨hx, hb, hml, hown, hts⟩ (c_X4_enter l cg D (fun j => ad (embL 2 j)) (sub (embL 2) st) d f (bM b 2) hmm hm4) (cwV 2 hts gX5_split_X4_enter rfl rfl rfl (by decide +kernel) ⟨Nat.le_of_ble_eq_true rfl, Nat.le_of_ble_eq_true rfl⟩) (mk_preV hK hN (hW.emb (EmbL2 cg ad)) 1 (by decide) rfl rfl rfl) rfl rfl hl.1 rfl (lv_room (Nat.le_of_ble_eq_true rfl)) dX5_split_68 ⟨Nat.zero_le _, Nat.zero_le _⟩) hW (fun st3 hp68 H locs hW => ?_)
          obtain ⟨st5, est5⟩ : ∃ z, z = up 28 (embL 2) st3 st := ⟨_, rfl⟩
          rw [← est5] at hW
          have est3 : st3 = splL (sub (embL 2) st) (bM b 2) d f := hp68
          have hfs : Fr [1, 2, 3] (sub (embL 2) st) st3 := by rw [est3]; exact ((Fr.rf.st (by decide)).st (by decide)).st (by decide)
          rw [est3] at est5
          obtain ⟨hJ9, hoth, h09, hlow⟩ := splX_J (d := d) (f := f) (show 2 < 3 by omega) hX hm4
          rw [← est5] at hJ9 hoth h09 hlow
          refine lv_aload hx hb dX5_split_71 (lv_at hl 0 rfl) ?_
          refine lv_aload_n hx hb dX5_split_73 rfl (lv_at hl 1 rfl) ?_
          refine mk_get (ci := 5) (C := RX5) (T := TX5) (N := 4) hx hb hts inX5 hown hK hW 0 (by decide) rfl rfl 0 (by decide) fl10 (fun _ h9 => h9) rfl dX5_split_74 ?_
          refine lv_aload_n hx hb dX5_split_77 rfl (lv_at hl 1 rfl) ?_
          refine mk_get (ci := 5) (C := RX5) (T := TX5) (N := 4) hx hb hts inX5 hown hK hW 0 (by decide) rfl rfl 3 (by decide) fl29 (fun _ h9 => h9) rfl dX5_split_78 ?_
          refine mk_sayi (y := (st 0 3)) (by rw [show st5 0 = st 0 from by rw [est5]; exact up_out (by decide) _ _]) ?_
          refine mk_sayi (y := ((splM b 2 d f) 0 11)) hX.2.1.2.1 ?_
          refine mk_goVE (EmbL2 cg ad) (va_runV (As := [.ref (ad 1), .int (iI ((splM b 2 d f) 0 11))]) (rest := []) ⟨hx, hb, hml, hown, hts⟩ (c_X1_reckon l cg D (fun j => ad (embL 2 j)) (sub (embL 2) st5) 2 ((splM b 2 d f) 0 11) (bN (splM b 2 d f)) (bM (splM b 2 d f) 2) (hJ9.n hBB.j) (hJ9.J hBB.j) (hJ9.m hBB.j (show 2 < 3 by omega)) (hJ9.S hBB.j (show 2 < 3 by omega)) h09 (by omega) hBB.2.2.2.1 (fun d9 => by have h9 := hBB.2.2.2.2.1 2 (by omega) d9; rw [← hJ9.ho (show 2 < 3 by omega)] at h9; exact h9)) (cwV 2 hts gX5_split_X1_reckon rfl rfl rfl (by decide +kernel) ⟨Nat.le_of_ble_eq_true rfl, Nat.le_of_ble_eq_true rfl⟩) (mk_preV hK hN (hW.emb (EmbL2 cg ad)) 0 (by decide) rfl rfl rfl) rfl rfl hl.1 rfl (lv_room (Nat.le_of_ble_eq_true rfl)) dX5_split_81 ⟨Nat.zero_le _, Nat.zero_le _⟩) hW (fun st6 hp81 H locs hW => ?_)
          obtain ⟨st8, est8⟩ : ∃ z, z = up 28 (embL 2) st6 st5 := ⟨_, rfl⟩
          rw [← est8] at hW
          refine lv_aload hx hb dX5_split_84 (lv_at hl 0 rfl) ?_
          refine mk_getN (ci := 1) (C := RX1) (T := TX1) (N := 4) hx hb hts inX1 hown hK hW 51 (by decide) rfl rfl 1 (by decide) fn63 (fun _ h9 => h9) rfl dX5_split_86 ?_
          refine mk_getN (ci := 4) (C := RX4) (T := TX4) (N := 3) hx hb hts inX4 hown hK hW 52 (by decide) rfl rfl 2 (by decide) fn84 (fun _ h9 => h9) rfl dX5_split_89 ?_
          exact mk_retI hx hb hr hlocks hW (by
            have hz9 : ∀ k, bN (splM b 2 d f) ≤ k → k < 60 → st5 3 k = 0 := by rw [hlow 3 (by omega) (by omega)]; exact hX.2.2.2
            obtain ⟨g1, g2, g3, g4⟩ := reck_step (show 2 < 3 by omega) hJ9 hz9 h09 hp81.1 hp81.2
            rw [← est8] at g1 g2 g3 g4
            refine ⟨⟨hBB, g1, fun u hu => ?_, g4⟩, ?_⟩
            · by_cases x : u = 2
              · rw [x]; exact g2
              · exact ((hX.2.2.1 u hu).se (splM_se hm4 (hX.1.2.2.1 u hu).2.1 x)).cells fun k hk => (g3 u hu x k hk).trans (hoth u hu x k hk)
            · have g5 := g1.m hBB.j (show 2 < 3 by omega)
              rw [splM_M] at g5
              exact g5) dX5_split_92
        · skip
          omega
    · skip
      omega

set_option maxHeartbeats 4000000 in
set_option maxRecDepth 100000 in
theorem c_X5_cancel_2 (l : Launch) (cg : Nat → ClassId) (D : va_G) (ad : Nat → Nat) (st : Nat → Nat → Int) (b : Nat → Nat → Int) (hX : XI st b) (t : Nat) (ht : t < bN b) (hg : b 6 t = 0) (hv : b 1 t = ((2 : Nat) : Int)) (hsp : b 5 t = 0 → ∀ e, b 2 t ≤ e → bU b 2 t ≤ bH b 2 e) : MV l yX5_cancel wsX5_cancel ({ frames := 5, cells := 0, slots := 0, locals := 130 }) D vwCl (TY cg) 73 (celX cg) ad st [.ref (ad 0), .int (iI ((t : Nat) : Int))] (fun st1 => XI st1 (canM b t)) := by
  refine mk_open (cc := cX5_cancel) (maxL := 3) (ret := none) (by decide) rfl (Nat.le_of_ble_eq_true rfl) ?_
  intro p e s m args below meth c hx hb hml hr hown hts hlocks hK hN hargs ls hl hW
  have hown : s.vm.findClass RX5 = some m.cls := hown
  have hl : lv_has ls 3 [(0, .ref (ad 0)), (1, .int (iI ((t : Nat) : Int)))] := hl
  have inX0 : ∀ w ∈ wsX00, w ∈ wsX5_cancel := by decide +kernel
  have inX5 : ∀ w ∈ wsX50, w ∈ wsX5_cancel := by decide +kernel
  have fl10 := hts (.fieldLink RX5 10 "GainsReckoner" "journal" "LGainsReckoner$Journal;") (by decide +kernel)
  have fn87 := hN.f (args := args) "GainsReckoner" 87 "GainsReckoner$Journal" "size" "I" (by decide +kernel)
  have fn93 := hN.f (args := args) "GainsReckoner" 93 "GainsReckoner$Journal" "cancelled" "[Z" (by decide +kernel)
  have fn99 := hN.f (args := args) "GainsReckoner" 99 "GainsReckoner$Journal" "share" "[I" (by decide +kernel)
  have fn102 := hN.f (args := args) "GainsReckoner" 102 "GainsReckoner$Journal" "day" "[I" (by decide +kernel)
  have fn105 := hN.f (args := args) "GainsReckoner" 105 "GainsReckoner$Journal" "sale" "[Z" (by decide +kernel)
  have fl29 := hts (.fieldLink RX5 29 "GainsReckoner" "window" "I") (by decide +kernel)
  have fn108 := hN.f (args := args) "GainsReckoner" 108 "GainsReckoner$Journal" "count" "[I" (by decide +kernel)
  have hn6 := hX.1.n60
  have hbt := hX.1.2.1.2 t ht
  have hxt := hX.2.1.2.2.1 t ht
  have hBB : BV (canM b t) := (canM_J hX.1.j).v (by
    by_cases x : b 5 t = 0
    · exact can_buy hX.1 ht hg x hv (hsp x)
    · exact can_sale hX.1 ht hg x)
  refine lv_iload_n hx hb dX5_cancel_0 rfl (lv_at hl 1 rfl) ?_
  refine mk_if_lt (tgt := 15) hx hb dX5_cancel_1 (by decide) (by omega) (fun c_1 => ?_) (fun c_1 => ?_)
  · skip
    omega
  · skip
    refine lv_iload_n hx hb dX5_cancel_4 rfl (lv_at hl 1 rfl) ?_
    refine lv_aload_n hx hb dX5_cancel_5 rfl (lv_at hl 0 rfl) ?_
    refine mk_get (ci := 5) (C := RX5) (T := TX5) (N := 4) hx hb hts inX5 hown hK hW 0 (by decide) rfl rfl 0 (by decide) fl10 (fun _ h9 => h9) rfl dX5_cancel_6 ?_
    refine mk_getN (ci := 0) (C := RX0) (T := TX0) (N := 7) hx hb hts inX0 hown hK hW 1 (by decide) rfl rfl 6 (by decide) fn87 (fun _ h9 => h9) rfl dX5_cancel_9 ?_
    refine mk_sayi (y := (((bN b) : Nat) : Int)) (hX.2.1.n hX.1.j) ?_
    refine mk_icmp_lt (tgt := 25) hx hb dX5_cancel_12 (by decide) (by omega) (by omega) (fun c_12 => ?_) (fun c_12 => ?_)
    · skip
      refine lv_aload_n hx hb dX5_cancel_25 rfl (lv_at hl 0 rfl) ?_
      refine mk_get (ci := 5) (C := RX5) (T := TX5) (N := 4) hx hb hts inX5 hown hK hW 0 (by decide) rfl rfl 0 (by decide) fl10 (fun _ h9 => h9) rfl dX5_cancel_26 ?_
      refine mk_getN (ci := 0) (C := RX0) (T := TX0) (N := 7) hx hb hts inX0 hown hK hW 1 (by decide) rfl rfl 1 (by decide) fn93 (fun _ h9 => h9) rfl dX5_cancel_29 ?_
      refine lv_iload_n hx hb dX5_cancel_32 rfl (lv_at hl 1 rfl) ?_
      refine mk_zald hx hb hK hW 3 (by decide) rfl 1 rfl (j := t) rfl (by omega) (by decide) dX5_cancel_33 ?_
      refine mk_sayi (y := (b 6 t)) hxt.2.2.2.2.2 ?_
      refine mk_if_eq (tgt := 47) hx hb dX5_cancel_34 (by decide) (by omega) (fun c_34 => ?_) (fun c_34 => ?_)
      · skip
        refine lv_aload_n hx hb dX5_cancel_47 rfl (lv_at hl 0 rfl) ?_
        refine lv_aload_n hx hb dX5_cancel_48 rfl (lv_at hl 0 rfl) ?_
        refine mk_get (ci := 5) (C := RX5) (T := TX5) (N := 4) hx hb hts inX5 hown hK hW 0 (by decide) rfl rfl 0 (by decide) fl10 (fun _ h9 => h9) rfl dX5_cancel_49 ?_
        refine mk_getN (ci := 0) (C := RX0) (T := TX0) (N := 7) hx hb hts inX0 hown hK hW 1 (by decide) rfl rfl 2 (by decide) fn99 (fun _ h9 => h9) rfl dX5_cancel_52 ?_
        refine lv_iload_n hx hb dX5_cancel_55 rfl (lv_at hl 1 rfl) ?_
        refine mk_iald hx hb hK hW 4 (by decide) rfl 0 rfl (j := t) rfl (by omega) (by decide) dX5_cancel_56 ?_
        refine mk_sayi (y := 2) (hxt.1.trans hv) ?_
        refine lv_aload_n hx hb dX5_cancel_57 rfl (lv_at hl 0 rfl) ?_
        refine mk_get (ci := 5) (C := RX5) (T := TX5) (N := 4) hx hb hts inX5 hown hK hW 0 (by decide) rfl rfl 0 (by decide) fl10 (fun _ h9 => h9) rfl dX5_cancel_58 ?_
        refine mk_getN (ci := 0) (C := RX0) (T := TX0) (N := 7) hx hb hts inX0 hown hK hW 1 (by decide) rfl rfl 3 (by decide) fn102 (fun _ h9 => h9) rfl dX5_cancel_61 ?_
        refine lv_iload_n hx hb dX5_cancel_64 rfl (lv_at hl 1 rfl) ?_
        refine mk_iald hx hb hK hW 5 (by decide) rfl 0 rfl (j := t) rfl (by omega) (by decide) dX5_cancel_65 ?_
        refine mk_sayi (y := (b 2 t)) hxt.2.1 ?_
        refine mk_goR (st9 := st) (va_runV (As := [.int (iI 2), .int (iI (b 2 t))]) (rest := []) ⟨hx, hb, hml, hown, hts⟩ (c_X5_ledgerAt_2 l cg D ad st (b 2 t) hbt.2.2.2.1) (cwV 2 hts gX5_cancel_X5_ledgerAt rfl rfl rfl (by decide +kernel) ⟨Nat.le_of_ble_eq_true rfl, Nat.le_of_ble_eq_true rfl⟩) (mk_preV hK hN hW 0 (by decide) rfl rfl rfl) rfl rfl hl.1 rfl (lv_room (Nat.le_of_ble_eq_true rfl)) dX5_cancel_66 ⟨Nat.zero_le _, Nat.zero_le _⟩) hW (fun H locs hW => ?_)
        refine lv_astore_n (lv' := [(2, .ref (ad 51)), (0, .ref (ad 0)), (1, .int (iI ((t : Nat) : Int)))]) hx hb dX5_cancel_69 rfl hl (by decide) rfl (fun ls hl => ?_)
        refine lv_aload_n hx hb dX5_cancel_70 rfl (lv_at hl 1 rfl) ?_
        refine mk_get (ci := 5) (C := RX5) (T := TX5) (N := 4) hx hb hts inX5 hown hK hW 0 (by decide) rfl rfl 0 (by decide) fl10 (fun _ h9 => h9) rfl dX5_cancel_71 ?_
        refine mk_getN (ci := 0) (C := RX0) (T := TX0) (N := 7) hx hb hts inX0 hown hK hW 1 (by decide) rfl rfl 0 (by decide) fn105 (fun _ h9 => h9) rfl dX5_cancel_74 ?_
        refine lv_iload_n hx hb dX5_cancel_77 rfl (lv_at hl 2 rfl) ?_
        refine mk_zald hx hb hK hW 2 (by decide) rfl 1 rfl (j := t) rfl (by omega) (by decide) dX5_cancel_78 ?_
        refine mk_sayi (y := (b 5 t)) hxt.2.2.2.2.1 ?_
        refine mk_if_ne (tgt := 104) hx hb dX5_cancel_79 (by decide) (by omega) (fun c_79 => ?_) (fun c_79 => ?_)
        · skip
          refine lv_aload_n hx hb dX5_cancel_104 rfl (lv_at hl 1 rfl) ?_
          refine mk_get (ci := 5) (C := RX5) (T := TX5) (N := 4) hx hb hts inX5 hown hK hW 0 (by decide) rfl rfl 0 (by decide) fl10 (fun _ h9 => h9) rfl dX5_cancel_105 ?_
          refine mk_getN (ci := 0) (C := RX0) (T := TX0) (N := 7) hx hb hts inX0 hown hK hW 1 (by decide) rfl rfl 1 (by decide) fn93 (fun _ h9 => h9) rfl dX5_cancel_108 ?_
          refine lv_iload_n hx hb dX5_cancel_111 rfl (lv_at hl 2 rfl) ?_
          refine mk_iconst hx hb (1) dX5_cancel_112 ?_
          refine mk_zast hx hb hK hW 3 (by decide) (fun _ => rfl) 1 rfl (j := t) rfl (by omega) (by decide) (by omega) dX5_cancel_113 (fun H locs hW => ?_)
          obtain ⟨st1, est1⟩ : ∃ z, z = stC st 3 (fnU (st 3) t 1) := ⟨_, rfl⟩
          rw [← est1] at hW
          have hJ9 : XJ st1 (canM b t) := by rw [est1]; exact canX_J hX
          have h09 : sub (embL 2) st1 0 0 = ((2 : Nat) : Int) := by rw [est1, stC_sub (Or.inl (by omega)) (show 2 < 3 by omega) 0 (by omega)]; exact (hX.2.2.1 2 (by omega)).1
          refine lv_aload_n hx hb dX5_cancel_114 rfl (lv_at hl 0 rfl) ?_
          refine lv_aload_n hx hb dX5_cancel_115 rfl (lv_at hl 1 rfl) ?_
          refine mk_get (ci := 5) (C := RX5) (T := TX5) (N := 4) hx hb hts inX5 hown hK hW 0 (by decide) rfl rfl 0 (by decide) fl10 (fun _ h9 => h9) rfl dX5_cancel_116 ?_
          refine lv_aload_n hx hb dX5_cancel_119 rfl (lv_at hl 1 rfl) ?_
          refine mk_get (ci := 5) (C := RX5) (T := TX5) (N := 4) hx hb hts inX5 hown hK hW 0 (by decide) rfl rfl 3 (by decide) fl29 (fun _ h9 => h9) rfl dX5_cancel_120 ?_
          refine mk_sayi (y := (st 0 3)) (by rw [show st1 0 = st 0 from by rw [est1]; exact stC_ne (by decide)]) ?_
          refine mk_sayi (y := ((canM b t) 0 11)) hX.2.1.2.1 ?_
          refine mk_goVE (EmbL2 cg ad) (va_runV (As := [.ref (ad 1), .int (iI ((canM b t) 0 11))]) (rest := []) ⟨hx, hb, hml, hown, hts⟩ (c_X1_reckon l cg D (fun j => ad (embL 2 j)) (sub (embL 2) st1) 2 ((canM b t) 0 11) (bN (canM b t)) (bM (canM b t) 2) (hJ9.n hBB.j) (hJ9.J hBB.j) (hJ9.m hBB.j (show 2 < 3 by omega)) (hJ9.S hBB.j (show 2 < 3 by omega)) h09 (by omega) hBB.2.2.2.1 (fun d9 => by have h9 := hBB.2.2.2.2.1 2 (by omega) d9; rw [← hJ9.ho (show 2 < 3 by omega)] at h9; exact h9)) (cwV 2 hts gX5_cancel_X1_reckon rfl rfl rfl (by decide +kernel) ⟨Nat.le_of_ble_eq_true rfl, Nat.le_of_ble_eq_true rfl⟩) (mk_preV hK hN (hW.emb (EmbL2 cg ad)) 0 (by decide) rfl rfl rfl) rfl rfl hl.1 rfl (lv_room (Nat.le_of_ble_eq_true rfl)) dX5_cancel_123 ⟨Nat.zero_le _, Nat.zero_le _⟩) hW (fun st2 hp123 H locs hW => ?_)
          obtain ⟨st4, est4⟩ : ∃ z, z = up 28 (embL 2) st2 st1 := ⟨_, rfl⟩
          rw [← est4] at hW
          exact mk_retV hx hb hr hlocks hW (by
            have hz9 : ∀ k, bN (canM b t) ≤ k → k < 60 → st1 3 k = 0 := fun k h1 h2 => by
              rw [est1, stC_eq, fnU_ne (by have h3 : bN b ≤ k := h1; omega)]; exact hX.2.2.2 k h1 h2
            obtain ⟨g1, g2, g3, g4⟩ := reck_step (show 2 < 3 by omega) hJ9 hz9 h09 hp123.1 hp123.2
            rw [← est4] at g1 g2 g3 g4
            refine ⟨hBB, g1, fun u hu => ?_, g4⟩
            by_cases x : u = 2
            · rw [x]; exact g2
            · exact ((hX.2.2.1 u hu).se (canM_se (by rw [hv]; omega))).cells fun k hk => (g3 u hu x k hk).trans (by rw [est1]; exact stC_sub (Or.inl (by omega)) hu k hk)) dX5_cancel_126
        · skip
          refine lv_aload_n hx hb dX5_cancel_82 rfl (lv_at hl 0 rfl) ?_
          refine lv_aload_n hx hb dX5_cancel_83 rfl (lv_at hl 1 rfl) ?_
          refine mk_get (ci := 5) (C := RX5) (T := TX5) (N := 4) hx hb hts inX5 hown hK hW 0 (by decide) rfl rfl 0 (by decide) fl10 (fun _ h9 => h9) rfl dX5_cancel_84 ?_
          refine mk_getN (ci := 0) (C := RX0) (T := TX0) (N := 7) hx hb hts inX0 hown hK hW 1 (by decide) rfl rfl 3 (by decide) fn102 (fun _ h9 => h9) rfl dX5_cancel_87 ?_
          refine lv_iload_n hx hb dX5_cancel_90 rfl (lv_at hl 2 rfl) ?_
          refine mk_iald hx hb hK hW 5 (by decide) rfl 0 rfl (j := t) rfl (by omega) (by decide) dX5_cancel_91 ?_
          refine mk_sayi (y := (b 2 t)) hxt.2.1 ?_
          refine lv_aload_n hx hb dX5_cancel_92 rfl (lv_at hl 1 rfl) ?_
          refine mk_get (ci := 5) (C := RX5) (T := TX5) (N := 4) hx hb hts inX5 hown hK hW 0 (by decide) rfl rfl 0 (by decide) fl10 (fun _ h9 => h9) rfl dX5_cancel_93 ?_
          refine mk_getN (ci := 0) (C := RX0) (T := TX0) (N := 7) hx hb hts inX0 hown hK hW 1 (by decide) rfl rfl 4 (by decide) fn108 (fun _ h9 => h9) rfl dX5_cancel_96 ?_
          refine lv_iload_n hx hb dX5_cancel_99 rfl (lv_at hl 2 rfl) ?_
          refine mk_iald hx hb hK hW 6 (by decide) rfl 0 rfl (j := t) rfl (by omega) (by decide) dX5_cancel_100 ?_
          refine mk_sayi (y := (b 3 t)) hxt.2.2.1 ?_
          refine mk_goV (va_runS (As := [.ref (ad 51), .int (iI (b 2 t)), .int (iI (b 3 t))]) (rest := []) ⟨hx, hb, hml, hown, hts⟩ (c_X5_checkCanSpare_2 l cg D ad st b hX (b 2 t) (b 3 t) hbt.2.2.2.1 hbt.2.2.2.2.1 (hsp (by omega))) (cwS 3 hts gX5_cancel_X5_checkCanSpare rfl rfl rfl (by decide +kernel) ⟨Nat.le_of_ble_eq_true rfl, Nat.le_of_ble_eq_true rfl⟩) (mk_preS hK hN hW) rfl rfl hl.1 rfl (lv_room (Nat.le_of_ble_eq_true rfl)) dX5_cancel_101 ⟨Nat.zero_le _, Nat.zero_le _⟩) hW (fun st5 hp101 H locs hW => ?_)
          rw [hp101] at hW
          refine lv_aload_n hx hb dX5_cancel_104 rfl (lv_at hl 1 rfl) ?_
          refine mk_get (ci := 5) (C := RX5) (T := TX5) (N := 4) hx hb hts inX5 hown hK hW 0 (by decide) rfl rfl 0 (by decide) fl10 (fun _ h9 => h9) rfl dX5_cancel_105 ?_
          refine mk_getN (ci := 0) (C := RX0) (T := TX0) (N := 7) hx hb hts inX0 hown hK hW 1 (by decide) rfl rfl 1 (by decide) fn93 (fun _ h9 => h9) rfl dX5_cancel_108 ?_
          refine lv_iload_n hx hb dX5_cancel_111 rfl (lv_at hl 2 rfl) ?_
          refine mk_iconst hx hb (1) dX5_cancel_112 ?_
          refine mk_zast hx hb hK hW 3 (by decide) (fun _ => rfl) 1 rfl (j := t) rfl (by omega) (by decide) (by omega) dX5_cancel_113 (fun H locs hW => ?_)
          obtain ⟨st7, est7⟩ : ∃ z, z = stC st 3 (fnU (st 3) t 1) := ⟨_, rfl⟩
          rw [← est7] at hW
          have hJ9 : XJ st7 (canM b t) := by rw [est7]; exact canX_J hX
          have h09 : sub (embL 2) st7 0 0 = ((2 : Nat) : Int) := by rw [est7, stC_sub (Or.inl (by omega)) (show 2 < 3 by omega) 0 (by omega)]; exact (hX.2.2.1 2 (by omega)).1
          refine lv_aload_n hx hb dX5_cancel_114 rfl (lv_at hl 0 rfl) ?_
          refine lv_aload_n hx hb dX5_cancel_115 rfl (lv_at hl 1 rfl) ?_
          refine mk_get (ci := 5) (C := RX5) (T := TX5) (N := 4) hx hb hts inX5 hown hK hW 0 (by decide) rfl rfl 0 (by decide) fl10 (fun _ h9 => h9) rfl dX5_cancel_116 ?_
          refine lv_aload_n hx hb dX5_cancel_119 rfl (lv_at hl 1 rfl) ?_
          refine mk_get (ci := 5) (C := RX5) (T := TX5) (N := 4) hx hb hts inX5 hown hK hW 0 (by decide) rfl rfl 3 (by decide) fl29 (fun _ h9 => h9) rfl dX5_cancel_120 ?_
          refine mk_sayi (y := (st 0 3)) (by rw [show st7 0 = st 0 from by rw [est7]; exact stC_ne (by decide)]) ?_
          refine mk_sayi (y := ((canM b t) 0 11)) hX.2.1.2.1 ?_
          refine mk_goVE (EmbL2 cg ad) (va_runV (As := [.ref (ad 1), .int (iI ((canM b t) 0 11))]) (rest := []) ⟨hx, hb, hml, hown, hts⟩ (c_X1_reckon l cg D (fun j => ad (embL 2 j)) (sub (embL 2) st7) 2 ((canM b t) 0 11) (bN (canM b t)) (bM (canM b t) 2) (hJ9.n hBB.j) (hJ9.J hBB.j) (hJ9.m hBB.j (show 2 < 3 by omega)) (hJ9.S hBB.j (show 2 < 3 by omega)) h09 (by omega) hBB.2.2.2.1 (fun d9 => by have h9 := hBB.2.2.2.2.1 2 (by omega) d9; rw [← hJ9.ho (show 2 < 3 by omega)] at h9; exact h9)) (cwV 2 hts gX5_cancel_X1_reckon rfl rfl rfl (by decide +kernel) ⟨Nat.le_of_ble_eq_true rfl, Nat.le_of_ble_eq_true rfl⟩) (mk_preV hK hN (hW.emb (EmbL2 cg ad)) 0 (by decide) rfl rfl rfl) rfl rfl hl.1 rfl (lv_room (Nat.le_of_ble_eq_true rfl)) dX5_cancel_123 ⟨Nat.zero_le _, Nat.zero_le _⟩) hW (fun st8 hp123 H locs hW => ?_)
          obtain ⟨st10, est10⟩ : ∃ z, z = up 28 (embL 2) st8 st7 := ⟨_, rfl⟩
          rw [← est10] at hW
          exact mk_retV hx hb hr hlocks hW (by
            have hz9 : ∀ k, bN (canM b t) ≤ k → k < 60 → st7 3 k = 0 := fun k h1 h2 => by
              rw [est7, stC_eq, fnU_ne (by have h3 : bN b ≤ k := h1; omega)]; exact hX.2.2.2 k h1 h2
            obtain ⟨g1, g2, g3, g4⟩ := reck_step (show 2 < 3 by omega) hJ9 hz9 h09 hp123.1 hp123.2
            rw [← est10] at g1 g2 g3 g4
            refine ⟨hBB, g1, fun u hu => ?_, g4⟩
            by_cases x : u = 2
            · rw [x]; exact g2
            · exact ((hX.2.2.1 u hu).se (canM_se (by rw [hv]; omega))).cells fun k hk => (g3 u hu x k hk).trans (by rw [est7]; exact stC_sub (Or.inl (by omega)) hu k hk)) dX5_cancel_126
      · skip
        omega
    · skip
      omega

set_option maxHeartbeats 4000000 in
set_option maxRecDepth 100000 in
theorem c_X5_setAllowance (l : Launch) (cg : Nat → ClassId) (D : va_G) (ad : Nat → Nat) (st : Nat → Nat → Int) (b : Nat → Nat → Int) (hX : XI st b) (y : Nat) (a : Int) (hy : y < 5) (ha : 0 ≤ a ∧ a ≤ 1000000) : MI l yX5_setAllowance wsX5_setAllowance ({ frames := 1, cells := 0, slots := 0, locals := 50 }) D vwCl (TY cg) 73 (celX cg) ad st [.ref (ad 0), .int (iI ((y : Nat) : Int)), .int (iI a)] (fun z st1 => XI st1 (alwM b y a) ∧ z = b 10 y) := by
  refine mk_open (cc := cX5_setAllowance) (maxL := 4) (ret := (some .int)) (by decide) rfl (Nat.le_of_ble_eq_true rfl) ?_
  intro p e s m args below meth c hx hb hml hr hown hts hlocks hK hN hargs ls hl hW
  have hown : s.vm.findClass RX5 = some m.cls := hown
  have hl : lv_has ls 4 [(0, .ref (ad 0)), (1, .int (iI ((y : Nat) : Int))), (2, .int (iI a))] := hl
  have inX5 : ∀ w ∈ wsX50, w ∈ wsX5_setAllowance := by decide +kernel
  have fl25 := hts (.fieldLink RX5 25 "GainsReckoner" "allowances" "[I") (by decide +kernel)
  refine lv_iload_n hx hb dX5_setAllowance_0 rfl (lv_at hl 1 rfl) ?_
  refine mk_goV (va_runS (As := [.int (iI ((y : Nat) : Int))]) (rest := []) ⟨hx, hb, hml, hown, hts⟩ (c_X5_checkYear l cg D ad st (y : Int) (by omega)) (cwS 1 hts gX5_setAllowance_X5_checkYear rfl rfl rfl (by decide +kernel) ⟨Nat.le_of_ble_eq_true rfl, Nat.le_of_ble_eq_true rfl⟩) (mk_preS hK hN hW) rfl rfl hl.1 rfl (lv_room (Nat.le_of_ble_eq_true rfl)) dX5_setAllowance_1 ⟨Nat.zero_le _, Nat.zero_le _⟩) hW (fun st1 hp1 H locs hW => ?_)
  rw [hp1] at hW
  refine lv_iload_n hx hb dX5_setAllowance_4 rfl (lv_at hl 2 rfl) ?_
  refine mk_goV (va_runS (As := [.int (iI a)]) (rest := []) ⟨hx, hb, hml, hown, hts⟩ (c_X5_checkMoney l cg D ad st a ha) (cwS 1 hts gX5_setAllowance_X5_checkMoney rfl rfl rfl (by decide +kernel) ⟨Nat.le_of_ble_eq_true rfl, Nat.le_of_ble_eq_true rfl⟩) (mk_preS hK hN hW) rfl rfl hl.1 rfl (lv_room (Nat.le_of_ble_eq_true rfl)) dX5_setAllowance_5 ⟨Nat.zero_le _, Nat.zero_le _⟩) hW (fun st3 hp5 H locs hW => ?_)
  rw [hp5] at hW
  refine lv_aload_n hx hb dX5_setAllowance_8 rfl (lv_at hl 0 rfl) ?_
  refine mk_get (ci := 5) (C := RX5) (T := TX5) (N := 4) hx hb hts inX5 hown hK hW 0 (by decide) rfl rfl 2 (by decide) fl25 (fun _ h9 => h9) rfl dX5_setAllowance_9 ?_
  refine lv_iload_n hx hb dX5_setAllowance_12 rfl (lv_at hl 1 rfl) ?_
  refine mk_iald hx hb hK hW 72 (by decide) rfl 0 rfl (j := y) rfl (by omega) (by decide) dX5_setAllowance_13 ?_
  refine mk_sayi (y := (b 10 y)) (hX.2.1.2.2.2.2 y hy) ?_
  refine lv_istore_n (lv' := [(3, .int (iI (b 10 y))), (0, .ref (ad 0)), (1, .int (iI ((y : Nat) : Int))), (2, .int (iI a))]) hx hb dX5_setAllowance_14 rfl hl (by decide) rfl (fun ls hl => ?_)
  refine lv_aload_n hx hb dX5_setAllowance_15 rfl (lv_at hl 1 rfl) ?_
  refine mk_get (ci := 5) (C := RX5) (T := TX5) (N := 4) hx hb hts inX5 hown hK hW 0 (by decide) rfl rfl 2 (by decide) fl25 (fun _ h9 => h9) rfl dX5_setAllowance_16 ?_
  refine lv_iload_n hx hb dX5_setAllowance_19 rfl (lv_at hl 2 rfl) ?_
  refine lv_iload_n hx hb dX5_setAllowance_20 rfl (lv_at hl 3 rfl) ?_
  refine mk_iast hx hb hK hW 72 (by decide) (fun _ => rfl) 0 rfl (j := y) rfl (by omega) (by decide) dX5_setAllowance_21 (fun H locs hW => ?_)
  obtain ⟨st5, est5⟩ : ∃ z, z = stC st 72 (fnU (st 72) y a) := ⟨_, rfl⟩
  rw [← est5] at hW
  refine lv_iload_n hx hb dX5_setAllowance_22 rfl (lv_at hl 0 rfl) ?_
  exact mk_retI hx hb hr hlocks hW ⟨by rw [est5]; exact alwX hX hy ha, rfl⟩ dX5_setAllowance_23

set_option maxHeartbeats 4000000 in
set_option maxRecDepth 100000 in
theorem c_X5_setWindow (l : Launch) (cg : Nat → ClassId) (D : va_G) (ad : Nat → Nat) (st : Nat → Nat → Int) (b : Nat → Nat → Int) (hX : XI st b) (a : Int) (ha : 0 ≤ a ∧ a ≤ 60) : MI l yX5_setWindow wsX5_setWindow ({ frames := 5, cells := 0, slots := 0, locals := 130 }) D vwCl (TY cg) 73 (celX cg) ad st [.ref (ad 0), .int (iI a)] (fun z st1 => XI st1 (winM b a) ∧ z = b 0 11) := by
  refine mk_open (cc := cX5_setWindow) (maxL := 4) (ret := (some .int)) (by decide) rfl (Nat.le_of_ble_eq_true rfl) ?_
  intro p e s m args below meth c hx hb hml hr hown hts hlocks hK hN hargs ls hl hW
  have hown : s.vm.findClass RX5 = some m.cls := hown
  have hl : lv_has ls 4 [(0, .ref (ad 0)), (1, .int (iI a))] := hl
  have inX5 : ∀ w ∈ wsX50, w ∈ wsX5_setWindow := by decide +kernel
  have fl29 := hts (.fieldLink RX5 29 "GainsReckoner" "window" "I") (by decide +kernel)
  have fl18 := hts (.fieldLink RX5 18 "GainsReckoner" "ledgers" "[LGainsReckoner$Ledger;") (by decide +kernel)
  have fl10 := hts (.fieldLink RX5 10 "GainsReckoner" "journal" "LGainsReckoner$Journal;") (by decide +kernel)
  have hBB : BV (winM b a) := winM_V hX.1 ha
  refine lv_iload_n hx hb dX5_setWindow_0 rfl (lv_at hl 1 rfl) ?_
  refine mk_if_lt (tgt := 10) hx hb dX5_setWindow_1 (by decide) (by omega) (fun c_1 => ?_) (fun c_1 => ?_)
  · skip
    omega
  · skip
    refine lv_iload_n hx hb dX5_setWindow_4 rfl (lv_at hl 1 rfl) ?_
    refine mk_bipush hx hb (60) (by decide +kernel) dX5_setWindow_5 ?_
    refine mk_icmp_le (tgt := 20) hx hb dX5_setWindow_7 (by decide) (by omega) (by omega) (fun c_7 => ?_) (fun c_7 => ?_)
    · skip
      refine lv_aload_n hx hb dX5_setWindow_20 rfl (lv_at hl 0 rfl) ?_
      refine mk_get (ci := 5) (C := RX5) (T := TX5) (N := 4) hx hb hts inX5 hown hK hW 0 (by decide) rfl rfl 3 (by decide) fl29 (fun _ h9 => h9) rfl dX5_setWindow_21 ?_
      refine mk_sayi (y := (b 0 11)) hX.2.1.2.1 ?_
      refine lv_istore_n (lv' := [(2, .int (iI (b 0 11))), (0, .ref (ad 0)), (1, .int (iI a))]) hx hb dX5_setWindow_24 rfl hl (by decide) rfl (fun ls hl => ?_)
      refine lv_aload_n hx hb dX5_setWindow_25 rfl (lv_at hl 1 rfl) ?_
      refine lv_iload_n hx hb dX5_setWindow_26 rfl (lv_at hl 2 rfl) ?_
      refine mk_put (ci := 5) (C := RX5) (T := TX5) (N := 4) hx hb hts inX5 tyX5 tyX5_ok nmX5 hown hK hW 0 (by decide) rfl rfl 3 (by decide) fl29 (fun _ h9 => h9) rfl (by decide +kernel) (Nat.le_of_ble_eq_true rfl) rfl dX5_setWindow_27 (fun H locs hW => ?_)
      obtain ⟨st1, est1⟩ : ∃ z, z = stC st 0 (fnU (st 0) 3 a) := ⟨_, rfl⟩
      rw [← est1] at hW
      have hJ0 : XJ st1 (winM b a) := by rw [est1]; exact winX_J hX
      have hz0 : ∀ k, bN (winM b a) ≤ k → k < 60 → st1 3 k = 0 := by rw [est1]; exact hX.2.2.2
      have hu0 : ∀ u, u < 3 → ∀ k, k < 21 → sub (embL u) st1 k = sub (embL u) st k := fun u hu => by rw [est1]; exact stC_sub (Or.inl (by omega)) hu
      refine mk_iconst hx hb (0) dX5_setWindow_30 ?_
      refine lv_istore_n (lv' := [(3, .int (iI 0)), (2, .int (iI (b 0 11))), (0, .ref (ad 0)), (1, .int (iI a))]) hx hb dX5_setWindow_31 rfl hl (by decide) rfl (fun ls hl => ?_)
      refine lv_iload_n hx hb dX5_setWindow_32 rfl (lv_at hl 0 rfl) ?_
      refine mk_iconst hx hb (3) dX5_setWindow_33 ?_
      refine mk_icmp_ge (tgt := 60) hx hb dX5_setWindow_34 (by decide) (by omega) (by omega) (fun c_34 => ?_) (fun c_34 => ?_)
      · skip
        omega
      · skip
        refine lv_aload_n hx hb dX5_setWindow_37 rfl (lv_at hl 2 rfl) ?_
        refine mk_get (ci := 5) (C := RX5) (T := TX5) (N := 4) hx hb hts inX5 hown hK hW 0 (by decide) rfl rfl 1 (by decide) fl18 (fun _ h9 => h9) rfl dX5_setWindow_38 ?_
        refine lv_iload_n hx hb dX5_setWindow_41 rfl (lv_at hl 0 rfl) ?_
        refine mk_aald hx hb hK hW 8 (by decide) rfl 3 rfl (j := 0) rfl (by omega) (by decide) rfl dX5_setWindow_42 ?_
        refine lv_aload_n hx hb dX5_setWindow_43 rfl (lv_at hl 2 rfl) ?_
        refine mk_get (ci := 5) (C := RX5) (T := TX5) (N := 4) hx hb hts inX5 hown hK hW 0 (by decide) rfl rfl 0 (by decide) fl10 (fun _ h9 => h9) rfl dX5_setWindow_44 ?_
        refine lv_aload_n hx hb dX5_setWindow_47 rfl (lv_at hl 2 rfl) ?_
        refine mk_get (ci := 5) (C := RX5) (T := TX5) (N := 4) hx hb hts inX5 hown hK hW 0 (by decide) rfl rfl 3 (by decide) fl29 (fun _ h9 => h9) rfl dX5_setWindow_48 ?_
        refine mk_sayi (y := ((winM b a) 0 11)) hJ0.2.1 ?_
        refine mk_goVE (EmbL0 cg ad) (va_runV (As := [.ref (ad 1), .int (iI ((winM b a) 0 11))]) (rest := []) ⟨hx, hb, hml, hown, hts⟩ (c_X1_reckon l cg D (fun j => ad (embL 0 j)) (sub (embL 0) st1) 0 ((winM b a) 0 11) (bN (winM b a)) (bM (winM b a) 0) (hJ0.n hBB.j) (hJ0.J hBB.j) (hJ0.m hBB.j (show 0 < 3 by omega)) (hJ0.S hBB.j (show 0 < 3 by omega)) (by rw [hu0 0 (by omega) 0 (by omega)]; exact (hX.2.2.1 0 (by omega)).1) (by omega) hBB.2.2.2.1 (fun d9 => by have h9 := hBB.2.2.2.2.1 0 (by omega) d9; rw [← hJ0.ho (show 0 < 3 by omega)] at h9; exact h9)) (cwV 2 hts gX5_setWindow_X1_reckon rfl rfl rfl (by decide +kernel) ⟨Nat.le_of_ble_eq_true rfl, Nat.le_of_ble_eq_true rfl⟩) (mk_preV hK hN (hW.emb (EmbL0 cg ad)) 0 (by decide) rfl rfl rfl) rfl rfl hl.1 rfl (lv_room (Nat.le_of_ble_eq_true rfl)) dX5_setWindow_51 ⟨Nat.zero_le _, Nat.zero_le _⟩) hW (fun st2 hp51_0 H locs hW => ?_)
        obtain ⟨st4, est4⟩ : ∃ z, z = up 28 (embL 0) st2 st1 := ⟨_, rfl⟩
        rw [← est4] at hW
        obtain ⟨hJ1, hL0, hs0, hz1⟩ := reck_step (show 0 < 3 by omega) hJ0 hz0 (by rw [hu0 0 (by omega) 0 (by omega)]; exact (hX.2.2.1 0 (by omega)).1) hp51_0.1 hp51_0.2
        rw [← est4] at hJ1 hL0 hs0 hz1
        have hf51 := hp51_0.1
        have hu1 : ∀ u, u < 3 → ∀ k, k < 21 → u > 0 → sub (embL u) st4 k = sub (embL u) st k := fun u hu k hk hg => (hs0 u hu (by omega) k hk).trans (hu0 u hu k hk)
        refine mk_iinc (w := 1) (lv' := [(3, .int (iI 1)), (2, .int (iI (b 0 11))), (0, .ref (ad 0)), (1, .int (iI a))]) hx hb dX5_setWindow_54 hl (k := 0) rfl (by omega) (by decide) rfl (fun ls hl => ?_)
        refine lv_goto (tgt := 32) hx hb dX5_setWindow_57 (by decide) ?_
        refine lv_iload_n hx hb dX5_setWindow_32 rfl (lv_at hl 0 rfl) ?_
        refine mk_iconst hx hb (3) dX5_setWindow_33 ?_
        refine mk_icmp_ge (tgt := 60) hx hb dX5_setWindow_34 (by decide) (by omega) (by omega) (fun c_34 => ?_) (fun c_34 => ?_)
        · skip
          omega
        · skip
          refine lv_aload_n hx hb dX5_setWindow_37 rfl (lv_at hl 2 rfl) ?_
          refine mk_get (ci := 5) (C := RX5) (T := TX5) (N := 4) hx hb hts inX5 hown hK hW 0 (by decide) rfl rfl 1 (by decide) fl18 (fun _ h9 => h9) rfl dX5_setWindow_38 ?_
          refine lv_iload_n hx hb dX5_setWindow_41 rfl (lv_at hl 0 rfl) ?_
          refine mk_aald hx hb hK hW 8 (by decide) rfl 3 rfl (j := 1) rfl (by omega) (by decide) rfl dX5_setWindow_42 ?_
          refine lv_aload_n hx hb dX5_setWindow_43 rfl (lv_at hl 2 rfl) ?_
          refine mk_get (ci := 5) (C := RX5) (T := TX5) (N := 4) hx hb hts inX5 hown hK hW 0 (by decide) rfl rfl 0 (by decide) fl10 (fun _ h9 => h9) rfl dX5_setWindow_44 ?_
          refine lv_aload_n hx hb dX5_setWindow_47 rfl (lv_at hl 2 rfl) ?_
          refine mk_get (ci := 5) (C := RX5) (T := TX5) (N := 4) hx hb hts inX5 hown hK hW 0 (by decide) rfl rfl 3 (by decide) fl29 (fun _ h9 => h9) rfl dX5_setWindow_48 ?_
          refine mk_sayi (y := ((winM b a) 0 11)) hJ1.2.1 ?_
          refine mk_goVE (EmbL1 cg ad) (va_runV (As := [.ref (ad 1), .int (iI ((winM b a) 0 11))]) (rest := []) ⟨hx, hb, hml, hown, hts⟩ (c_X1_reckon l cg D (fun j => ad (embL 1 j)) (sub (embL 1) st4) 1 ((winM b a) 0 11) (bN (winM b a)) (bM (winM b a) 1) (hJ1.n hBB.j) (hJ1.J hBB.j) (hJ1.m hBB.j (show 1 < 3 by omega)) (hJ1.S hBB.j (show 1 < 3 by omega)) (by rw [hu1 1 (by omega) 0 (by omega) (by omega)]; exact (hX.2.2.1 1 (by omega)).1) (by omega) hBB.2.2.2.1 (fun d9 => by have h9 := hBB.2.2.2.2.1 1 (by omega) d9; rw [← hJ1.ho (show 1 < 3 by omega)] at h9; exact h9)) (cwV 2 hts gX5_setWindow_X1_reckon rfl rfl rfl (by decide +kernel) ⟨Nat.le_of_ble_eq_true rfl, Nat.le_of_ble_eq_true rfl⟩) (mk_preV hK hN (hW.emb (EmbL1 cg ad)) 0 (by decide) rfl rfl rfl) rfl rfl hl.1 rfl (lv_room (Nat.le_of_ble_eq_true rfl)) dX5_setWindow_51 ⟨Nat.zero_le _, Nat.zero_le _⟩) hW (fun st5 hp51_1 H locs hW => ?_)
          obtain ⟨st7, est7⟩ : ∃ z, z = up 28 (embL 1) st5 st4 := ⟨_, rfl⟩
          rw [← est7] at hW
          obtain ⟨hJ2, hL1, hs1, hz2⟩ := reck_step (show 1 < 3 by omega) hJ1 hz1 (by rw [hu1 1 (by omega) 0 (by omega) (by omega)]; exact (hX.2.2.1 1 (by omega)).1) hp51_1.1 hp51_1.2
          rw [← est7] at hJ2 hL1 hs1 hz2
          have hf51 := hp51_1.1
          have hu2 : ∀ u, u < 3 → ∀ k, k < 21 → u > 1 → sub (embL u) st7 k = sub (embL u) st k := fun u hu k hk hg => (hs1 u hu (by omega) k hk).trans (hu1 u hu k hk (by omega))
          refine mk_iinc (w := 2) (lv' := [(3, .int (iI 2)), (2, .int (iI (b 0 11))), (0, .ref (ad 0)), (1, .int (iI a))]) hx hb dX5_setWindow_54 hl (k := 0) rfl (by omega) (by decide) rfl (fun ls hl => ?_)
          refine lv_goto (tgt := 32) hx hb dX5_setWindow_57 (by decide) ?_
          refine lv_iload_n hx hb dX5_setWindow_32 rfl (lv_at hl 0 rfl) ?_
          refine mk_iconst hx hb (3) dX5_setWindow_33 ?_
          refine mk_icmp_ge (tgt := 60) hx hb dX5_setWindow_34 (by decide) (by omega) (by omega) (fun c_34 => ?_) (fun c_34 => ?_)
          · skip
            omega
          · skip
            refine lv_aload_n hx hb dX5_setWindow_37 rfl (lv_at hl 2 rfl) ?_
            refine mk_get (ci := 5) (C := RX5) (T := TX5) (N := 4) hx hb hts inX5 hown hK hW 0 (by decide) rfl rfl 1 (by decide) fl18 (fun _ h9 => h9) rfl dX5_setWindow_38 ?_
            refine lv_iload_n hx hb dX5_setWindow_41 rfl (lv_at hl 0 rfl) ?_
            refine mk_aald hx hb hK hW 8 (by decide) rfl 3 rfl (j := 2) rfl (by omega) (by decide) rfl dX5_setWindow_42 ?_
            refine lv_aload_n hx hb dX5_setWindow_43 rfl (lv_at hl 2 rfl) ?_
            refine mk_get (ci := 5) (C := RX5) (T := TX5) (N := 4) hx hb hts inX5 hown hK hW 0 (by decide) rfl rfl 0 (by decide) fl10 (fun _ h9 => h9) rfl dX5_setWindow_44 ?_
            refine lv_aload_n hx hb dX5_setWindow_47 rfl (lv_at hl 2 rfl) ?_
            refine mk_get (ci := 5) (C := RX5) (T := TX5) (N := 4) hx hb hts inX5 hown hK hW 0 (by decide) rfl rfl 3 (by decide) fl29 (fun _ h9 => h9) rfl dX5_setWindow_48 ?_
            refine mk_sayi (y := ((winM b a) 0 11)) hJ2.2.1 ?_
            refine mk_goVE (EmbL2 cg ad) (va_runV (As := [.ref (ad 1), .int (iI ((winM b a) 0 11))]) (rest := []) ⟨hx, hb, hml, hown, hts⟩ (c_X1_reckon l cg D (fun j => ad (embL 2 j)) (sub (embL 2) st7) 2 ((winM b a) 0 11) (bN (winM b a)) (bM (winM b a) 2) (hJ2.n hBB.j) (hJ2.J hBB.j) (hJ2.m hBB.j (show 2 < 3 by omega)) (hJ2.S hBB.j (show 2 < 3 by omega)) (by rw [hu2 2 (by omega) 0 (by omega) (by omega)]; exact (hX.2.2.1 2 (by omega)).1) (by omega) hBB.2.2.2.1 (fun d9 => by have h9 := hBB.2.2.2.2.1 2 (by omega) d9; rw [← hJ2.ho (show 2 < 3 by omega)] at h9; exact h9)) (cwV 2 hts gX5_setWindow_X1_reckon rfl rfl rfl (by decide +kernel) ⟨Nat.le_of_ble_eq_true rfl, Nat.le_of_ble_eq_true rfl⟩) (mk_preV hK hN (hW.emb (EmbL2 cg ad)) 0 (by decide) rfl rfl rfl) rfl rfl hl.1 rfl (lv_room (Nat.le_of_ble_eq_true rfl)) dX5_setWindow_51 ⟨Nat.zero_le _, Nat.zero_le _⟩) hW (fun st8 hp51_2 H locs hW => ?_)
            obtain ⟨st10, est10⟩ : ∃ z, z = up 28 (embL 2) st8 st7 := ⟨_, rfl⟩
            rw [← est10] at hW
            obtain ⟨hJ3, hL2, hs2, hz3⟩ := reck_step (show 2 < 3 by omega) hJ2 hz2 (by rw [hu2 2 (by omega) 0 (by omega) (by omega)]; exact (hX.2.2.1 2 (by omega)).1) hp51_2.1 hp51_2.2
            rw [← est10] at hJ3 hL2 hs2 hz3
            have hf51 := hp51_2.1
            refine mk_iinc (w := 3) (lv' := [(3, .int (iI 3)), (2, .int (iI (b 0 11))), (0, .ref (ad 0)), (1, .int (iI a))]) hx hb dX5_setWindow_54 hl (k := 0) rfl (by omega) (by decide) rfl (fun ls hl => ?_)
            refine lv_goto (tgt := 32) hx hb dX5_setWindow_57 (by decide) ?_
            refine lv_iload_n hx hb dX5_setWindow_32 rfl (lv_at hl 0 rfl) ?_
            refine mk_iconst hx hb (3) dX5_setWindow_33 ?_
            refine mk_icmp_ge (tgt := 60) hx hb dX5_setWindow_34 (by decide) (by omega) (by omega) (fun c_34 => ?_) (fun c_34 => ?_)
            · skip
              refine lv_iload_n hx hb dX5_setWindow_60 rfl (lv_at hl 1 rfl) ?_
              exact mk_retI hx hb hr hlocks hW (by
                refine ⟨⟨hBB, hJ3, fun u hu => ?_, hz3⟩, rfl⟩
                rcases (show u = 0 ∨ u = 1 ∨ u = 2 by omega) with x | x | x <;> rw [x]
                · exact (hL0.cells (hs1 0 (by omega) (by omega))).cells (hs2 0 (by omega) (by omega))
                · exact hL1.cells (hs2 1 (by omega) (by omega))
                · exact hL2) dX5_setWindow_61
            · skip
              omega
    · skip
      omega

