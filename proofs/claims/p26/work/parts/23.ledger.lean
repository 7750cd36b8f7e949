set_option maxHeartbeats 4000000 in
set_option maxRecDepth 100000 in
theorem c_X1_takeBought (l : Launch) (cg : Nat → ClassId) (D : va_G) (ad : Nat → Nat) (st : Nat → Nat → Int) (r : Nat) (u : Int) (hr6 : r < 60) (hg : 0 ≤ st 7 r) (hu : 0 ≤ u) (hgu : st 7 r + u ≤ st 6 r) (hb9 : st 6 r < 2147483648) (hc9 : 0 ≤ st 8 r ∧ st 8 r < 2147483648) : MI l yX1_takeBought wsX1_takeBought ({ frames := 1, cells := 0, slots := 0, locals := 23 }) D vwCl (TY cg) 28 (celL cg) ad st [.ref (ad 0), .int (iI ((r : Nat) : Int)), .int (iI u)] (fun z st1 => z = prt (st 8 r) (st 6 r) (st 7 r) u ∧ st1 = stC st 7 (fnU (st 7) r (st 7 r + u))) := by
  refine mk_open (cc := cX1_takeBought) (maxL := 4) (ret := (some .int)) (by decide) rfl (Nat.le_of_ble_eq_true rfl) ?_
  intro p e s m args below meth c hx hb hml hr hown hts hlocks hK hN hargs ls hl hW
  have hown : s.vm.findClass RX1 = some m.cls := hown
  have hl : lv_has ls 4 [(0, .ref (ad 0)), (1, .int (iI ((r : Nat) : Int))), (2, .int (iI u))] := hl
  have inX1 : ∀ w ∈ wsX10, w ∈ wsX1_takeBought := by decide +kernel
  have inX3 : ∀ w ∈ wsX30, w ∈ wsX1_takeBought := by decide +kernel
  have fl21 := hts (.fieldLink RX1 21 "GainsReckoner$Ledger" "sheet" "LGainsReckoner$Sheet;") (by decide +kernel)
  have fn103 := hN.f (args := args) "GainsReckoner$Ledger" 103 "GainsReckoner$Sheet" "boughtGone" "[I" (by decide +kernel)
  have fn88 := hN.f (args := args) "GainsReckoner$Ledger" 88 "GainsReckoner$Sheet" "cost" "[I" (by decide +kernel)
  have fn77 := hN.f (args := args) "GainsReckoner$Ledger" 77 "GainsReckoner$Sheet" "bought" "[I" (by decide +kernel)
  have nm91 := hN.m "GainsReckoner$Ledger" 91 yX5_part (by decide +kernel)
  have niX5 := hts (.initialized RX5) (by decide +kernel)
  have ns91 := hts (.static yX5_part) (by decide +kernel)
  refine lv_aload_n hx hb dX1_takeBought_0 rfl (lv_at hl 0 rfl) ?_
  refine mk_get (ci := 1) (C := RX1) (T := TX1) (N := 4) hx hb hts inX1 hown hK hW 0 (by decide) rfl rfl 2 (by decide) fl21 (fun _ h9 => h9) rfl dX1_takeBought_1 ?_
  refine mk_getN (ci := 3) (C := RX3) (T := TX3) (N := 10) hx hb hts inX3 hown hK hW 4 (by decide) rfl rfl 2 (by decide) fn103 (fun _ h9 => h9) rfl dX1_takeBought_4 ?_
  refine lv_iload_n hx hb dX1_takeBought_7 rfl (lv_at hl 1 rfl) ?_
  refine mk_iald hx hb hK hW 7 (by decide) rfl 0 rfl (j := r) rfl (by omega) (by decide) dX1_takeBought_8 ?_
  refine lv_istore_n (lv' := [(3, .int (iI (st 7 r))), (0, .ref (ad 0)), (1, .int (iI ((r : Nat) : Int))), (2, .int (iI u))]) hx hb dX1_takeBought_9 rfl hl (by decide) rfl (fun ls hl => ?_)
  refine lv_aload_n hx hb dX1_takeBought_10 rfl (lv_at hl 1 rfl) ?_
  refine mk_get (ci := 1) (C := RX1) (T := TX1) (N := 4) hx hb hts inX1 hown hK hW 0 (by decide) rfl rfl 2 (by decide) fl21 (fun _ h9 => h9) rfl dX1_takeBought_11 ?_
  refine mk_getN (ci := 3) (C := RX3) (T := TX3) (N := 10) hx hb hts inX3 hown hK hW 4 (by decide) rfl rfl 2 (by decide) fn103 (fun _ h9 => h9) rfl dX1_takeBought_14 ?_
  refine lv_iload_n hx hb dX1_takeBought_17 rfl (lv_at hl 2 rfl) ?_
  refine lv_iload_n hx hb dX1_takeBought_18 rfl (lv_at hl 0 rfl) ?_
  refine lv_iload_n hx hb dX1_takeBought_19 rfl (lv_at hl 3 rfl) ?_
  refine mk_iadd hx hb dX1_takeBought_20 ?_
  refine mk_iast hx hb hK hW 7 (by decide) (fun _ => rfl) 0 rfl (j := r) rfl (by omega) (by decide) dX1_takeBought_21 (fun H locs hW => ?_)
  obtain ⟨st1, est1⟩ : ∃ z, z = stC st 7 (fnU (st 7) r ((st 7 r) + u)) := ⟨_, rfl⟩
  rw [← est1] at hW
  refine lv_aload_n hx hb dX1_takeBought_22 rfl (lv_at hl 1 rfl) ?_
  refine mk_get (ci := 1) (C := RX1) (T := TX1) (N := 4) hx hb hts inX1 hown hK hW 0 (by decide) rfl rfl 2 (by decide) fl21 (fun _ h9 => h9) rfl dX1_takeBought_23 ?_
  refine mk_getN (ci := 3) (C := RX3) (T := TX3) (N := 10) hx hb hts inX3 hown hK hW 4 (by decide) rfl rfl 3 (by decide) fn88 (fun _ h9 => h9) rfl dX1_takeBought_26 ?_
  refine lv_iload_n hx hb dX1_takeBought_29 rfl (lv_at hl 2 rfl) ?_
  refine mk_iald hx hb hK hW 8 (by decide) rfl 0 rfl (j := r) rfl (by omega) (by decide) dX1_takeBought_30 ?_
  refine mk_sayi (y := (st 8 r)) (by rw [show st1 8 = st 8 from by rw [est1]; exact stC_ne (by decide)]) ?_
  refine lv_iload_n hx hb dX1_takeBought_31 rfl (lv_at hl 0 rfl) ?_
  refine lv_iload_n hx hb dX1_takeBought_32 rfl (lv_at hl 0 rfl) ?_
  refine lv_iload_n hx hb dX1_takeBought_33 rfl (lv_at hl 3 rfl) ?_
  refine mk_iadd hx hb dX1_takeBought_34 ?_
  refine lv_aload_n hx hb dX1_takeBought_35 rfl (lv_at hl 1 rfl) ?_
  refine mk_get (ci := 1) (C := RX1) (T := TX1) (N := 4) hx hb hts inX1 hown hK hW 0 (by decide) rfl rfl 2 (by decide) fl21 (fun _ h9 => h9) rfl dX1_takeBought_36 ?_
  refine mk_getN (ci := 3) (C := RX3) (T := TX3) (N := 10) hx hb hts inX3 hown hK hW 4 (by decide) rfl rfl 1 (by decide) fn77 (fun _ h9 => h9) rfl dX1_takeBought_39 ?_
  refine lv_iload_n hx hb dX1_takeBought_42 rfl (lv_at hl 2 rfl) ?_
  refine mk_iald hx hb hK hW 6 (by decide) rfl 0 rfl (j := r) rfl (by omega) (by decide) dX1_takeBought_43 ?_
  refine mk_sayi (y := (st 6 r)) (by rw [show st1 6 = st 6 from by rw [est1]; exact stC_ne (by decide)]) ?_
  refine mk_goI (va_runSN (As := [.int (iI (st 8 r)), .int (iI (st 7 r)), .int (iI ((st 7 r) + u)), .int (iI (st 6 r))]) (rest := []) ⟨hx, hb, hml, hown, hts⟩ (c_X5_part l cg D ad st1 (st 8 r) (st 7 r) (st 7 r + u) (st 6 r) hc9 (by omega) (by omega) (by omega)) ⟨va_cnB 4 hts gX1_takeBought_X5_part_n91 rfl rfl rfl nm91 niX5 (by decide +kernel) ⟨Nat.le_of_ble_eq_true rfl, Nat.le_of_ble_eq_true rfl⟩, ns91, trivial⟩ (mk_preS hK hN hW) rfl rfl hl.1 rfl (lv_room (Nat.le_of_ble_eq_true rfl)) dX1_takeBought_44 ⟨Nat.zero_le _, Nat.zero_le _⟩) hW (fun z st2 hp44 H locs hW => ?_)
  obtain ⟨est2, hz⟩ := hp44
  rw [est2] at hW
  exact mk_retI hx hb hr hlocks hW ⟨hz, est1⟩ dX1_takeBought_47

set_option maxHeartbeats 4000000 in
set_option maxRecDepth 100000 in
theorem c_X1_takeSold (l : Launch) (cg : Nat → ClassId) (D : va_G) (ad : Nat → Nat) (st : Nat → Nat → Int) (r : Nat) (u : Int) (hr6 : r < 60) (hg : 0 ≤ st 10 r) (hu : 0 ≤ u) (hgu : st 10 r + u ≤ st 9 r) (hb9 : st 9 r < 2147483648) (hc9 : 0 ≤ st 11 r ∧ st 11 r < 2147483648) : MI l yX1_takeSold wsX1_takeSold ({ frames := 1, cells := 0, slots := 0, locals := 23 }) D vwCl (TY cg) 28 (celL cg) ad st [.ref (ad 0), .int (iI ((r : Nat) : Int)), .int (iI u)] (fun z st1 => z = prt (st 11 r) (st 9 r) (st 10 r) u ∧ st1 = stC st 10 (fnU (st 10) r (st 10 r + u))) := by
  refine mk_open (cc := cX1_takeSold) (maxL := 4) (ret := (some .int)) (by decide) rfl (Nat.le_of_ble_eq_true rfl) ?_
  intro p e s m args below meth c hx hb hml hr hown hts hlocks hK hN hargs ls hl hW
  have hown : s.vm.findClass RX1 = some m.cls := hown
  have hl : lv_has ls 4 [(0, .ref (ad 0)), (1, .int (iI ((r : Nat) : Int))), (2, .int (iI u))] := hl
  have inX1 : ∀ w ∈ wsX10, w ∈ wsX1_takeSold := by decide +kernel
  have inX3 : ∀ w ∈ wsX30, w ∈ wsX1_takeSold := by decide +kernel
  have fl21 := hts (.fieldLink RX1 21 "GainsReckoner$Ledger" "sheet" "LGainsReckoner$Sheet;") (by decide +kernel)
  have fn106 := hN.f (args := args) "GainsReckoner$Ledger" 106 "GainsReckoner$Sheet" "soldGone" "[I" (by decide +kernel)
  have fn95 := hN.f (args := args) "GainsReckoner$Ledger" 95 "GainsReckoner$Sheet" "proceeds" "[I" (by decide +kernel)
  have fn80 := hN.f (args := args) "GainsReckoner$Ledger" 80 "GainsReckoner$Sheet" "sold" "[I" (by decide +kernel)
  have nm91 := hN.m "GainsReckoner$Ledger" 91 yX5_part (by decide +kernel)
  have niX5 := hts (.initialized RX5) (by decide +kernel)
  have ns91 := hts (.static yX5_part) (by decide +kernel)
  refine lv_aload_n hx hb dX1_takeSold_0 rfl (lv_at hl 0 rfl) ?_
  refine mk_get (ci := 1) (C := RX1) (T := TX1) (N := 4) hx hb hts inX1 hown hK hW 0 (by decide) rfl rfl 2 (by decide) fl21 (fun _ h9 => h9) rfl dX1_takeSold_1 ?_
  refine mk_getN (ci := 3) (C := RX3) (T := TX3) (N := 10) hx hb hts inX3 hown hK hW 4 (by decide) rfl rfl 5 (by decide) fn106 (fun _ h9 => h9) rfl dX1_takeSold_4 ?_
  refine lv_iload_n hx hb dX1_takeSold_7 rfl (lv_at hl 1 rfl) ?_
  refine mk_iald hx hb hK hW 10 (by decide) rfl 0 rfl (j := r) rfl (by omega) (by decide) dX1_takeSold_8 ?_
  refine lv_istore_n (lv' := [(3, .int (iI (st 10 r))), (0, .ref (ad 0)), (1, .int (iI ((r : Nat) : Int))), (2, .int (iI u))]) hx hb dX1_takeSold_9 rfl hl (by decide) rfl (fun ls hl => ?_)
  refine lv_aload_n hx hb dX1_takeSold_10 rfl (lv_at hl 1 rfl) ?_
  refine mk_get (ci := 1) (C := RX1) (T := TX1) (N := 4) hx hb hts inX1 hown hK hW 0 (by decide) rfl rfl 2 (by decide) fl21 (fun _ h9 => h9) rfl dX1_takeSold_11 ?_
  refine mk_getN (ci := 3) (C := RX3) (T := TX3) (N := 10) hx hb hts inX3 hown hK hW 4 (by decide) rfl rfl 5 (by decide) fn106 (fun _ h9 => h9) rfl dX1_takeSold_14 ?_
  refine lv_iload_n hx hb dX1_takeSold_17 rfl (lv_at hl 2 rfl) ?_
  refine lv_iload_n hx hb dX1_takeSold_18 rfl (lv_at hl 0 rfl) ?_
  refine lv_iload_n hx hb dX1_takeSold_19 rfl (lv_at hl 3 rfl) ?_
  refine mk_iadd hx hb dX1_takeSold_20 ?_
  refine mk_iast hx hb hK hW 10 (by decide) (fun _ => rfl) 0 rfl (j := r) rfl (by omega) (by decide) dX1_takeSold_21 (fun H locs hW => ?_)
  obtain ⟨st1, est1⟩ : ∃ z, z = stC st 10 (fnU (st 10) r ((st 10 r) + u)) := ⟨_, rfl⟩
  rw [← est1] at hW
  refine lv_aload_n hx hb dX1_takeSold_22 rfl (lv_at hl 1 rfl) ?_
  refine mk_get (ci := 1) (C := RX1) (T := TX1) (N := 4) hx hb hts inX1 hown hK hW 0 (by decide) rfl rfl 2 (by decide) fl21 (fun _ h9 => h9) rfl dX1_takeSold_23 ?_
  refine mk_getN (ci := 3) (C := RX3) (T := TX3) (N := 10) hx hb hts inX3 hown hK hW 4 (by decide) rfl rfl 6 (by decide) fn95 (fun _ h9 => h9) rfl dX1_takeSold_26 ?_
  refine lv_iload_n hx hb dX1_takeSold_29 rfl (lv_at hl 2 rfl) ?_
  refine mk_iald hx hb hK hW 11 (by decide) rfl 0 rfl (j := r) rfl (by omega) (by decide) dX1_takeSold_30 ?_
  refine mk_sayi (y := (st 11 r)) (by rw [show st1 11 = st 11 from by rw [est1]; exact stC_ne (by decide)]) ?_
  refine lv_iload_n hx hb dX1_takeSold_31 rfl (lv_at hl 0 rfl) ?_
  refine lv_iload_n hx hb dX1_takeSold_32 rfl (lv_at hl 0 rfl) ?_
  refine lv_iload_n hx hb dX1_takeSold_33 rfl (lv_at hl 3 rfl) ?_
  refine mk_iadd hx hb dX1_takeSold_34 ?_
  refine lv_aload_n hx hb dX1_takeSold_35 rfl (lv_at hl 1 rfl) ?_
  refine mk_get (ci := 1) (C := RX1) (T := TX1) (N := 4) hx hb hts inX1 hown hK hW 0 (by decide) rfl rfl 2 (by decide) fl21 (fun _ h9 => h9) rfl dX1_takeSold_36 ?_
  refine mk_getN (ci := 3) (C := RX3) (T := TX3) (N := 10) hx hb hts inX3 hown hK hW 4 (by decide) rfl rfl 4 (by decide) fn80 (fun _ h9 => h9) rfl dX1_takeSold_39 ?_
  refine lv_iload_n hx hb dX1_takeSold_42 rfl (lv_at hl 2 rfl) ?_
  refine mk_iald hx hb hK hW 9 (by decide) rfl 0 rfl (j := r) rfl (by omega) (by decide) dX1_takeSold_43 ?_
  refine mk_sayi (y := (st 9 r)) (by rw [show st1 9 = st 9 from by rw [est1]; exact stC_ne (by decide)]) ?_
  refine mk_goI (va_runSN (As := [.int (iI (st 11 r)), .int (iI (st 10 r)), .int (iI ((st 10 r) + u)), .int (iI (st 9 r))]) (rest := []) ⟨hx, hb, hml, hown, hts⟩ (c_X5_part l cg D ad st1 (st 11 r) (st 10 r) (st 10 r + u) (st 9 r) hc9 (by omega) (by omega) (by omega)) ⟨va_cnB 4 hts gX1_takeSold_X5_part_n91 rfl rfl rfl nm91 niX5 (by decide +kernel) ⟨Nat.le_of_ble_eq_true rfl, Nat.le_of_ble_eq_true rfl⟩, ns91, trivial⟩ (mk_preS hK hN hW) rfl rfl hl.1 rfl (lv_room (Nat.le_of_ble_eq_true rfl)) dX1_takeSold_44 ⟨Nat.zero_le _, Nat.zero_le _⟩) hW (fun z st2 hp44 H locs hW => ?_)
  obtain ⟨est2, hz⟩ := hp44
  rw [est2] at hW
  exact mk_retI hx hb hr hlocks hW ⟨hz, est1⟩ dX1_takeSold_47

set_option maxHeartbeats 4000000 in
set_option maxRecDepth 100000 in
theorem c_X1_matchSameDay (l : Launch) (cg : Nat → ClassId) (D : va_G) (ad : Nat → Nat) (st : Nat → Nat → Int) (r R : Nat) (fD fb fc fs fp : Nat → Int) (ll : List MTup) (hRC : RC st R fD fb fc fs fp) (hRN : RN R fD fb fc fs fp) (hrR : r < R) (hA : AL st fD ll) (hlen : (ll ++ mSame fb fs fc fp r).length ≤ 60) : MV l yX1_matchSameDay wsX1_matchSameDay ({ frames := 1, cells := 0, slots := 0, locals := 26 }) D vwCl (TY cg) 28 (celL cg) ad st [.ref (ad 0), .int (iI ((r : Nat) : Int))] (fun st1 => Fr [14, 15, 16, 17, 18, 19, 20] st st1 ∧ AL st1 fD (ll ++ mSame fb fs fc fp r)) := by
  refine mk_open (cc := cX1_matchSameDay) (maxL := 5) (ret := none) (by decide) rfl (Nat.le_of_ble_eq_true rfl) ?_
  intro p e s m args below meth c hx hb hml hr hown hts hlocks hK hN hargs ls hl hW
  have hown : s.vm.findClass RX1 = some m.cls := hown
  have hl : lv_has ls 5 [(0, .ref (ad 0)), (1, .int (iI ((r : Nat) : Int)))] := hl
  have inX1 : ∀ w ∈ wsX10, w ∈ wsX1_matchSameDay := by decide +kernel
  have inX3 : ∀ w ∈ wsX30, w ∈ wsX1_matchSameDay := by decide +kernel
  have fl21 := hts (.fieldLink RX1 21 "GainsReckoner$Ledger" "sheet" "LGainsReckoner$Sheet;") (by decide +kernel)
  have fn77 := hN.f (args := args) "GainsReckoner$Ledger" 77 "GainsReckoner$Sheet" "bought" "[I" (by decide +kernel)
  have fn80 := hN.f (args := args) "GainsReckoner$Ledger" 80 "GainsReckoner$Sheet" "sold" "[I" (by decide +kernel)
  have mlmin := hts (.methodLink RX1 83 Lib.Math.min.name) (by decide +kernel)
  have msmin := hts (.static Lib.Math.min.name) (by decide +kernel)
  have mimin := hts (.initialized "java/lang/Math") (by decide +kernel)
  have mcmin := hts (.code Lib.Math.min.name Lib.Math.min.code 2 (some .int)) (by decide +kernel)
  have fn88 := hN.f (args := args) "GainsReckoner$Ledger" 88 "GainsReckoner$Sheet" "cost" "[I" (by decide +kernel)
  have nm91 := hN.m "GainsReckoner$Ledger" 91 yX5_part (by decide +kernel)
  have niX5 := hts (.initialized RX5) (by decide +kernel)
  have ns91 := hts (.static yX5_part) (by decide +kernel)
  have fn95 := hN.f (args := args) "GainsReckoner$Ledger" 95 "GainsReckoner$Sheet" "proceeds" "[I" (by decide +kernel)
  have fl28 := hts (.fieldLink RX1 28 "GainsReckoner$Ledger" "matched" "LGainsReckoner$Matches;") (by decide +kernel)
  have fn98 := hN.f (args := args) "GainsReckoner$Ledger" 98 "GainsReckoner$Sheet" "day" "[I" (by decide +kernel)
  obtain ⟨hR, hC2⟩ := id hRC
  obtain ⟨hR6, hso, hDr, hb0, hs0, hc0, hp0, hh0, hnz, hc6, hp6, hb6, hs6⟩ := id hRN
  have r5 := hDr r hrR
  have r6 := hb0 r
  have r9 := hs0 r
  have r8 := hc0 r
  have r11 := hp0 r
  refine lv_aload_n hx hb dX1_matchSameDay_0 rfl (lv_at hl 0 rfl) ?_
  refine mk_get (ci := 1) (C := RX1) (T := TX1) (N := 4) hx hb hts inX1 hown hK hW 0 (by decide) rfl rfl 2 (by decide) fl21 (fun _ h9 => h9) rfl dX1_matchSameDay_1 ?_
  refine mk_getN (ci := 3) (C := RX3) (T := TX3) (N := 10) hx hb hts inX3 hown hK hW 4 (by decide) rfl rfl 1 (by decide) fn77 (fun _ h9 => h9) rfl dX1_matchSameDay_4 ?_
  refine lv_iload_n hx hb dX1_matchSameDay_7 rfl (lv_at hl 1 rfl) ?_
  refine mk_iald hx hb hK hW 6 (by decide) rfl 0 rfl (j := r) rfl (by omega) (by decide) dX1_matchSameDay_8 ?_
  refine mk_sayi (y := (fb r)) (hC2 r (by omega)).2.1 ?_
  refine lv_aload_n hx hb dX1_matchSameDay_9 rfl (lv_at hl 0 rfl) ?_
  refine mk_get (ci := 1) (C := RX1) (T := TX1) (N := 4) hx hb hts inX1 hown hK hW 0 (by decide) rfl rfl 2 (by decide) fl21 (fun _ h9 => h9) rfl dX1_matchSameDay_10 ?_
  refine mk_getN (ci := 3) (C := RX3) (T := TX3) (N := 10) hx hb hts inX3 hown hK hW 4 (by decide) rfl rfl 4 (by decide) fn80 (fun _ h9 => h9) rfl dX1_matchSameDay_13 ?_
  refine lv_iload_n hx hb dX1_matchSameDay_16 rfl (lv_at hl 1 rfl) ?_
  refine mk_iald hx hb hK hW 9 (by decide) rfl 0 rfl (j := r) rfl (by omega) (by decide) dX1_matchSameDay_17 ?_
  refine mk_sayi (y := (fs r)) (hC2 r (by omega)).2.2.2.1 ?_
  refine mk_mmin hx hb (hml.trans hl.1.symm) hown mlmin msmin mimin mcmin (Nat.le_of_ble_eq_true rfl) (Nat.le_of_ble_eq_true rfl) (Nat.zero_le _) (Nat.zero_le _) dX1_matchSameDay_18 (by omega) (by omega) ?_
  refine mk_topi (fun x e_x => ?_)
  refine lv_istore_n (lv' := [(2, .int (iI x)), (0, .ref (ad 0)), (1, .int (iI ((r : Nat) : Int)))]) hx hb dX1_matchSameDay_21 rfl hl (by decide) rfl (fun ls hl => ?_)
  refine lv_iload_n hx hb dX1_matchSameDay_22 rfl (lv_at hl 0 rfl) ?_
  refine mk_if_le (tgt := 105) hx hb dX1_matchSameDay_23 (by decide) (by omega) (fun c_23 => ?_) (fun c_23 => ?_)
  · skip
    exact mk_retV hx hb hr hlocks hW ⟨Fr.rf, by rw [show mSame fb fs fc fp r = [] from if_neg (by omega), List.append_nil]; exact hA⟩ dX1_matchSameDay_105
  · skip
    have eM : mSame fb fs fc fp r = [(r, (r : Int), 0, min (fb r) (fs r), prt (fc r) (fb r) 0 (min (fb r) (fs r)), prt (fp r) (fs r) 0 (min (fb r) (fs r)))] := if_pos (by omega)
    rw [eM, List.length_append, List.length_singleton] at hlen
    refine lv_aload_n hx hb dX1_matchSameDay_26 rfl (lv_at hl 1 rfl) ?_
    refine mk_get (ci := 1) (C := RX1) (T := TX1) (N := 4) hx hb hts inX1 hown hK hW 0 (by decide) rfl rfl 2 (by decide) fl21 (fun _ h9 => h9) rfl dX1_matchSameDay_27 ?_
    refine mk_getN (ci := 3) (C := RX3) (T := TX3) (N := 10) hx hb hts inX3 hown hK hW 4 (by decide) rfl rfl 3 (by decide) fn88 (fun _ h9 => h9) rfl dX1_matchSameDay_30 ?_
    refine lv_iload_n hx hb dX1_matchSameDay_33 rfl (lv_at hl 2 rfl) ?_
    refine mk_iald hx hb hK hW 8 (by decide) rfl 0 rfl (j := r) rfl (by omega) (by decide) dX1_matchSameDay_34 ?_
    refine mk_sayi (y := (fc r)) (hC2 r (by omega)).2.2.1 ?_
    refine mk_iconst hx hb (0) dX1_matchSameDay_35 ?_
    refine lv_iload_n hx hb dX1_matchSameDay_36 rfl (lv_at hl 0 rfl) ?_
    refine lv_aload_n hx hb dX1_matchSameDay_37 rfl (lv_at hl 1 rfl) ?_
    refine mk_get (ci := 1) (C := RX1) (T := TX1) (N := 4) hx hb hts inX1 hown hK hW 0 (by decide) rfl rfl 2 (by decide) fl21 (fun _ h9 => h9) rfl dX1_matchSameDay_38 ?_
    refine mk_getN (ci := 3) (C := RX3) (T := TX3) (N := 10) hx hb hts inX3 hown hK hW 4 (by decide) rfl rfl 1 (by decide) fn77 (fun _ h9 => h9) rfl dX1_matchSameDay_41 ?_
    refine lv_iload_n hx hb dX1_matchSameDay_44 rfl (lv_at hl 2 rfl) ?_
    refine mk_iald hx hb hK hW 6 (by decide) rfl 0 rfl (j := r) rfl (by omega) (by decide) dX1_matchSameDay_45 ?_
    refine mk_sayi (y := (fb r)) (hC2 r (by omega)).2.1 ?_
    refine mk_goI (va_runSN (As := [.int (iI (fc r)), .int (iI 0), .int (iI x), .int (iI (fb r))]) (rest := []) ⟨hx, hb, hml, hown, hts⟩ (c_X5_part l cg D ad st (fc r) 0 x (fb r) (by omega) (by omega) (by omega) (by omega)) ⟨va_cnB 4 hts gX1_matchSameDay_X5_part_n91 rfl rfl rfl nm91 niX5 (by decide +kernel) ⟨Nat.le_of_ble_eq_true rfl, Nat.le_of_ble_eq_true rfl⟩, ns91, trivial⟩ (mk_preS hK hN hW) rfl rfl hl.1 rfl (lv_room (Nat.le_of_ble_eq_true rfl)) dX1_matchSameDay_46 ⟨Nat.zero_le _, Nat.zero_le _⟩) hW (fun z1 st1 hp46 H locs hW => ?_)
    obtain ⟨est1, hz1⟩ := hp46
    rw [est1] at hW
    refine mk_sayi (y := prt (fc r) (fb r) 0 x) (by rw [hz1, prt_0]; simp) ?_
    refine lv_istore_n (lv' := [(3, .int (iI (prt (fc r) (fb r) 0 x))), (2, .int (iI x)), (0, .ref (ad 0)), (1, .int (iI ((r : Nat) : Int)))]) hx hb dX1_matchSameDay_49 rfl hl (by decide) rfl (fun ls hl => ?_)
    refine lv_aload_n hx hb dX1_matchSameDay_50 rfl (lv_at hl 2 rfl) ?_
    refine mk_get (ci := 1) (C := RX1) (T := TX1) (N := 4) hx hb hts inX1 hown hK hW 0 (by decide) rfl rfl 2 (by decide) fl21 (fun _ h9 => h9) rfl dX1_matchSameDay_51 ?_
    refine mk_getN (ci := 3) (C := RX3) (T := TX3) (N := 10) hx hb hts inX3 hown hK hW 4 (by decide) rfl rfl 6 (by decide) fn95 (fun _ h9 => h9) rfl dX1_matchSameDay_54 ?_
    refine lv_iload_n hx hb dX1_matchSameDay_57 rfl (lv_at hl 3 rfl) ?_
    refine mk_iald hx hb hK hW 11 (by decide) rfl 0 rfl (j := r) rfl (by omega) (by decide) dX1_matchSameDay_58 ?_
    refine mk_sayi (y := (fp r)) (hC2 r (by omega)).2.2.2.2 ?_
    refine mk_iconst hx hb (0) dX1_matchSameDay_59 ?_
    refine lv_iload_n hx hb dX1_matchSameDay_60 rfl (lv_at hl 1 rfl) ?_
    refine lv_aload_n hx hb dX1_matchSameDay_61 rfl (lv_at hl 2 rfl) ?_
    refine mk_get (ci := 1) (C := RX1) (T := TX1) (N := 4) hx hb hts inX1 hown hK hW 0 (by decide) rfl rfl 2 (by decide) fl21 (fun _ h9 => h9) rfl dX1_matchSameDay_62 ?_
    refine mk_getN (ci := 3) (C := RX3) (T := TX3) (N := 10) hx hb hts inX3 hown hK hW 4 (by decide) rfl rfl 4 (by decide) fn80 (fun _ h9 => h9) rfl dX1_matchSameDay_65 ?_
    refine lv_iload_n hx hb dX1_matchSameDay_68 rfl (lv_at hl 3 rfl) ?_
    refine mk_iald hx hb hK hW 9 (by decide) rfl 0 rfl (j := r) rfl (by omega) (by decide) dX1_matchSameDay_69 ?_
    refine mk_sayi (y := (fs r)) (hC2 r (by omega)).2.2.2.1 ?_
    refine mk_goI (va_runSN (As := [.int (iI (fp r)), .int (iI 0), .int (iI x), .int (iI (fs r))]) (rest := []) ⟨hx, hb, hml, hown, hts⟩ (c_X5_part l cg D ad st (fp r) 0 x (fs r) (by omega) (by omega) (by omega) (by omega)) ⟨va_cnB 4 hts gX1_matchSameDay_X5_part_n91 rfl rfl rfl nm91 niX5 (by decide +kernel) ⟨Nat.le_of_ble_eq_true rfl, Nat.le_of_ble_eq_true rfl⟩, ns91, trivial⟩ (mk_preS hK hN hW) rfl rfl hl.1 rfl (lv_room (Nat.le_of_ble_eq_true rfl)) dX1_matchSameDay_70 ⟨Nat.zero_le _, Nat.zero_le _⟩) hW (fun z2 st2 hp70 H locs hW => ?_)
    obtain ⟨est2, hz2⟩ := hp70
    rw [est2] at hW
    refine mk_sayi (y := prt (fp r) (fs r) 0 x) (by rw [hz2, prt_0]; simp) ?_
    refine lv_istore (lv' := [(4, .int (iI (prt (fp r) (fs r) 0 x))), (3, .int (iI (prt (fc r) (fb r) 0 x))), (2, .int (iI x)), (0, .ref (ad 0)), (1, .int (iI ((r : Nat) : Int)))]) hx hb dX1_matchSameDay_73 hl (by decide) rfl (fun ls hl => ?_)
    refine lv_aload_n hx hb dX1_matchSameDay_75 rfl (lv_at hl 3 rfl) ?_
    refine mk_get (ci := 1) (C := RX1) (T := TX1) (N := 4) hx hb hts inX1 hown hK hW 0 (by decide) rfl rfl 3 (by decide) fl28 (fun _ h9 => h9) rfl dX1_matchSameDay_76 ?_
    refine mk_iconst hx hb (0) dX1_matchSameDay_79 ?_
    refine lv_aload_n hx hb dX1_matchSameDay_80 rfl (lv_at hl 3 rfl) ?_
    refine mk_get (ci := 1) (C := RX1) (T := TX1) (N := 4) hx hb hts inX1 hown hK hW 0 (by decide) rfl rfl 2 (by decide) fl21 (fun _ h9 => h9) rfl dX1_matchSameDay_81 ?_
    refine mk_getN (ci := 3) (C := RX3) (T := TX3) (N := 10) hx hb hts inX3 hown hK hW 4 (by decide) rfl rfl 0 (by decide) fn98 (fun _ h9 => h9) rfl dX1_matchSameDay_84 ?_
    refine lv_iload_n hx hb dX1_matchSameDay_87 rfl (lv_at hl 4 rfl) ?_
    refine mk_iald hx hb hK hW 5 (by decide) rfl 0 rfl (j := r) rfl (by omega) (by decide) dX1_matchSameDay_88 ?_
    refine mk_sayi (y := (fD r)) (hC2 r (by omega)).1 ?_
    refine lv_aload_n hx hb dX1_matchSameDay_89 rfl (lv_at hl 3 rfl) ?_
    refine mk_get (ci := 1) (C := RX1) (T := TX1) (N := 4) hx hb hts inX1 hown hK hW 0 (by decide) rfl rfl 2 (by decide) fl21 (fun _ h9 => h9) rfl dX1_matchSameDay_90 ?_
    refine mk_getN (ci := 3) (C := RX3) (T := TX3) (N := 10) hx hb hts inX3 hown hK hW 4 (by decide) rfl rfl 0 (by decide) fn98 (fun _ h9 => h9) rfl dX1_matchSameDay_93 ?_
    refine lv_iload_n hx hb dX1_matchSameDay_96 rfl (lv_at hl 4 rfl) ?_
    refine mk_iald hx hb hK hW 5 (by decide) rfl 0 rfl (j := r) rfl (by omega) (by decide) dX1_matchSameDay_97 ?_
    refine mk_sayi (y := (fD r)) (hC2 r (by omega)).1 ?_
    refine lv_iload_n hx hb dX1_matchSameDay_98 rfl (lv_at hl 2 rfl) ?_
    refine lv_iload_n hx hb dX1_matchSameDay_99 rfl (lv_at hl 1 rfl) ?_
    refine lv_iload hx hb dX1_matchSameDay_100 (lv_at hl 0 rfl) ?_
    refine mk_goV (va_runV (As := [.int (iI 0), .int (iI (fD r)), .int (iI (fD r)), .int (iI x), .int (iI (prt (fc r) (fb r) 0 x)), .int (iI (prt (fp r) (fs r) 0 x))]) (rest := []) ⟨hx, hb, hml, hown, hts⟩ (c_X2_add l cg D ad st 0 (fD r) (fD r) x (prt (fc r) (fb r) 0 x) (prt (fp r) (fs r) 0 x) ll.length hA.1 (by omega)) (cwV 6 hts gX1_matchSameDay_X2_add rfl rfl rfl (by decide +kernel) ⟨Nat.le_of_ble_eq_true rfl, Nat.le_of_ble_eq_true rfl⟩) (mk_preV hK hN hW 14 (by decide) rfl rfl rfl) rfl rfl hl.1 rfl (lv_room (Nat.le_of_ble_eq_true rfl)) dX1_matchSameDay_102 ⟨Nat.zero_le _, Nat.zero_le _⟩) hW (fun st3 hp102 H locs hW => ?_)
    exact mk_retV hx hb hr hlocks hW ⟨by rw [hp102]; exact addM_fr _ _ _ _ _ _ _ _, by rw [hp102, eM]; exact hA.add _ rfl rfl (by show _ = bD fD (r : Int); unfold bD; rw [if_neg (by omega), Int.toNat_natCast]) e_x (by rw [e_x]) (by rw [e_x])⟩ dX1_matchSameDay_105

set_option maxHeartbeats 4000000 in
set_option maxRecDepth 100000 in
theorem c_X1_matchLaterDays (l : Launch) (cg : Nat → ClassId) (D : va_G) (ad : Nat → Nat) (st : Nat → Nat → Int) (r R : Nat) (fD fb fc fs fp : Nat → Int) (ll : List MTup) (hRC : RC st R fD fb fc fs fp) (hRN : RN R fD fb fc fs fp) (hrR : r < R) (hA : AL st fD ll) (wd : Int) (hwd : 0 ≤ wd ∧ wd ≤ 60) (hlen : (ll ++ mLats fD fb fs fc fp wd r R).length ≤ 60) (hg : ∀ i, i < R → r < i → st 7 i = fb i - blw fD fb fs wd r i) (hsg : st 10 r = fs r - slft fD fb fs wd r 0) : MV l yX1_matchLaterDays wsX1_matchLaterDays ({ frames := 2, cells := 0, slots := 0, locals := 46 }) D vwCl (TY cg) 28 (celL cg) ad st [.ref (ad 0), .int (iI ((r : Nat) : Int)), .int (iI wd)] (fun st1 => Fr [7, 10, 14, 15, 16, 17, 18, 19, 20] st st1 ∧ (∀ i, i < R → r < i → st1 7 i = fb i - blw fD fb fs wd (r + 1) i) ∧ (∀ i, ¬ (r < i ∧ i < R) → st1 7 i = st 7 i) ∧ st1 10 r = fs r - slft fD fb fs wd r R ∧ (∀ i, i ≠ r → st1 10 i = st 10 i) ∧ AL st1 fD (ll ++ mLats fD fb fs fc fp wd r R)) := by
  refine mk_open (cc := cX1_matchLaterDays) (maxL := 9) (ret := none) (by decide) rfl (Nat.le_of_ble_eq_true rfl) ?_
  intro p e s m args below meth c hx hb hml hr hown hts hlocks hK hN hargs ls hl hW
  have hown : s.vm.findClass RX1 = some m.cls := hown
  have hl : lv_has ls 9 [(0, .ref (ad 0)), (1, .int (iI ((r : Nat) : Int))), (2, .int (iI wd))] := hl
  have inX1 : ∀ w ∈ wsX10, w ∈ wsX1_matchLaterDays := by decide +kernel
  have inX3 : ∀ w ∈ wsX30, w ∈ wsX1_matchLaterDays := by decide +kernel
  have fl21 := hts (.fieldLink RX1 21 "GainsReckoner$Ledger" "sheet" "LGainsReckoner$Sheet;") (by decide +kernel)
  have fn98 := hN.f (args := args) "GainsReckoner$Ledger" 98 "GainsReckoner$Sheet" "day" "[I" (by decide +kernel)
  have fn43 := hN.f (args := args) "GainsReckoner$Ledger" 43 "GainsReckoner$Sheet" "size" "I" (by decide +kernel)
  have fn77 := hN.f (args := args) "GainsReckoner$Ledger" 77 "GainsReckoner$Sheet" "bought" "[I" (by decide +kernel)
  have fn103 := hN.f (args := args) "GainsReckoner$Ledger" 103 "GainsReckoner$Sheet" "boughtGone" "[I" (by decide +kernel)
  have fn80 := hN.f (args := args) "GainsReckoner$Ledger" 80 "GainsReckoner$Sheet" "sold" "[I" (by decide +kernel)
  have fn106 := hN.f (args := args) "GainsReckoner$Ledger" 106 "GainsReckoner$Sheet" "soldGone" "[I" (by decide +kernel)
  have mlmin := hts (.methodLink RX1 83 Lib.Math.min.name) (by decide +kernel)
  have msmin := hts (.static Lib.Math.min.name) (by decide +kernel)
  have mimin := hts (.initialized "java/lang/Math") (by decide +kernel)
  have mcmin := hts (.code Lib.Math.min.name Lib.Math.min.code 2 (some .int)) (by decide +kernel)
  have fl28 := hts (.fieldLink RX1 28 "GainsReckoner$Ledger" "matched" "LGainsReckoner$Matches;") (by decide +kernel)
  obtain ⟨hR, hC2⟩ := id hRC
  obtain ⟨hR6, hso, hDr, hb0, hs0, hc0, hp0, hh0, hnz, hc6, hp6, hb6, hs6⟩ := id hRN
  have r5 := hDr r hrR
  have r6 := hb0 r
  have r9 := hs0 r
  have r8 := hc0 r
  have r11 := hp0 r
  have hB := left_nn (D := fD) (w := wd) (fun i => (hb0 i).1) (fun i => (hs0 i).1) r
  have hBl := fun i => blw_le (D := fD) (w := wd) (fun i => (hb0 i).1) (fun i => (hs0 i).1) r i
  have hSl := fun i => slft_le (D := fD) (w := wd) (fun i => (hb0 i).1) (fun i => (hs0 i).1) r i
  refine lv_aload_n hx hb dX1_matchLaterDays_0 rfl (lv_at hl 0 rfl) ?_
  refine mk_get (ci := 1) (C := RX1) (T := TX1) (N := 4) hx hb hts inX1 hown hK hW 0 (by decide) rfl rfl 2 (by decide) fl21 (fun _ h9 => h9) rfl dX1_matchLaterDays_1 ?_
  refine mk_getN (ci := 3) (C := RX3) (T := TX3) (N := 10) hx hb hts inX3 hown hK hW 4 (by decide) rfl rfl 0 (by decide) fn98 (fun _ h9 => h9) rfl dX1_matchLaterDays_4 ?_
  refine lv_iload_n hx hb dX1_matchLaterDays_7 rfl (lv_at hl 1 rfl) ?_
  refine mk_iald hx hb hK hW 5 (by decide) rfl 0 rfl (j := r) rfl (by omega) (by decide) dX1_matchLaterDays_8 ?_
  have hD9 := hDr r (by omega)
  refine mk_sayi (y := (fD r)) (hC2 r (by omega)).1 ?_
  refine lv_iload_n hx hb dX1_matchLaterDays_9 rfl (lv_at hl 2 rfl) ?_
  refine mk_iadd hx hb dX1_matchLaterDays_10 ?_
  refine mk_topi (fun ld e_ld => ?_)
  refine lv_istore_n (lv' := [(3, .int (iI ld)), (0, .ref (ad 0)), (1, .int (iI ((r : Nat) : Int))), (2, .int (iI wd))]) hx hb dX1_matchLaterDays_11 rfl hl (by decide) rfl (fun ls hl => ?_)
  refine lv_iload_n hx hb dX1_matchLaterDays_12 rfl (lv_at hl 2 rfl) ?_
  refine mk_iconst hx hb (1) dX1_matchLaterDays_13 ?_
  refine mk_iadd hx hb dX1_matchLaterDays_14 ?_
  refine mk_sayi (y := ((r + 1 : Nat) : Int)) (by omega) ?_
  refine lv_istore (lv' := [(4, .int (iI ((r + 1 : Nat) : Int))), (3, .int (iI ld)), (0, .ref (ad 0)), (1, .int (iI ((r : Nat) : Int))), (2, .int (iI wd))]) hx hb dX1_matchLaterDays_15 hl (by decide) rfl (fun ls hl => ?_)
  have loop17 : ∀ (fuel : Nat) (q : Nat → Nat → Int) (j : Nat), (r + 1 ≤ j ∧ j ≤ R) → (Fr [7, 10, 14, 15, 16, 17, 18, 19, 20] st q) → (∀ i, i < R → r < i → q 7 i = fb i - blw fD fb fs wd (if i < j then r + 1 else r) i) → (∀ i, ¬ (r < i ∧ i < R) → q 7 i = st 7 i) → (q 10 r = fs r - slft fD fb fs wd r j) → (∀ i, i ≠ r → q 10 i = st 10 i) → (AL q fD (ll ++ mLats fD fb fs fc fp wd r j)) → R - j < fuel → ∀ (H : Heap) (locs : List Loc) (ls : Array Slot), GW D vwCl 28 (celL cg) ad (wA 28 ad) s.heap q H locs → lv_has ls 9 [(0, .ref (ad 0)), (1, .int (iI ((r : Nat) : Int))), (2, .int (iI wd)), (3, .int (iI ld)), (4, .int (iI ((j : Nat) : Int)))] → W p l e (headSpec wsX1_matchLaterDays ({ frames := 2, cells := 0, slots := 0, locals := 46 })).room s m args below meth c H locs 0 0 (MQ below (va_Qv (fun st1 => Fr [7, 10, 14, 15, 16, 17, 18, 19, 20] st st1 ∧ (∀ i, i < R → r < i → st1 7 i = fb i - blw fD fb fs wd (r + 1) i) ∧ (∀ i, ¬ (r < i ∧ i < R) → st1 7 i = st 7 i) ∧ st1 10 r = fs r - slft fD fb fs wd r R ∧ (∀ i, i ≠ r → st1 10 i = st 10 i) ∧ AL st1 fD (ll ++ mLats fD fb fs fc fp wd r R)) (mB D vwCl 28 (celL cg) ad) (wA 28 ad)) args s 0 0 (wA 28 ad)) (F0 m 17 ls []) := by
    intro fuel
    induction fuel with
    | zero => intro q j hj hf hg2 hg3 hsg2 hsg3 hA2 hmu; omega
    | succ fuel ih17 =>
      intro q j hj hf hg2 hg3 hsg2 hsg3 hA2 hmu H locs ls hW hl
      refine lv_iload hx hb dX1_matchLaterDays_17 (lv_at hl 4 rfl) ?_
      refine lv_aload_n hx hb dX1_matchLaterDays_19 rfl (lv_at hl 0 rfl) ?_
      refine mk_get (ci := 1) (C := RX1) (T := TX1) (N := 4) hx hb hts inX1 hown hK hW 0 (by decide) rfl rfl 2 (by decide) fl21 (fun _ h9 => h9) rfl dX1_matchLaterDays_20 ?_
      refine mk_getN (ci := 3) (C := RX3) (T := TX3) (N := 10) hx hb hts inX3 hown hK hW 4 (by decide) rfl rfl 9 (by decide) fn43 (fun _ h9 => h9) rfl dX1_matchLaterDays_23 ?_
      refine mk_sayi (y := (st 4 9)) (by rw [hf 4 (by decide)]) ?_
      refine mk_sayi (y := ((R : Nat) : Int)) hR ?_
      refine mk_icmp_ge (tgt := 155) hx hb dX1_matchLaterDays_26 (by decide) (by omega) (by omega) (fun c_26 => ?_) (fun c_26 => ?_)
      · skip
        exact mk_retV hx hb hr hlocks hW (by
          have ej : j = R := by omega
          subst ej
          exact ⟨hf, fun i hi hri => by rw [hg2 i hi hri, if_pos hi], hg3, hsg2, hsg3, hA2⟩) dX1_matchLaterDays_155
      · skip
        refine lv_aload_n hx hb dX1_matchLaterDays_29 rfl (lv_at hl 0 rfl) ?_
        refine mk_get (ci := 1) (C := RX1) (T := TX1) (N := 4) hx hb hts inX1 hown hK hW 0 (by decide) rfl rfl 2 (by decide) fl21 (fun _ h9 => h9) rfl dX1_matchLaterDays_30 ?_
        refine mk_getN (ci := 3) (C := RX3) (T := TX3) (N := 10) hx hb hts inX3 hown hK hW 4 (by decide) rfl rfl 0 (by decide) fn98 (fun _ h9 => h9) rfl dX1_matchLaterDays_33 ?_
        refine lv_iload hx hb dX1_matchLaterDays_36 (lv_at hl 4 rfl) ?_
        refine mk_iald hx hb hK hW 5 (by decide) rfl 0 rfl (j := j) rfl (by omega) (by decide) dX1_matchLaterDays_38 ?_
        refine mk_sayi (y := (st 5 j)) (by rw [hf 5 (by decide)]) ?_
        have hD9 := hDr j (by omega)
        refine mk_sayi (y := (fD j)) (hC2 j (by omega)).1 ?_
        refine lv_iload_n hx hb dX1_matchLaterDays_39 rfl (lv_at hl 3 rfl) ?_
        refine mk_icmp_gt (tgt := 155) hx hb dX1_matchLaterDays_40 (by decide) (by omega) (by omega) (fun c_40 => ?_) (fun c_40 => ?_)
        · skip
          exact mk_retV hx hb hr hlocks hW (by
            have hfar : wd < fD j - fD r := by omega
            refine ⟨hf, fun i hi hri => ?_, hg3, ?_, hsg3, ?_⟩
            · rw [hg2 i hi hri]
              by_cases y : i < j
              · rw [if_pos y]
              · rw [if_neg y, blw_s, utk_far hso hfar i (by omega) hi]; omega
            · rw [hsg2, slft_far hso hfar R (by omega) (Nat.le_refl R)]
            · rw [mLats_far hso hfar R (by omega) (Nat.le_refl R)]; exact hA2) dX1_matchLaterDays_155
        · skip
          have hj1 := hB.1 j
          have hj2 := hB.2 j
          have hj3 := hBl j
          have hj4 := hSl j
          have hj5 := hb0 j
          have hj6 := hc0 j
          have hj7 := hs0 j
          have hut : utk fD fb fs wd r j = min (blw fD fb fs wd r j) (slft fD fb fs wd r j) := utk_yes (by omega) (by omega)
          refine lv_aload_n hx hb dX1_matchLaterDays_43 rfl (lv_at hl 0 rfl) ?_
          refine mk_get (ci := 1) (C := RX1) (T := TX1) (N := 4) hx hb hts inX1 hown hK hW 0 (by decide) rfl rfl 2 (by decide) fl21 (fun _ h9 => h9) rfl dX1_matchLaterDays_44 ?_
          refine mk_getN (ci := 3) (C := RX3) (T := TX3) (N := 10) hx hb hts inX3 hown hK hW 4 (by decide) rfl rfl 1 (by decide) fn77 (fun _ h9 => h9) rfl dX1_matchLaterDays_47 ?_
          refine lv_iload hx hb dX1_matchLaterDays_50 (lv_at hl 4 rfl) ?_
          refine mk_iald hx hb hK hW 6 (by decide) rfl 0 rfl (j := j) rfl (by omega) (by decide) dX1_matchLaterDays_52 ?_
          refine mk_sayi (y := (st 6 j)) (by rw [hf 6 (by decide)]) ?_
          refine mk_sayi (y := (fb j)) (hC2 j (by omega)).2.1 ?_
          refine lv_aload_n hx hb dX1_matchLaterDays_53 rfl (lv_at hl 0 rfl) ?_
          refine mk_get (ci := 1) (C := RX1) (T := TX1) (N := 4) hx hb hts inX1 hown hK hW 0 (by decide) rfl rfl 2 (by decide) fl21 (fun _ h9 => h9) rfl dX1_matchLaterDays_54 ?_
          refine mk_getN (ci := 3) (C := RX3) (T := TX3) (N := 10) hx hb hts inX3 hown hK hW 4 (by decide) rfl rfl 2 (by decide) fn103 (fun _ h9 => h9) rfl dX1_matchLaterDays_57 ?_
          refine lv_iload hx hb dX1_matchLaterDays_60 (lv_at hl 4 rfl) ?_
          refine mk_iald hx hb hK hW 7 (by decide) rfl 0 rfl (j := j) rfl (by omega) (by decide) dX1_matchLaterDays_62 ?_
          refine mk_isub hx hb dX1_matchLaterDays_63 ?_
          refine mk_sayi (y := (blw fD fb fs wd r j)) (by rw [hg2 j (by omega) (by omega), if_neg (Nat.lt_irrefl j)]; omega) ?_
          refine lv_istore (lv' := [(5, .int (iI (blw fD fb fs wd r j))), (0, .ref (ad 0)), (1, .int (iI ((r : Nat) : Int))), (2, .int (iI wd)), (3, .int (iI ld)), (4, .int (iI ((j : Nat) : Int)))]) hx hb dX1_matchLaterDays_64 hl (by decide) rfl (fun ls hl => ?_)
          refine lv_iload hx hb dX1_matchLaterDays_66 (lv_at hl 0 rfl) ?_
          refine lv_aload_n hx hb dX1_matchLaterDays_68 rfl (lv_at hl 1 rfl) ?_
          refine mk_get (ci := 1) (C := RX1) (T := TX1) (N := 4) hx hb hts inX1 hown hK hW 0 (by decide) rfl rfl 2 (by decide) fl21 (fun _ h9 => h9) rfl dX1_matchLaterDays_69 ?_
          refine mk_getN (ci := 3) (C := RX3) (T := TX3) (N := 10) hx hb hts inX3 hown hK hW 4 (by decide) rfl rfl 4 (by decide) fn80 (fun _ h9 => h9) rfl dX1_matchLaterDays_72 ?_
          refine lv_iload_n hx hb dX1_matchLaterDays_75 rfl (lv_at hl 2 rfl) ?_
          refine mk_iald hx hb hK hW 9 (by decide) rfl 0 rfl (j := r) rfl (by omega) (by decide) dX1_matchLaterDays_76 ?_
          refine mk_sayi (y := (st 9 r)) (by rw [hf 9 (by decide)]) ?_
          refine mk_sayi (y := (fs r)) (hC2 r (by omega)).2.2.2.1 ?_
          refine lv_aload_n hx hb dX1_matchLaterDays_77 rfl (lv_at hl 1 rfl) ?_
          refine mk_get (ci := 1) (C := RX1) (T := TX1) (N := 4) hx hb hts inX1 hown hK hW 0 (by decide) rfl rfl 2 (by decide) fl21 (fun _ h9 => h9) rfl dX1_matchLaterDays_78 ?_
          refine mk_getN (ci := 3) (C := RX3) (T := TX3) (N := 10) hx hb hts inX3 hown hK hW 4 (by decide) rfl rfl 5 (by decide) fn106 (fun _ h9 => h9) rfl dX1_matchLaterDays_81 ?_
          refine lv_iload_n hx hb dX1_matchLaterDays_84 rfl (lv_at hl 2 rfl) ?_
          refine mk_iald hx hb hK hW 10 (by decide) rfl 0 rfl (j := r) rfl (by omega) (by decide) dX1_matchLaterDays_85 ?_
          refine mk_isub hx hb dX1_matchLaterDays_86 ?_
          refine mk_sayi (y := (slft fD fb fs wd r j)) (by rw [hsg2]; omega) ?_
          refine mk_mmin hx hb (hml.trans hl.1.symm) hown mlmin msmin mimin mcmin (Nat.le_of_ble_eq_true rfl) (Nat.le_of_ble_eq_true rfl) (Nat.zero_le _) (Nat.zero_le _) dX1_matchLaterDays_87 (by omega) (by omega) ?_
          refine mk_topi (fun u e_u => ?_)
          refine lv_istore (lv' := [(6, .int (iI u)), (5, .int (iI (blw fD fb fs wd r j))), (0, .ref (ad 0)), (1, .int (iI ((r : Nat) : Int))), (2, .int (iI wd)), (3, .int (iI ld)), (4, .int (iI ((j : Nat) : Int)))]) hx hb dX1_matchLaterDays_90 hl (by decide) rfl (fun ls hl => ?_)
          refine lv_iload hx hb dX1_matchLaterDays_92 (lv_at hl 0 rfl) ?_
          refine mk_if_le (tgt := 149) hx hb dX1_matchLaterDays_94 (by decide) (by omega) (fun c_94 => ?_) (fun c_94 => ?_)
          · skip
            have hu0 : utk fD fb fs wd r j = 0 := by omega
            have eL : mLats fD fb fs fc fp wd r (j + 1) = mLats fD fb fs fc fp wd r j := by
              rw [mLats, mLat, if_neg (by omega), List.append_nil]
            refine mk_iinc (w := ((j + 1 : Nat) : Int)) (lv' := [(4, .int (iI ((j + 1 : Nat) : Int))), (6, .int (iI u)), (5, .int (iI (blw fD fb fs wd r j))), (0, .ref (ad 0)), (1, .int (iI ((r : Nat) : Int))), (2, .int (iI wd)), (3, .int (iI ld))]) hx hb dX1_matchLaterDays_149 hl (k := 6) rfl (by omega) (by decide) rfl (fun ls hl => ?_)
            refine lv_goto (tgt := 17) hx hb dX1_matchLaterDays_152 (by decide) ?_
            exact ih17 q (j + 1) (by omega) hf (fun i hi hri => by rw [hg2 i hi hri]; by_cases y : i < j; rw [if_pos y, if_pos (by omega)]; rw [if_neg y]; by_cases x : i = j; rw [if_pos (by omega), x, blw_s, hu0]; omega; rw [if_neg (by omega)]) hg3 (by rw [slft_s, hu0]; omega) hsg3 (by rw [eL]; exact hA2) (by omega) _ _ _ hW (lv_sub hl [3, 4, 5, 6, 0] rfl)
          · skip
            have eL : mLats fD fb fs fc fp wd r (j + 1) = mLats fD fb fs fc fp wd r j ++ [(r, (j : Int), 1, utk fD fb fs wd r j, prt (fc j) (fb j) (fb j - blw fD fb fs wd r j) (utk fD fb fs wd r j), prt (fp r) (fs r) (fs r - slft fD fb fs wd r j) (utk fD fb fs wd r j))] := by
              rw [mLats, mLat, if_pos (by omega)]
            have hl8 := mLats_pre (D := fD) (b := fb) (s := fs) (c := fc) (p := fp) (w := wd) r (j + 1) R (by omega)
            rw [List.length_append] at hlen
            have hl9 : (ll ++ mLats fD fb fs fc fp wd r j).length < 60 := by
              rw [eL, List.length_append, List.length_singleton] at hl8
              rw [List.length_append]; omega
            have q7 : q 7 j = fb j - blw fD fb fs wd r j := by rw [hg2 j (by omega) (by omega), if_neg (Nat.lt_irrefl j)]
            have q6 : q 6 j = fb j := by rw [hf 6 (by decide)]; exact (hC2 j (by omega)).2.1
            have q8 : q 8 j = fc j := by rw [hf 8 (by decide)]; exact (hC2 j (by omega)).2.2.1
            have q9 : q 9 r = fs r := by rw [hf 9 (by decide)]; exact (hC2 r hrR).2.2.2.1
            have q11 : q 11 r = fp r := by rw [hf 11 (by decide)]; exact (hC2 r hrR).2.2.2.2
            have eu : u = utk fD fb fs wd r j := by omega
            refine lv_aload_n hx hb dX1_matchLaterDays_97 rfl (lv_at hl 2 rfl) ?_
            refine lv_iload hx hb dX1_matchLaterDays_98 (lv_at hl 6 rfl) ?_
            refine lv_iload hx hb dX1_matchLaterDays_100 (lv_at hl 0 rfl) ?_
            refine mk_goI (va_runV (As := [.int (iI ((j : Nat) : Int)), .int (iI u)]) (rest := []) ⟨hx, hb, hml, hown, hts⟩ (c_X1_takeBought l cg D ad q j u (by omega) (by omega) (by omega) (by omega) (by omega) (by omega)) (cwV 2 hts gX1_matchLaterDays_X1_takeBought rfl rfl rfl (by decide +kernel) ⟨Nat.le_of_ble_eq_true rfl, Nat.le_of_ble_eq_true rfl⟩) (mk_preV hK hN hW 0 (by decide) rfl rfl rfl) rfl rfl hl.1 rfl (lv_room (Nat.le_of_ble_eq_true rfl)) dX1_matchLaterDays_102 ⟨Nat.zero_le _, Nat.zero_le _⟩) hW (fun z1 st1 hp102 H locs hW => ?_)
            obtain ⟨hz1, e1⟩ := hp102
            refine lv_istore (lv' := [(7, .int (iI z1)), (6, .int (iI u)), (5, .int (iI (blw fD fb fs wd r j))), (0, .ref (ad 0)), (1, .int (iI ((r : Nat) : Int))), (2, .int (iI wd)), (3, .int (iI ld)), (4, .int (iI ((j : Nat) : Int)))]) hx hb dX1_matchLaterDays_105 hl (by decide) rfl (fun ls hl => ?_)
            refine lv_aload_n hx hb dX1_matchLaterDays_107 rfl (lv_at hl 3 rfl) ?_
            refine lv_iload_n hx hb dX1_matchLaterDays_108 rfl (lv_at hl 4 rfl) ?_
            refine lv_iload hx hb dX1_matchLaterDays_109 (lv_at hl 1 rfl) ?_
            refine mk_goI (va_runV (As := [.int (iI ((r : Nat) : Int)), .int (iI u)]) (rest := []) ⟨hx, hb, hml, hown, hts⟩ (c_X1_takeSold l cg D ad st1 r u (by omega) (by rw [e1]; show 0 ≤ q 10 r; omega) (by omega) (by rw [e1]; show q 10 r + u ≤ q 9 r; omega) (by rw [e1]; show q 9 r < _; omega) (by rw [e1]; show 0 ≤ q 11 r ∧ q 11 r < _; omega)) (cwV 2 hts gX1_matchLaterDays_X1_takeSold rfl rfl rfl (by decide +kernel) ⟨Nat.le_of_ble_eq_true rfl, Nat.le_of_ble_eq_true rfl⟩) (mk_preV hK hN hW 0 (by decide) rfl rfl rfl) rfl rfl hl.1 rfl (lv_room (Nat.le_of_ble_eq_true rfl)) dX1_matchLaterDays_111 ⟨Nat.zero_le _, Nat.zero_le _⟩) hW (fun z2 st2 hp111 H locs hW => ?_)
            obtain ⟨hz2, e2⟩ := hp111
            refine lv_istore (lv' := [(8, .int (iI z2)), (7, .int (iI z1)), (6, .int (iI u)), (5, .int (iI (blw fD fb fs wd r j))), (0, .ref (ad 0)), (1, .int (iI ((r : Nat) : Int))), (2, .int (iI wd)), (3, .int (iI ld)), (4, .int (iI ((j : Nat) : Int)))]) hx hb dX1_matchLaterDays_114 hl (by decide) rfl (fun ls hl => ?_)
            refine lv_aload_n hx hb dX1_matchLaterDays_116 rfl (lv_at hl 4 rfl) ?_
            refine mk_get (ci := 1) (C := RX1) (T := TX1) (N := 4) hx hb hts inX1 hown hK hW 0 (by decide) rfl rfl 3 (by decide) fl28 (fun _ h9 => h9) rfl dX1_matchLaterDays_117 ?_
            refine mk_iconst hx hb (1) dX1_matchLaterDays_120 ?_
            refine lv_aload_n hx hb dX1_matchLaterDays_121 rfl (lv_at hl 4 rfl) ?_
            refine mk_get (ci := 1) (C := RX1) (T := TX1) (N := 4) hx hb hts inX1 hown hK hW 0 (by decide) rfl rfl 2 (by decide) fl21 (fun _ h9 => h9) rfl dX1_matchLaterDays_122 ?_
            refine mk_getN (ci := 3) (C := RX3) (T := TX3) (N := 10) hx hb hts inX3 hown hK hW 4 (by decide) rfl rfl 0 (by decide) fn98 (fun _ h9 => h9) rfl dX1_matchLaterDays_125 ?_
            refine lv_iload_n hx hb dX1_matchLaterDays_128 rfl (lv_at hl 5 rfl) ?_
            refine mk_iald hx hb hK hW 5 (by decide) rfl 0 rfl (j := r) rfl (by omega) (by decide) dX1_matchLaterDays_129 ?_
            refine mk_sayi (y := (st 5 r)) (by rw [show st2 5 = st1 5 from by rw [e2]; exact stC_ne (by decide), show st1 5 = q 5 from by rw [e1]; exact stC_ne (by decide), hf 5 (by decide)]) ?_
            have hD9 := hDr r (by omega)
            refine mk_sayi (y := (fD r)) (hC2 r (by omega)).1 ?_
            refine lv_aload_n hx hb dX1_matchLaterDays_130 rfl (lv_at hl 4 rfl) ?_
            refine mk_get (ci := 1) (C := RX1) (T := TX1) (N := 4) hx hb hts inX1 hown hK hW 0 (by decide) rfl rfl 2 (by decide) fl21 (fun _ h9 => h9) rfl dX1_matchLaterDays_131 ?_
            refine mk_getN (ci := 3) (C := RX3) (T := TX3) (N := 10) hx hb hts inX3 hown hK hW 4 (by decide) rfl rfl 0 (by decide) fn98 (fun _ h9 => h9) rfl dX1_matchLaterDays_134 ?_
            refine lv_iload hx hb dX1_matchLaterDays_137 (lv_at hl 8 rfl) ?_
            refine mk_iald hx hb hK hW 5 (by decide) rfl 0 rfl (j := j) rfl (by omega) (by decide) dX1_matchLaterDays_139 ?_
            refine mk_sayi (y := (st 5 j)) (by rw [show st2 5 = st1 5 from by rw [e2]; exact stC_ne (by decide), show st1 5 = q 5 from by rw [e1]; exact stC_ne (by decide), hf 5 (by decide)]) ?_
            have hD9 := hDr j (by omega)
            refine mk_sayi (y := (fD j)) (hC2 j (by omega)).1 ?_
            refine lv_iload hx hb dX1_matchLaterDays_140 (lv_at hl 2 rfl) ?_
            refine lv_iload hx hb dX1_matchLaterDays_142 (lv_at hl 1 rfl) ?_
            refine lv_iload hx hb dX1_matchLaterDays_144 (lv_at hl 0 rfl) ?_
            refine mk_goV (va_runV (As := [.int (iI 1), .int (iI (fD r)), .int (iI (fD j)), .int (iI u), .int (iI z1), .int (iI z2)]) (rest := []) ⟨hx, hb, hml, hown, hts⟩ (c_X2_add l cg D ad st2 1 (fD r) (fD j) u z1 z2 (ll ++ mLats fD fb fs fc fp wd r j).length (by rw [e2, e1]; exact hA2.1) hl9) (cwV 6 hts gX1_matchLaterDays_X2_add rfl rfl rfl (by decide +kernel) ⟨Nat.le_of_ble_eq_true rfl, Nat.le_of_ble_eq_true rfl⟩) (mk_preV hK hN hW 14 (by decide) rfl rfl rfl) rfl rfl hl.1 rfl (lv_room (Nat.le_of_ble_eq_true rfl)) dX1_matchLaterDays_146 ⟨Nat.zero_le _, Nat.zero_le _⟩) hW (fun st3 hp146 H locs hW => ?_)
            
            refine mk_iinc (w := ((j + 1 : Nat) : Int)) (lv' := [(4, .int (iI ((j + 1 : Nat) : Int))), (8, .int (iI z2)), (7, .int (iI z1)), (6, .int (iI u)), (5, .int (iI (blw fD fb fs wd r j))), (0, .ref (ad 0)), (1, .int (iI ((r : Nat) : Int))), (2, .int (iI wd)), (3, .int (iI ld))]) hx hb dX1_matchLaterDays_149 hl (k := 8) rfl (by omega) (by decide) rfl (fun ls hl => ?_)
            refine lv_goto (tgt := 17) hx hb dX1_matchLaterDays_152 (by decide) ?_
            have hA3 : AL st3 fD (ll ++ mLats fD fb fs fc fp wd r (j + 1)) := by
              rw [hp146, eL, ← List.append_assoc]
              have hA9 : AL st2 fD (ll ++ mLats fD fb fs fc fp wd r j) := hA2.fr (S := [7, 10]) (by rw [e2, e1]; exact (Fr.rf.st (by decide)).st (by decide)) (by decide)
              refine hA9.add _ rfl rfl (by show _ = bD fD (j : Int); unfold bD; rw [if_neg (by omega), Int.toNat_natCast]) eu (by rw [hz1, q8, q6, q7, eu]) ?_
              rw [hz2, e1]
              show prt (q 11 r) (q 9 r) (q 10 r) u = _
              rw [q11, q9, hsg2, eu]
            have v7 : st3 7 = fnU (q 7) j (q 7 j + u) := by rw [hp146, addM_fr _ _ _ _ _ _ _ _ 7 (by decide), e2, e1]; rfl
            have v10 : st3 10 = fnU (q 10) r (q 10 r + u) := by rw [hp146, addM_fr _ _ _ _ _ _ _ _ 10 (by decide), e2, e1]; rfl
            have hf3 : Fr [7, 10, 14, 15, 16, 17, 18, 19, 20] st st3 := by
              have h9 : Fr [7, 10] q st2 := by rw [e2, e1]; exact (Fr.rf.st (by decide)).st (by decide)
              rw [hp146]
              exact (hf.tr h9 [7, 10, 14, 15, 16, 17, 18, 19, 20] (by decide)).tr (addM_fr _ _ _ _ _ _ _ _) [7, 10, 14, 15, 16, 17, 18, 19, 20] (by decide)
            exact ih17 st3 (j + 1) (by omega) hf3 (fun i hi hri => by rw [v7]; by_cases x : i = j; rw [x, fnU_eq, if_pos (by omega), q7, blw_s, eu]; omega; rw [fnU_ne x, hg2 i hi hri]; by_cases y : i < j; rw [if_pos y, if_pos (by omega)]; rw [if_neg y, if_neg (by omega)]) (fun i hi => by rw [v7, fnU_ne (by omega)]; exact hg3 i hi) (by rw [v10, fnU_eq, slft_s, hsg2, eu]; omega) (fun i hi => by rw [v10, fnU_ne hi]; exact hsg3 i hi) hA3 (by omega) _ _ _ hW (lv_sub hl [5, 6, 7, 8, 0] rfl)
  exact loop17 _ st (r + 1) (by omega) Fr.rf (fun i hi hri => by rw [if_neg (by omega)]; exact hg i hi hri) (fun i _ => rfl) (by rw [hsg, slft_own (r + 1) (Nat.le_refl _), slft_0]) (fun i _ => rfl) (by rw [mLats_own (r + 1) (Nat.le_refl _), List.append_nil]; exact hA) (Nat.lt_succ_self _) _ _ _ hW (lv_sub hl [2, 3, 4, 1, 0] rfl)

set_option maxHeartbeats 4000000 in
set_option maxRecDepth 100000 in
theorem c_X1_pool (l : Launch) (cg : Nat → ClassId) (D : va_G) (ad : Nat → Nat) (st : Nat → Nat → Int) (r R : Nat) (fD fb fc fs fp : Nat → Int) (ll : List MTup) (hRC : RC st R fD fb fc fs fp) (hRN : RN R fD fb fc fs fp) (hrR : r < R) (hA : AL st fD ll) (wd : Int) (hlen : (ll ++ mPool fD fb fs fc fp wd R r).length ≤ 60) (hpv : 0 < r → st 12 (r - 1) = pU fD fb fs wd R r ∧ st 13 (r - 1) = pC fD fb fs fc wd R r) (hg : st 7 r = fb r - blw fD fb fs wd R r) (hsg : st 10 r = fs r - slft fD fb fs wd r R) : MV l yX1_pool wsX1_pool ({ frames := 2, cells := 0, slots := 0, locals := 46 }) D vwCl (TY cg) 28 (celL cg) ad st [.ref (ad 0), .int (iI ((r : Nat) : Int))] (fun st1 => Fr [7, 10, 12, 13, 14, 15, 16, 17, 18, 19, 20] st st1 ∧ st1 12 r = pU fD fb fs wd R (r + 1) ∧ st1 13 r = pC fD fb fs fc wd R (r + 1) ∧ (∀ i, i ≠ r → st1 7 i = st 7 i ∧ st1 10 i = st 10 i ∧ st1 12 i = st 12 i ∧ st1 13 i = st 13 i) ∧ AL st1 fD (ll ++ mPool fD fb fs fc fp wd R r)) := by
  refine mk_open (cc := cX1_pool) (maxL := 7) (ret := none) (by decide) rfl (Nat.le_of_ble_eq_true rfl) ?_
  intro p e s m args below meth c hx hb hml hr hown hts hlocks hK hN hargs ls hl hW
  have hown : s.vm.findClass RX1 = some m.cls := hown
  have hl : lv_has ls 7 [(0, .ref (ad 0)), (1, .int (iI ((r : Nat) : Int)))] := hl
  have inX1 : ∀ w ∈ wsX10, w ∈ wsX1_pool := by decide +kernel
  have inX3 : ∀ w ∈ wsX30, w ∈ wsX1_pool := by decide +kernel
  have fl21 := hts (.fieldLink RX1 21 "GainsReckoner$Ledger" "sheet" "LGainsReckoner$Sheet;") (by decide +kernel)
  have fn77 := hN.f (args := args) "GainsReckoner$Ledger" 77 "GainsReckoner$Sheet" "bought" "[I" (by decide +kernel)
  have fn103 := hN.f (args := args) "GainsReckoner$Ledger" 103 "GainsReckoner$Sheet" "boughtGone" "[I" (by decide +kernel)
  have fn80 := hN.f (args := args) "GainsReckoner$Ledger" 80 "GainsReckoner$Sheet" "sold" "[I" (by decide +kernel)
  have fn106 := hN.f (args := args) "GainsReckoner$Ledger" 106 "GainsReckoner$Sheet" "soldGone" "[I" (by decide +kernel)
  have fn115 := hN.f (args := args) "GainsReckoner$Ledger" 115 "GainsReckoner$Sheet" "pooledUnits" "[I" (by decide +kernel)
  have fn118 := hN.f (args := args) "GainsReckoner$Ledger" 118 "GainsReckoner$Sheet" "pooledCost" "[I" (by decide +kernel)
  have nm91 := hN.m "GainsReckoner$Ledger" 91 yX5_part (by decide +kernel)
  have niX5 := hts (.initialized RX5) (by decide +kernel)
  have ns91 := hts (.static yX5_part) (by decide +kernel)
  have fl28 := hts (.fieldLink RX1 28 "GainsReckoner$Ledger" "matched" "LGainsReckoner$Matches;") (by decide +kernel)
  have fn98 := hN.f (args := args) "GainsReckoner$Ledger" 98 "GainsReckoner$Sheet" "day" "[I" (by decide +kernel)
  obtain ⟨hR, hC2⟩ := id hRC
  obtain ⟨hR6, hso, hDr, hb0, hs0, hc0, hp0, hh0, hnz, hc6, hp6, hb6, hs6⟩ := id hRN
  have r5 := hDr r hrR
  have r6 := hb0 r
  have r9 := hs0 r
  have r8 := hc0 r
  have r11 := hp0 r
  have hB := (left_nn (D := fD) (w := wd) (fun i => (hb0 i).1) (fun i => (hs0 i).1) R).1 r
  have hSn := (left_nn (D := fD) (w := wd) (fun i => (hb0 i).1) (fun i => (hs0 i).1) r).2 R
  have hBl := blw_le (D := fD) (w := wd) (fun i => (hb0 i).1) (fun i => (hs0 i).1) R r
  have hSl := slft_le (D := fD) (w := wd) (fun i => (hb0 i).1) (fun i => (hs0 i).1) r R
  have hU := pU_nn (D := fD) (w := wd) (fun i => (hb0 i).1) (fun i => (hs0 i).1) hh0 r (by omega)
  have hU2 := pU_has (D := fD) (w := wd) (fun i => (hb0 i).1) (fun i => (hs0 i).1) hh0 hrR
  have hU3 := pU_le (D := fD) (w := wd) (R := R) (fun i => (hb0 i).1) (fun i => (hs0 i).1) (r + 1)
  have hU4 := pU_s fD fb fs wd R r
  have hb7 := sm_mono (f := fb) (m := r + 1) (n := R) (fun k _ => (hb0 k).1) (by omega)
  have hb8 := pU_le (D := fD) (w := wd) (R := R) (fun i => (hb0 i).1) (fun i => (hs0 i).1) r
  have hb9 := sm_succ fb r
  have hc7 := sm_mono (f := fc) (m := r + 1) (n := R) (fun k _ => (hc0 k).1) (by omega)
  have hC3 := hC_bd (D := fD) (w := wd) (fun i => (hb0 i).1) (fun i => (hs0 i).1) (fun i => (hc0 i).1) hh0 hrR
  have hC4 := pC_bd (D := fD) (w := wd) (fun i => (hb0 i).1) (fun i => (hs0 i).1) (fun i => (hc0 i).1) hh0 r (by omega)
  refine lv_iload_n hx hb dX1_pool_0 rfl (lv_at hl 1 rfl) ?_
  refine mk_if_le (tgt := 18) hx hb dX1_pool_1 (by decide) (by omega) (fun c_1 => ?_) (fun c_1 => ?_)
  · skip
    refine mk_iconst hx hb (0) dX1_pool_18 ?_
    have h19 : (0 : Int) = pU fD fb fs wd R r := by
      have e0 : r = 0 := by omega
      rw [e0]; rfl
    refine mk_sayi (y := pU fD fb fs wd R r) h19 ?_
    refine lv_istore_n (lv' := [(2, .int (iI (pU fD fb fs wd R r))), (0, .ref (ad 0)), (1, .int (iI ((r : Nat) : Int)))]) hx hb dX1_pool_19 rfl hl (by decide) rfl (fun ls hl => ?_)
    refine lv_iload_n hx hb dX1_pool_20 rfl (lv_at hl 2 rfl) ?_
    refine mk_if_le (tgt := 38) hx hb dX1_pool_21 (by decide) (by omega) (fun c_21 => ?_) (fun c_21 => ?_)
    · skip
      refine mk_iconst hx hb (0) dX1_pool_38 ?_
      have h39 : (0 : Int) = pC fD fb fs fc wd R r := by
        have e0 : r = 0 := by omega
        rw [e0]; rfl
      refine mk_sayi (y := pC fD fb fs fc wd R r) h39 ?_
      refine lv_istore_n (lv' := [(3, .int (iI (pC fD fb fs fc wd R r))), (2, .int (iI (pU fD fb fs wd R r))), (0, .ref (ad 0)), (1, .int (iI ((r : Nat) : Int)))]) hx hb dX1_pool_39 rfl hl (by decide) rfl (fun ls hl => ?_)
      refine lv_aload_n hx hb dX1_pool_40 rfl (lv_at hl 2 rfl) ?_
      refine mk_get (ci := 1) (C := RX1) (T := TX1) (N := 4) hx hb hts inX1 hown hK hW 0 (by decide) rfl rfl 2 (by decide) fl21 (fun _ h9 => h9) rfl dX1_pool_41 ?_
      refine mk_getN (ci := 3) (C := RX3) (T := TX3) (N := 10) hx hb hts inX3 hown hK hW 4 (by decide) rfl rfl 1 (by decide) fn77 (fun _ h9 => h9) rfl dX1_pool_44 ?_
      refine lv_iload_n hx hb dX1_pool_47 rfl (lv_at hl 3 rfl) ?_
      refine mk_iald hx hb hK hW 6 (by decide) rfl 0 rfl (j := r) rfl (by omega) (by decide) dX1_pool_48 ?_
      refine mk_sayi (y := (fb r)) (hC2 r (by omega)).2.1 ?_
      refine lv_aload_n hx hb dX1_pool_49 rfl (lv_at hl 2 rfl) ?_
      refine mk_get (ci := 1) (C := RX1) (T := TX1) (N := 4) hx hb hts inX1 hown hK hW 0 (by decide) rfl rfl 2 (by decide) fl21 (fun _ h9 => h9) rfl dX1_pool_50 ?_
      refine mk_getN (ci := 3) (C := RX3) (T := TX3) (N := 10) hx hb hts inX3 hown hK hW 4 (by decide) rfl rfl 2 (by decide) fn103 (fun _ h9 => h9) rfl dX1_pool_53 ?_
      refine lv_iload_n hx hb dX1_pool_56 rfl (lv_at hl 3 rfl) ?_
      refine mk_iald hx hb hK hW 7 (by decide) rfl 0 rfl (j := r) rfl (by omega) (by decide) dX1_pool_57 ?_
      refine mk_isub hx hb dX1_pool_58 ?_
      refine mk_sayi (y := (blw fD fb fs wd R r)) (by rw [hg]; omega) ?_
      refine lv_istore (lv' := [(4, .int (iI (blw fD fb fs wd R r))), (3, .int (iI (pC fD fb fs fc wd R r))), (2, .int (iI (pU fD fb fs wd R r))), (0, .ref (ad 0)), (1, .int (iI ((r : Nat) : Int)))]) hx hb dX1_pool_59 hl (by decide) rfl (fun ls hl => ?_)
      refine lv_iload_n hx hb dX1_pool_61 rfl (lv_at hl 2 rfl) ?_
      refine lv_iload hx hb dX1_pool_62 (lv_at hl 0 rfl) ?_
      refine mk_iadd hx hb dX1_pool_64 ?_
      refine lv_istore_n (lv' := [(2, .int (iI ((pU fD fb fs wd R r) + (blw fD fb fs wd R r)))), (4, .int (iI (blw fD fb fs wd R r))), (3, .int (iI (pC fD fb fs fc wd R r))), (0, .ref (ad 0)), (1, .int (iI ((r : Nat) : Int)))]) hx hb dX1_pool_65 rfl hl (by decide) rfl (fun ls hl => ?_)
      refine lv_iload_n hx hb dX1_pool_66 rfl (lv_at hl 2 rfl) ?_
      refine lv_aload_n hx hb dX1_pool_67 rfl (lv_at hl 3 rfl) ?_
      refine lv_iload_n hx hb dX1_pool_68 rfl (lv_at hl 4 rfl) ?_
      refine lv_iload hx hb dX1_pool_69 (lv_at hl 1 rfl) ?_
      refine mk_goI (va_runV (As := [.int (iI ((r : Nat) : Int)), .int (iI (blw fD fb fs wd R r))]) (rest := [.int (iI (pC fD fb fs fc wd R r))]) ⟨hx, hb, hml, hown, hts⟩ (c_X1_takeBought l cg D ad st r (blw fD fb fs wd R r) (by omega) (by rw [hg]; omega) hB (by rw [hg, (hC2 r hrR).2.1]; omega) (by rw [(hC2 r hrR).2.1]; omega) (by rw [(hC2 r hrR).2.2.1]; omega)) (cwV 2 hts gX1_pool_X1_takeBought rfl rfl rfl (by decide +kernel) ⟨Nat.le_of_ble_eq_true rfl, Nat.le_of_ble_eq_true rfl⟩) (mk_preV hK hN hW 0 (by decide) rfl rfl rfl) rfl rfl hl.1 rfl (lv_room (Nat.le_of_ble_eq_true rfl)) dX1_pool_71 ⟨Nat.zero_le _, Nat.zero_le _⟩) hW (fun z1 st1 hp71 H locs hW => ?_)
      obtain ⟨hz1, e1⟩ := hp71
      have hz1r : prt (st 8 r) (st 6 r) (st 7 r) (blw fD fb fs wd R r) = prt (fc r) (fb r) (fb r - blw fD fb fs wd R r) (blw fD fb fs wd R r) := by rw [(hC2 r hrR).2.2.1, (hC2 r hrR).2.1, hg]
      refine mk_iadd hx hb dX1_pool_74 ?_
      refine mk_sayi (y := (hC fD fb fs fc wd R r)) (by rw [hz1, hz1r]; rfl) ?_
      refine lv_istore_n (lv' := [(3, .int (iI (hC fD fb fs fc wd R r))), (2, .int (iI ((pU fD fb fs wd R r) + (blw fD fb fs wd R r)))), (4, .int (iI (blw fD fb fs wd R r))), (0, .ref (ad 0)), (1, .int (iI ((r : Nat) : Int)))]) hx hb dX1_pool_75 rfl hl (by decide) rfl (fun ls hl => ?_)
      refine lv_aload_n hx hb dX1_pool_76 rfl (lv_at hl 3 rfl) ?_
      refine mk_get (ci := 1) (C := RX1) (T := TX1) (N := 4) hx hb hts inX1 hown hK hW 0 (by decide) rfl rfl 2 (by decide) fl21 (fun _ h9 => h9) rfl dX1_pool_77 ?_
      refine mk_getN (ci := 3) (C := RX3) (T := TX3) (N := 10) hx hb hts inX3 hown hK hW 4 (by decide) rfl rfl 4 (by decide) fn80 (fun _ h9 => h9) rfl dX1_pool_80 ?_
      refine lv_iload_n hx hb dX1_pool_83 rfl (lv_at hl 4 rfl) ?_
      refine mk_iald hx hb hK hW 9 (by decide) rfl 0 rfl (j := r) rfl (by omega) (by decide) dX1_pool_84 ?_
      refine mk_sayi (y := (st 9 r)) (by rw [show st1 9 = st 9 from by rw [e1]; exact stC_ne (by decide)]) ?_
      refine mk_sayi (y := (fs r)) (hC2 r (by omega)).2.2.2.1 ?_
      refine lv_aload_n hx hb dX1_pool_85 rfl (lv_at hl 3 rfl) ?_
      refine mk_get (ci := 1) (C := RX1) (T := TX1) (N := 4) hx hb hts inX1 hown hK hW 0 (by decide) rfl rfl 2 (by decide) fl21 (fun _ h9 => h9) rfl dX1_pool_86 ?_
      refine mk_getN (ci := 3) (C := RX3) (T := TX3) (N := 10) hx hb hts inX3 hown hK hW 4 (by decide) rfl rfl 5 (by decide) fn106 (fun _ h9 => h9) rfl dX1_pool_89 ?_
      refine lv_iload_n hx hb dX1_pool_92 rfl (lv_at hl 4 rfl) ?_
      refine mk_iald hx hb hK hW 10 (by decide) rfl 0 rfl (j := r) rfl (by omega) (by decide) dX1_pool_93 ?_
      refine mk_sayi (y := (st 10 r)) (by rw [show st1 10 = st 10 from by rw [e1]; exact stC_ne (by decide)]) ?_
      refine mk_isub hx hb dX1_pool_94 ?_
      refine mk_sayi (y := (slft fD fb fs wd r R)) (by rw [hsg]; omega) ?_
      refine lv_istore (lv' := [(5, .int (iI (slft fD fb fs wd r R))), (3, .int (iI (hC fD fb fs fc wd R r))), (2, .int (iI ((pU fD fb fs wd R r) + (blw fD fb fs wd R r)))), (4, .int (iI (blw fD fb fs wd R r))), (0, .ref (ad 0)), (1, .int (iI ((r : Nat) : Int)))]) hx hb dX1_pool_95 hl (by decide) rfl (fun ls hl => ?_)
      refine lv_iload hx hb dX1_pool_97 (lv_at hl 0 rfl) ?_
      refine mk_if_le (tgt := 151) hx hb dX1_pool_99 (by decide) (by omega) (fun c_99 => ?_) (fun c_99 => ?_)
      · skip
        have eM : mPool fD fb fs fc fp wd R r = [] := if_neg (by omega)
        have hPC : pC fD fb fs fc wd R (r + 1) = hC fD fb fs fc wd R r := by rw [pC_s, if_neg (by omega)]; omega
        refine lv_aload_n hx hb dX1_pool_151 rfl (lv_at hl 4 rfl) ?_
        refine mk_get (ci := 1) (C := RX1) (T := TX1) (N := 4) hx hb hts inX1 hown hK hW 0 (by decide) rfl rfl 2 (by decide) fl21 (fun _ h9 => h9) rfl dX1_pool_152 ?_
        refine mk_getN (ci := 3) (C := RX3) (T := TX3) (N := 10) hx hb hts inX3 hown hK hW 4 (by decide) rfl rfl 7 (by decide) fn115 (fun _ h9 => h9) rfl dX1_pool_155 ?_
        refine lv_iload_n hx hb dX1_pool_158 rfl (lv_at hl 5 rfl) ?_
        refine lv_iload_n hx hb dX1_pool_159 rfl (lv_at hl 2 rfl) ?_
        refine mk_iast hx hb hK hW 12 (by decide) (fun _ => rfl) 0 rfl (j := r) rfl (by omega) (by decide) dX1_pool_160 (fun H locs hW => ?_)
        obtain ⟨st2, est2⟩ : ∃ z, z = stC st1 12 (fnU (st1 12) r ((pU fD fb fs wd R r) + (blw fD fb fs wd R r))) := ⟨_, rfl⟩
        rw [← est2] at hW
        refine lv_aload_n hx hb dX1_pool_161 rfl (lv_at hl 4 rfl) ?_
        refine mk_get (ci := 1) (C := RX1) (T := TX1) (N := 4) hx hb hts inX1 hown hK hW 0 (by decide) rfl rfl 2 (by decide) fl21 (fun _ h9 => h9) rfl dX1_pool_162 ?_
        refine mk_getN (ci := 3) (C := RX3) (T := TX3) (N := 10) hx hb hts inX3 hown hK hW 4 (by decide) rfl rfl 8 (by decide) fn118 (fun _ h9 => h9) rfl dX1_pool_165 ?_
        refine lv_iload_n hx hb dX1_pool_168 rfl (lv_at hl 5 rfl) ?_
        refine lv_iload_n hx hb dX1_pool_169 rfl (lv_at hl 1 rfl) ?_
        refine mk_iast hx hb hK hW 13 (by decide) (fun _ => rfl) 0 rfl (j := r) rfl (by omega) (by decide) dX1_pool_170 (fun H locs hW => ?_)
        obtain ⟨st3, est3⟩ : ∃ z, z = stC st2 13 (fnU (st2 13) r (hC fD fb fs fc wd R r)) := ⟨_, rfl⟩
        rw [← est3] at hW
        exact mk_retV hx hb hr hlocks hW (by
          have hv7 : st3 7 = fnU (st 7) r (st 7 r + blw fD fb fs wd R r) := by rw [est3, est2, e1]; rfl
          have hv10 : st3 10 = st 10 := by rw [est3, est2, e1]; rfl
          have hv12 : st3 12 = fnU (st 12) r (pU fD fb fs wd R r + blw fD fb fs wd R r) := by rw [est3, est2, e1]; rfl
          have hv13 : st3 13 = fnU (st 13) r (hC fD fb fs fc wd R r) := by rw [est3, est2, e1]; rfl
          have hfr : Fr [7, 12, 13] st st3 := by rw [est3, est2, e1]; exact ((Fr.rf.st (by decide)).st (by decide)).st (by decide)
          refine ⟨hfr.up (by decide), by rw [hv12, fnU_eq, hU4]; omega, by rw [hv13, fnU_eq, hPC], fun i hi => ?_, by rw [eM, List.append_nil]; exact hA.fr hfr (by decide)⟩
          rw [hv7, hv10, hv12, hv13, fnU_ne hi, fnU_ne hi, fnU_ne hi]; exact ⟨rfl, rfl, rfl, rfl⟩) dX1_pool_171
      · skip
        have eM : mPool fD fb fs fc fp wd R r = [(r, -1, 2, slft fD fb fs wd r R, tkC fD fb fs fc wd R r, prt (fp r) (fs r) (fs r - slft fD fb fs wd r R) (slft fD fb fs wd r R))] := if_pos (by omega)
        rw [eM, List.length_append, List.length_singleton] at hlen
        have hPC : pC fD fb fs fc wd R (r + 1) = hC fD fb fs fc wd R r - tkC fD fb fs fc wd R r := by rw [pC_s, if_pos (by omega)]
        refine lv_iload_n hx hb dX1_pool_102 rfl (lv_at hl 1 rfl) ?_
        refine mk_iconst hx hb (0) dX1_pool_103 ?_
        refine lv_iload hx hb dX1_pool_104 (lv_at hl 0 rfl) ?_
        refine lv_iload_n hx hb dX1_pool_106 rfl (lv_at hl 2 rfl) ?_
        refine mk_goI (va_runSN (As := [.int (iI (hC fD fb fs fc wd R r)), .int (iI 0), .int (iI (slft fD fb fs wd r R)), .int (iI ((pU fD fb fs wd R r) + (blw fD fb fs wd R r)))]) (rest := []) ⟨hx, hb, hml, hown, hts⟩ (c_X5_part l cg D ad st1 (hC fD fb fs fc wd R r) 0 (slft fD fb fs wd r R) (pU fD fb fs wd R r + blw fD fb fs wd R r) (by omega) (by omega) (by omega) (by omega)) ⟨va_cnB 4 hts gX1_pool_X5_part_n91 rfl rfl rfl nm91 niX5 (by decide +kernel) ⟨Nat.le_of_ble_eq_true rfl, Nat.le_of_ble_eq_true rfl⟩, ns91, trivial⟩ (mk_preS hK hN hW) rfl rfl hl.1 rfl (lv_room (Nat.le_of_ble_eq_true rfl)) dX1_pool_107 ⟨Nat.zero_le _, Nat.zero_le _⟩) hW (fun z2 st4 hp107 H locs hW => ?_)
        obtain ⟨est4, hz2⟩ := hp107
        rw [est4] at hW
        refine mk_sayi (y := tkC fD fb fs fc wd R r) (by rw [hz2]; unfold tkC; simp) ?_
        refine lv_istore (lv' := [(6, .int (iI (tkC fD fb fs fc wd R r))), (5, .int (iI (slft fD fb fs wd r R))), (3, .int (iI (hC fD fb fs fc wd R r))), (2, .int (iI ((pU fD fb fs wd R r) + (blw fD fb fs wd R r)))), (4, .int (iI (blw fD fb fs wd R r))), (0, .ref (ad 0)), (1, .int (iI ((r : Nat) : Int)))]) hx hb dX1_pool_110 hl (by decide) rfl (fun ls hl => ?_)
        refine lv_iload_n hx hb dX1_pool_112 rfl (lv_at hl 3 rfl) ?_
        refine lv_iload hx hb dX1_pool_113 (lv_at hl 1 rfl) ?_
        refine mk_isub hx hb dX1_pool_115 ?_
        refine lv_istore_n (lv' := [(2, .int (iI (((pU fD fb fs wd R r) + (blw fD fb fs wd R r)) - (slft fD fb fs wd r R)))), (6, .int (iI (tkC fD fb fs fc wd R r))), (5, .int (iI (slft fD fb fs wd r R))), (3, .int (iI (hC fD fb fs fc wd R r))), (4, .int (iI (blw fD fb fs wd R r))), (0, .ref (ad 0)), (1, .int (iI ((r : Nat) : Int)))]) hx hb dX1_pool_116 rfl hl (by decide) rfl (fun ls hl => ?_)
        refine lv_iload_n hx hb dX1_pool_117 rfl (lv_at hl 3 rfl) ?_
        refine lv_iload hx hb dX1_pool_118 (lv_at hl 1 rfl) ?_
        refine mk_isub hx hb dX1_pool_120 ?_
        refine lv_istore_n (lv' := [(3, .int (iI ((hC fD fb fs fc wd R r) - (tkC fD fb fs fc wd R r)))), (2, .int (iI (((pU fD fb fs wd R r) + (blw fD fb fs wd R r)) - (slft fD fb fs wd r R)))), (6, .int (iI (tkC fD fb fs fc wd R r))), (5, .int (iI (slft fD fb fs wd r R))), (4, .int (iI (blw fD fb fs wd R r))), (0, .ref (ad 0)), (1, .int (iI ((r : Nat) : Int)))]) hx hb dX1_pool_121 rfl hl (by decide) rfl (fun ls hl => ?_)
        refine lv_aload_n hx hb dX1_pool_122 rfl (lv_at hl 5 rfl) ?_
        refine mk_get (ci := 1) (C := RX1) (T := TX1) (N := 4) hx hb hts inX1 hown hK hW 0 (by decide) rfl rfl 3 (by decide) fl28 (fun _ h9 => h9) rfl dX1_pool_123 ?_
        refine mk_iconst hx hb (2) dX1_pool_126 ?_
        refine lv_aload_n hx hb dX1_pool_127 rfl (lv_at hl 5 rfl) ?_
        refine mk_get (ci := 1) (C := RX1) (T := TX1) (N := 4) hx hb hts inX1 hown hK hW 0 (by decide) rfl rfl 2 (by decide) fl21 (fun _ h9 => h9) rfl dX1_pool_128 ?_
        refine mk_getN (ci := 3) (C := RX3) (T := TX3) (N := 10) hx hb hts inX3 hown hK hW 4 (by decide) rfl rfl 0 (by decide) fn98 (fun _ h9 => h9) rfl dX1_pool_131 ?_
        refine lv_iload_n hx hb dX1_pool_134 rfl (lv_at hl 6 rfl) ?_
        refine mk_iald hx hb hK hW 5 (by decide) rfl 0 rfl (j := r) rfl (by omega) (by decide) dX1_pool_135 ?_
        refine mk_sayi (y := (st 5 r)) (by rw [show st1 5 = st 5 from by rw [e1]; exact stC_ne (by decide)]) ?_
        refine mk_sayi (y := (fD r)) (hC2 r (by omega)).1 ?_
        refine mk_iconst hx hb (-1) dX1_pool_136 ?_
        refine lv_iload hx hb dX1_pool_137 (lv_at hl 3 rfl) ?_
        refine lv_iload hx hb dX1_pool_139 (lv_at hl 2 rfl) ?_
        refine lv_aload_n hx hb dX1_pool_141 rfl (lv_at hl 5 rfl) ?_
        refine lv_iload_n hx hb dX1_pool_142 rfl (lv_at hl 6 rfl) ?_
        refine lv_iload hx hb dX1_pool_143 (lv_at hl 3 rfl) ?_
        refine mk_goI (va_runV (As := [.int (iI ((r : Nat) : Int)), .int (iI (slft fD fb fs wd r R))]) (rest := [.int (iI (tkC fD fb fs fc wd R r)), .int (iI (slft fD fb fs wd r R)), .int (iI (-1 : Int)), .int (iI (fD r)), .int (iI 2), .ref (ad 14)]) ⟨hx, hb, hml, hown, hts⟩ (c_X1_takeSold l cg D ad st1 r (slft fD fb fs wd r R) (by omega) (by rw [e1]; show 0 ≤ st 10 r; omega) (by omega) (by rw [e1]; show st 10 r + _ ≤ st 9 r; rw [(hC2 r hrR).2.2.2.1]; omega) (by rw [e1]; show st 9 r < _; rw [(hC2 r hrR).2.2.2.1]; omega) (by rw [e1]; show 0 ≤ st 11 r ∧ st 11 r < _; rw [(hC2 r hrR).2.2.2.2]; omega)) (cwV 2 hts gX1_pool_X1_takeSold rfl rfl rfl (by decide +kernel) ⟨Nat.le_of_ble_eq_true rfl, Nat.le_of_ble_eq_true rfl⟩) (mk_preV hK hN hW 0 (by decide) rfl rfl rfl) rfl rfl hl.1 rfl (lv_room (Nat.le_of_ble_eq_true rfl)) dX1_pool_145 ⟨Nat.zero_le _, Nat.zero_le _⟩) hW (fun z3 st5 hp145 H locs hW => ?_)
        obtain ⟨hz3, e2⟩ := hp145
        refine mk_goV (va_runV (As := [.int (iI 2), .int (iI (fD r)), .int (iI (-1 : Int)), .int (iI (slft fD fb fs wd r R)), .int (iI (tkC fD fb fs fc wd R r)), .int (iI z3)]) (rest := []) ⟨hx, hb, hml, hown, hts⟩ (c_X2_add l cg D ad st5 2 (fD r) (-1) (slft fD fb fs wd r R) (tkC fD fb fs fc wd R r) z3 ll.length (by rw [e2, e1]; exact hA.1) (by omega)) (cwV 6 hts gX1_pool_X2_add rfl rfl rfl (by decide +kernel) ⟨Nat.le_of_ble_eq_true rfl, Nat.le_of_ble_eq_true rfl⟩) (mk_preV hK hN hW 14 (by decide) rfl rfl rfl) rfl rfl hl.1 rfl (lv_room (Nat.le_of_ble_eq_true rfl)) dX1_pool_148 ⟨Nat.zero_le _, Nat.zero_le _⟩) hW (fun st6 hp148 H locs hW => ?_)
        
        refine lv_aload_n hx hb dX1_pool_151 rfl (lv_at hl 5 rfl) ?_
        refine mk_get (ci := 1) (C := RX1) (T := TX1) (N := 4) hx hb hts inX1 hown hK hW 0 (by decide) rfl rfl 2 (by decide) fl21 (fun _ h9 => h9) rfl dX1_pool_152 ?_
        refine mk_getN (ci := 3) (C := RX3) (T := TX3) (N := 10) hx hb hts inX3 hown hK hW 4 (by decide) rfl rfl 7 (by decide) fn115 (fun _ h9 => h9) rfl dX1_pool_155 ?_
        refine lv_iload_n hx hb dX1_pool_158 rfl (lv_at hl 6 rfl) ?_
        refine lv_iload_n hx hb dX1_pool_159 rfl (lv_at hl 1 rfl) ?_
        refine mk_iast hx hb hK hW 12 (by decide) (fun _ => rfl) 0 rfl (j := r) rfl (by omega) (by decide) dX1_pool_160 (fun H locs hW => ?_)
        obtain ⟨st8, est8⟩ : ∃ z, z = stC st6 12 (fnU (st6 12) r (((pU fD fb fs wd R r) + (blw fD fb fs wd R r)) - (slft fD fb fs wd r R))) := ⟨_, rfl⟩
        rw [← est8] at hW
        refine lv_aload_n hx hb dX1_pool_161 rfl (lv_at hl 5 rfl) ?_
        refine mk_get (ci := 1) (C := RX1) (T := TX1) (N := 4) hx hb hts inX1 hown hK hW 0 (by decide) rfl rfl 2 (by decide) fl21 (fun _ h9 => h9) rfl dX1_pool_162 ?_
        refine mk_getN (ci := 3) (C := RX3) (T := TX3) (N := 10) hx hb hts inX3 hown hK hW 4 (by decide) rfl rfl 8 (by decide) fn118 (fun _ h9 => h9) rfl dX1_pool_165 ?_
        refine lv_iload_n hx hb dX1_pool_168 rfl (lv_at hl 6 rfl) ?_
        refine lv_iload_n hx hb dX1_pool_169 rfl (lv_at hl 0 rfl) ?_
        refine mk_iast hx hb hK hW 13 (by decide) (fun _ => rfl) 0 rfl (j := r) rfl (by omega) (by decide) dX1_pool_170 (fun H locs hW => ?_)
        obtain ⟨st9, est9⟩ : ∃ z, z = stC st8 13 (fnU (st8 13) r ((hC fD fb fs fc wd R r) - (tkC fD fb fs fc wd R r))) := ⟨_, rfl⟩
        rw [← est9] at hW
        exact mk_retV hx hb hr hlocks hW (by
          have fA := addM_fr st5 ll.length 2 (fD r) (-1) (slft fD fb fs wd r R) (tkC fD fb fs fc wd R r) z3
          have k7 : st6 7 = st5 7 := by rw [hp148]; exact fA 7 (by decide)
          have k10 : st6 10 = st5 10 := by rw [hp148]; exact fA 10 (by decide)
          have k12 : st6 12 = st5 12 := by rw [hp148]; exact fA 12 (by decide)
          have k13 : st6 13 = st5 13 := by rw [hp148]; exact fA 13 (by decide)
          have hv7 : st9 7 = fnU (st 7) r (st 7 r + blw fD fb fs wd R r) := by rw [est9, est8]; show st6 7 = _; rw [k7, e2, e1]; rfl
          have hv10 : st9 10 = fnU (st 10) r (st 10 r + slft fD fb fs wd r R) := by rw [est9, est8]; show st6 10 = _; rw [k10, e2, e1]; rfl
          have hv12 : st9 12 = fnU (st 12) r (pU fD fb fs wd R r + blw fD fb fs wd R r - slft fD fb fs wd r R) := by rw [est9, est8]; show fnU (st6 12) _ _ = _; rw [k12, e2, e1]; rfl
          have hv13 : st9 13 = fnU (st 13) r (hC fD fb fs fc wd R r - tkC fD fb fs fc wd R r) := by rw [est9, est8]; show fnU (st6 13) _ _ = _; rw [k13, e2, e1]; rfl
          have hq2 : Fr [7, 10] st st5 := by rw [e2, e1]; exact (Fr.rf.st (by decide)).st (by decide)
          have hfr : Fr [7, 10, 12, 13, 14, 15, 16, 17, 18, 19, 20] st st9 := by
            rw [est9, est8, hp148]
            exact (((hq2.tr fA [7, 10, 12, 13, 14, 15, 16, 17, 18, 19, 20] (by decide)).st (by decide)).st (by decide))
          have hA3 : AL st9 fD (ll ++ mPool fD fb fs fc fp wd R r) := by
            have h8 : AL st5 fD ll := hA.fr hq2 (by decide)
            have h9 := h8.add (k := 2) (so := fD r) (bo := -1) (u := slft fD fb fs wd r R) (c := tkC fD fb fs fc wd R r) (p := z3) (r, -1, 2, slft fD fb fs wd r R, tkC fD fb fs fc wd R r, prt (fp r) (fs r) (fs r - slft fD fb fs wd r R) (slft fD fb fs wd r R)) rfl rfl (by rfl) rfl rfl (by
              rw [hz3, e1]
              show prt (st 11 r) (st 9 r) (st 10 r) _ = _
              rw [(hC2 r hrR).2.2.2.2, (hC2 r hrR).2.2.2.1, hsg])
            rw [eM]
            exact h9.fr (S := [12, 13]) (by rw [est9, est8, hp148]; exact (Fr.rf.st (by decide)).st (by decide)) (by decide)
          refine ⟨hfr, by rw [hv12, fnU_eq, hU4], by rw [hv13, fnU_eq, hPC], fun i hi => ?_, hA3⟩
          rw [hv7, hv10, hv12, hv13, fnU_ne hi, fnU_ne hi, fnU_ne hi, fnU_ne hi]; exact ⟨rfl, rfl, rfl, rfl⟩) dX1_pool_171
    · skip
      exact absurd c_21 (by omega)
  · skip
    refine lv_aload_n hx hb dX1_pool_4 rfl (lv_at hl 0 rfl) ?_
    refine mk_get (ci := 1) (C := RX1) (T := TX1) (N := 4) hx hb hts inX1 hown hK hW 0 (by decide) rfl rfl 2 (by decide) fl21 (fun _ h9 => h9) rfl dX1_pool_5 ?_
    refine mk_getN (ci := 3) (C := RX3) (T := TX3) (N := 10) hx hb hts inX3 hown hK hW 4 (by decide) rfl rfl 7 (by decide) fn115 (fun _ h9 => h9) rfl dX1_pool_8 ?_
    refine lv_iload_n hx hb dX1_pool_11 rfl (lv_at hl 1 rfl) ?_
    refine mk_iconst hx hb (1) dX1_pool_12 ?_
    refine mk_isub hx hb dX1_pool_13 ?_
    refine mk_iald hx hb hK hW 12 (by decide) rfl 0 rfl (j := (r - 1)) (by omega) (by omega) (by decide) dX1_pool_14 ?_
    refine lv_goto (tgt := 19) hx hb dX1_pool_15 (by decide) ?_
    refine mk_sayi (y := pU fD fb fs wd R r) (hpv (by omega)).1 ?_
    refine lv_istore_n (lv' := [(2, .int (iI (pU fD fb fs wd R r))), (0, .ref (ad 0)), (1, .int (iI ((r : Nat) : Int)))]) hx hb dX1_pool_19 rfl hl (by decide) rfl (fun ls hl => ?_)
    refine lv_iload_n hx hb dX1_pool_20 rfl (lv_at hl 2 rfl) ?_
    refine mk_if_le (tgt := 38) hx hb dX1_pool_21 (by decide) (by omega) (fun c_21 => ?_) (fun c_21 => ?_)
    · skip
      exact absurd c_21 (by omega)
    · skip
      refine lv_aload_n hx hb dX1_pool_24 rfl (lv_at hl 1 rfl) ?_
      refine mk_get (ci := 1) (C := RX1) (T := TX1) (N := 4) hx hb hts inX1 hown hK hW 0 (by decide) rfl rfl 2 (by decide) fl21 (fun _ h9 => h9) rfl dX1_pool_25 ?_
      refine mk_getN (ci := 3) (C := RX3) (T := TX3) (N := 10) hx hb hts inX3 hown hK hW 4 (by decide) rfl rfl 8 (by decide) fn118 (fun _ h9 => h9) rfl dX1_pool_28 ?_
      refine lv_iload_n hx hb dX1_pool_31 rfl (lv_at hl 2 rfl) ?_
      refine mk_iconst hx hb (1) dX1_pool_32 ?_
      refine mk_isub hx hb dX1_pool_33 ?_
      refine mk_iald hx hb hK hW 13 (by decide) rfl 0 rfl (j := (r - 1)) (by omega) (by omega) (by decide) dX1_pool_34 ?_
      refine lv_goto (tgt := 39) hx hb dX1_pool_35 (by decide) ?_
      refine mk_sayi (y := pC fD fb fs fc wd R r) (hpv (by omega)).2 ?_
      refine lv_istore_n (lv' := [(3, .int (iI (pC fD fb fs fc wd R r))), (2, .int (iI (pU fD fb fs wd R r))), (0, .ref (ad 0)), (1, .int (iI ((r : Nat) : Int)))]) hx hb dX1_pool_39 rfl hl (by decide) rfl (fun ls hl => ?_)
      refine lv_aload_n hx hb dX1_pool_40 rfl (lv_at hl 2 rfl) ?_
      refine mk_get (ci := 1) (C := RX1) (T := TX1) (N := 4) hx hb hts inX1 hown hK hW 0 (by decide) rfl rfl 2 (by decide) fl21 (fun _ h9 => h9) rfl dX1_pool_41 ?_
      refine mk_getN (ci := 3) (C := RX3) (T := TX3) (N := 10) hx hb hts inX3 hown hK hW 4 (by decide) rfl rfl 1 (by decide) fn77 (fun _ h9 => h9) rfl dX1_pool_44 ?_
      refine lv_iload_n hx hb dX1_pool_47 rfl (lv_at hl 3 rfl) ?_
      refine mk_iald hx hb hK hW 6 (by decide) rfl 0 rfl (j := r) rfl (by omega) (by decide) dX1_pool_48 ?_
      refine mk_sayi (y := (fb r)) (hC2 r (by omega)).2.1 ?_
      refine lv_aload_n hx hb dX1_pool_49 rfl (lv_at hl 2 rfl) ?_
      refine mk_get (ci := 1) (C := RX1) (T := TX1) (N := 4) hx hb hts inX1 hown hK hW 0 (by decide) rfl rfl 2 (by decide) fl21 (fun _ h9 => h9) rfl dX1_pool_50 ?_
      refine mk_getN (ci := 3) (C := RX3) (T := TX3) (N := 10) hx hb hts inX3 hown hK hW 4 (by decide) rfl rfl 2 (by decide) fn103 (fun _ h9 => h9) rfl dX1_pool_53 ?_
      refine lv_iload_n hx hb dX1_pool_56 rfl (lv_at hl 3 rfl) ?_
      refine mk_iald hx hb hK hW 7 (by decide) rfl 0 rfl (j := r) rfl (by omega) (by decide) dX1_pool_57 ?_
      refine mk_isub hx hb dX1_pool_58 ?_
      refine mk_sayi (y := (blw fD fb fs wd R r)) (by rw [hg]; omega) ?_
      refine lv_istore (lv' := [(4, .int (iI (blw fD fb fs wd R r))), (3, .int (iI (pC fD fb fs fc wd R r))), (2, .int (iI (pU fD fb fs wd R r))), (0, .ref (ad 0)), (1, .int (iI ((r : Nat) : Int)))]) hx hb dX1_pool_59 hl (by decide) rfl (fun ls hl => ?_)
      refine lv_iload_n hx hb dX1_pool_61 rfl (lv_at hl 2 rfl) ?_
      refine lv_iload hx hb dX1_pool_62 (lv_at hl 0 rfl) ?_
      refine mk_iadd hx hb dX1_pool_64 ?_
      refine lv_istore_n (lv' := [(2, .int (iI ((pU fD fb fs wd R r) + (blw fD fb fs wd R r)))), (4, .int (iI (blw fD fb fs wd R r))), (3, .int (iI (pC fD fb fs fc wd R r))), (0, .ref (ad 0)), (1, .int (iI ((r : Nat) : Int)))]) hx hb dX1_pool_65 rfl hl (by decide) rfl (fun ls hl => ?_)
      refine lv_iload_n hx hb dX1_pool_66 rfl (lv_at hl 2 rfl) ?_
      refine lv_aload_n hx hb dX1_pool_67 rfl (lv_at hl 3 rfl) ?_
      refine lv_iload_n hx hb dX1_pool_68 rfl (lv_at hl 4 rfl) ?_
      refine lv_iload hx hb dX1_pool_69 (lv_at hl 1 rfl) ?_
      refine mk_goI (va_runV (As := [.int (iI ((r : Nat) : Int)), .int (iI (blw fD fb fs wd R r))]) (rest := [.int (iI (pC fD fb fs fc wd R r))]) ⟨hx, hb, hml, hown, hts⟩ (c_X1_takeBought l cg D ad st r (blw fD fb fs wd R r) (by omega) (by rw [hg]; omega) hB (by rw [hg, (hC2 r hrR).2.1]; omega) (by rw [(hC2 r hrR).2.1]; omega) (by rw [(hC2 r hrR).2.2.1]; omega)) (cwV 2 hts gX1_pool_X1_takeBought rfl rfl rfl (by decide +kernel) ⟨Nat.le_of_ble_eq_true rfl, Nat.le_of_ble_eq_true rfl⟩) (mk_preV hK hN hW 0 (by decide) rfl rfl rfl) rfl rfl hl.1 rfl (lv_room (Nat.le_of_ble_eq_true rfl)) dX1_pool_71 ⟨Nat.zero_le _, Nat.zero_le _⟩) hW (fun z1 st10 hp71 H locs hW => ?_)
      obtain ⟨hz1, e1⟩ := hp71
      have hz1r : prt (st 8 r) (st 6 r) (st 7 r) (blw fD fb fs wd R r) = prt (fc r) (fb r) (fb r - blw fD fb fs wd R r) (blw fD fb fs wd R r) := by rw [(hC2 r hrR).2.2.1, (hC2 r hrR).2.1, hg]
      refine mk_iadd hx hb dX1_pool_74 ?_
      refine mk_sayi (y := (hC fD fb fs fc wd R r)) (by rw [hz1, hz1r]; rfl) ?_
      refine lv_istore_n (lv' := [(3, .int (iI (hC fD fb fs fc wd R r))), (2, .int (iI ((pU fD fb fs wd R r) + (blw fD fb fs wd R r)))), (4, .int (iI (blw fD fb fs wd R r))), (0, .ref (ad 0)), (1, .int (iI ((r : Nat) : Int)))]) hx hb dX1_pool_75 rfl hl (by decide) rfl (fun ls hl => ?_)
      refine lv_aload_n hx hb dX1_pool_76 rfl (lv_at hl 3 rfl) ?_
      refine mk_get (ci := 1) (C := RX1) (T := TX1) (N := 4) hx hb hts inX1 hown hK hW 0 (by decide) rfl rfl 2 (by decide) fl21 (fun _ h9 => h9) rfl dX1_pool_77 ?_
      refine mk_getN (ci := 3) (C := RX3) (T := TX3) (N := 10) hx hb hts inX3 hown hK hW 4 (by decide) rfl rfl 4 (by decide) fn80 (fun _ h9 => h9) rfl dX1_pool_80 ?_
      refine lv_iload_n hx hb dX1_pool_83 rfl (lv_at hl 4 rfl) ?_
      refine mk_iald hx hb hK hW 9 (by decide) rfl 0 rfl (j := r) rfl (by omega) (by decide) dX1_pool_84 ?_
      refine mk_sayi (y := (st 9 r)) (by rw [show st10 9 = st 9 from by rw [e1]; exact stC_ne (by decide)]) ?_
      refine mk_sayi (y := (fs r)) (hC2 r (by omega)).2.2.2.1 ?_
      refine lv_aload_n hx hb dX1_pool_85 rfl (lv_at hl 3 rfl) ?_
      refine mk_get (ci := 1) (C := RX1) (T := TX1) (N := 4) hx hb hts inX1 hown hK hW 0 (by decide) rfl rfl 2 (by decide) fl21 (fun _ h9 => h9) rfl dX1_pool_86 ?_
      refine mk_getN (ci := 3) (C := RX3) (T := TX3) (N := 10) hx hb hts inX3 hown hK hW 4 (by decide) rfl rfl 5 (by decide) fn106 (fun _ h9 => h9) rfl dX1_pool_89 ?_
      refine lv_iload_n hx hb dX1_pool_92 rfl (lv_at hl 4 rfl) ?_
      refine mk_iald hx hb hK hW 10 (by decide) rfl 0 rfl (j := r) rfl (by omega) (by decide) dX1_pool_93 ?_
      refine mk_sayi (y := (st 10 r)) (by rw [show st10 10 = st 10 from by rw [e1]; exact stC_ne (by decide)]) ?_
      refine mk_isub hx hb dX1_pool_94 ?_
      refine mk_sayi (y := (slft fD fb fs wd r R)) (by rw [hsg]; omega) ?_
      refine lv_istore (lv' := [(5, .int (iI (slft fD fb fs wd r R))), (3, .int (iI (hC fD fb fs fc wd R r))), (2, .int (iI ((pU fD fb fs wd R r) + (blw fD fb fs wd R r)))), (4, .int (iI (blw fD fb fs wd R r))), (0, .ref (ad 0)), (1, .int (iI ((r : Nat) : Int)))]) hx hb dX1_pool_95 hl (by decide) rfl (fun ls hl => ?_)
      refine lv_iload hx hb dX1_pool_97 (lv_at hl 0 rfl) ?_
      refine mk_if_le (tgt := 151) hx hb dX1_pool_99 (by decide) (by omega) (fun c_99 => ?_) (fun c_99 => ?_)
      · skip
        have eM : mPool fD fb fs fc fp wd R r = [] := if_neg (by omega)
        have hPC : pC fD fb fs fc wd R (r + 1) = hC fD fb fs fc wd R r := by rw [pC_s, if_neg (by omega)]; omega
        refine lv_aload_n hx hb dX1_pool_151 rfl (lv_at hl 4 rfl) ?_
        refine mk_get (ci := 1) (C := RX1) (T := TX1) (N := 4) hx hb hts inX1 hown hK hW 0 (by decide) rfl rfl 2 (by decide) fl21 (fun _ h9 => h9) rfl dX1_pool_152 ?_
        refine mk_getN (ci := 3) (C := RX3) (T := TX3) (N := 10) hx hb hts inX3 hown hK hW 4 (by decide) rfl rfl 7 (by decide) fn115 (fun _ h9 => h9) rfl dX1_pool_155 ?_
        refine lv_iload_n hx hb dX1_pool_158 rfl (lv_at hl 5 rfl) ?_
        refine lv_iload_n hx hb dX1_pool_159 rfl (lv_at hl 2 rfl) ?_
        refine mk_iast hx hb hK hW 12 (by decide) (fun _ => rfl) 0 rfl (j := r) rfl (by omega) (by decide) dX1_pool_160 (fun H locs hW => ?_)
        obtain ⟨st11, est11⟩ : ∃ z, z = stC st10 12 (fnU (st10 12) r ((pU fD fb fs wd R r) + (blw fD fb fs wd R r))) := ⟨_, rfl⟩
        rw [← est11] at hW
        refine lv_aload_n hx hb dX1_pool_161 rfl (lv_at hl 4 rfl) ?_
        refine mk_get (ci := 1) (C := RX1) (T := TX1) (N := 4) hx hb hts inX1 hown hK hW 0 (by decide) rfl rfl 2 (by decide) fl21 (fun _ h9 => h9) rfl dX1_pool_162 ?_
        refine mk_getN (ci := 3) (C := RX3) (T := TX3) (N := 10) hx hb hts inX3 hown hK hW 4 (by decide) rfl rfl 8 (by decide) fn118 (fun _ h9 => h9) rfl dX1_pool_165 ?_
        refine lv_iload_n hx hb dX1_pool_168 rfl (lv_at hl 5 rfl) ?_
        refine lv_iload_n hx hb dX1_pool_169 rfl (lv_at hl 1 rfl) ?_
        refine mk_iast hx hb hK hW 13 (by decide) (fun _ => rfl) 0 rfl (j := r) rfl (by omega) (by decide) dX1_pool_170 (fun H locs hW => ?_)
        obtain ⟨st12, est12⟩ : ∃ z, z = stC st11 13 (fnU (st11 13) r (hC fD fb fs fc wd R r)) := ⟨_, rfl⟩
        rw [← est12] at hW
        exact mk_retV hx hb hr hlocks hW (by
          have hv7 : st12 7 = fnU (st 7) r (st 7 r + blw fD fb fs wd R r) := by rw [est12, est11, e1]; rfl
          have hv10 : st12 10 = st 10 := by rw [est12, est11, e1]; rfl
          have hv12 : st12 12 = fnU (st 12) r (pU fD fb fs wd R r + blw fD fb fs wd R r) := by rw [est12, est11, e1]; rfl
          have hv13 : st12 13 = fnU (st 13) r (hC fD fb fs fc wd R r) := by rw [est12, est11, e1]; rfl
          have hfr : Fr [7, 12, 13] st st12 := by rw [est12, est11, e1]; exact ((Fr.rf.st (by decide)).st (by decide)).st (by decide)
          refine ⟨hfr.up (by decide), by rw [hv12, fnU_eq, hU4]; omega, by rw [hv13, fnU_eq, hPC], fun i hi => ?_, by rw [eM, List.append_nil]; exact hA.fr hfr (by decide)⟩
          rw [hv7, hv10, hv12, hv13, fnU_ne hi, fnU_ne hi, fnU_ne hi]; exact ⟨rfl, rfl, rfl, rfl⟩) dX1_pool_171
      · skip
        have eM : mPool fD fb fs fc fp wd R r = [(r, -1, 2, slft fD fb fs wd r R, tkC fD fb fs fc wd R r, prt (fp r) (fs r) (fs r - slft fD fb fs wd r R) (slft fD fb fs wd r R))] := if_pos (by omega)
        rw [eM, List.length_append, List.length_singleton] at hlen
        have hPC : pC fD fb fs fc wd R (r + 1) = hC fD fb fs fc wd R r - tkC fD fb fs fc wd R r := by rw [pC_s, if_pos (by omega)]
        refine lv_iload_n hx hb dX1_pool_102 rfl (lv_at hl 1 rfl) ?_
        refine mk_iconst hx hb (0) dX1_pool_103 ?_
        refine lv_iload hx hb dX1_pool_104 (lv_at hl 0 rfl) ?_
        refine lv_iload_n hx hb dX1_pool_106 rfl (lv_at hl 2 rfl) ?_
        refine mk_goI (va_runSN (As := [.int (iI (hC fD fb fs fc wd R r)), .int (iI 0), .int (iI (slft fD fb fs wd r R)), .int (iI ((pU fD fb fs wd R r) + (blw fD fb fs wd R r)))]) (rest := []) ⟨hx, hb, hml, hown, hts⟩ (c_X5_part l cg D ad st10 (hC fD fb fs fc wd R r) 0 (slft fD fb fs wd r R) (pU fD fb fs wd R r + blw fD fb fs wd R r) (by omega) (by omega) (by omega) (by omega)) ⟨va_cnB 4 hts gX1_pool_X5_part_n91 rfl rfl rfl nm91 niX5 (by decide +kernel) ⟨Nat.le_of_ble_eq_true rfl, Nat.le_of_ble_eq_true rfl⟩, ns91, trivial⟩ (mk_preS hK hN hW) rfl rfl hl.1 rfl (lv_room (Nat.le_of_ble_eq_true rfl)) dX1_pool_107 ⟨Nat.zero_le _, Nat.zero_le _⟩) hW (fun z2 st13 hp107 H locs hW => ?_)
        obtain ⟨est13, hz2⟩ := hp107
        rw [est13] at hW
        refine mk_sayi (y := tkC fD fb fs fc wd R r) (by rw [hz2]; unfold tkC; simp) ?_
        refine lv_istore (lv' := [(6, .int (iI (tkC fD fb fs fc wd R r))), (5, .int (iI (slft fD fb fs wd r R))), (3, .int (iI (hC fD fb fs fc wd R r))), (2, .int (iI ((pU fD fb fs wd R r) + (blw fD fb fs wd R r)))), (4, .int (iI (blw fD fb fs wd R r))), (0, .ref (ad 0)), (1, .int (iI ((r : Nat) : Int)))]) hx hb dX1_pool_110 hl (by decide) rfl (fun ls hl => ?_)
        refine lv_iload_n hx hb dX1_pool_112 rfl (lv_at hl 3 rfl) ?_
        refine lv_iload hx hb dX1_pool_113 (lv_at hl 1 rfl) ?_
        refine mk_isub hx hb dX1_pool_115 ?_
        refine lv_istore_n (lv' := [(2, .int (iI (((pU fD fb fs wd R r) + (blw fD fb fs wd R r)) - (slft fD fb fs wd r R)))), (6, .int (iI (tkC fD fb fs fc wd R r))), (5, .int (iI (slft fD fb fs wd r R))), (3, .int (iI (hC fD fb fs fc wd R r))), (4, .int (iI (blw fD fb fs wd R r))), (0, .ref (ad 0)), (1, .int (iI ((r : Nat) : Int)))]) hx hb dX1_pool_116 rfl hl (by decide) rfl (fun ls hl => ?_)
        refine lv_iload_n hx hb dX1_pool_117 rfl (lv_at hl 3 rfl) ?_
        refine lv_iload hx hb dX1_pool_118 (lv_at hl 1 rfl) ?_
        refine mk_isub hx hb dX1_pool_120 ?_
        refine lv_istore_n (lv' := [(3, .int (iI ((hC fD fb fs fc wd R r) - (tkC fD fb fs fc wd R r)))), (2, .int (iI (((pU fD fb fs wd R r) + (blw fD fb fs wd R r)) - (slft fD fb fs wd r R)))), (6, .int (iI (tkC fD fb fs fc wd R r))), (5, .int (iI (slft fD fb fs wd r R))), (4, .int (iI (blw fD fb fs wd R r))), (0, .ref (ad 0)), (1, .int (iI ((r : Nat) : Int)))]) hx hb dX1_pool_121 rfl hl (by decide) rfl (fun ls hl => ?_)
        refine lv_aload_n hx hb dX1_pool_122 rfl (lv_at hl 5 rfl) ?_
        refine mk_get (ci := 1) (C := RX1) (T := TX1) (N := 4) hx hb hts inX1 hown hK hW 0 (by decide) rfl rfl 3 (by decide) fl28 (fun _ h9 => h9) rfl dX1_pool_123 ?_
        refine mk_iconst hx hb (2) dX1_pool_126 ?_
        refine lv_aload_n hx hb dX1_pool_127 rfl (lv_at hl 5 rfl) ?_
        refine mk_get (ci := 1) (C := RX1) (T := TX1) (N := 4) hx hb hts inX1 hown hK hW 0 (by decide) rfl rfl 2 (by decide) fl21 (fun _ h9 => h9) rfl dX1_pool_128 ?_
        refine mk_getN (ci := 3) (C := RX3) (T := TX3) (N := 10) hx hb hts inX3 hown hK hW 4 (by decide) rfl rfl 0 (by decide) fn98 (fun _ h9 => h9) rfl dX1_pool_131 ?_
        refine lv_iload_n hx hb dX1_pool_134 rfl (lv_at hl 6 rfl) ?_
        refine mk_iald hx hb hK hW 5 (by decide) rfl 0 rfl (j := r) rfl (by omega) (by decide) dX1_pool_135 ?_
        refine mk_sayi (y := (st 5 r)) (by rw [show st10 5 = st 5 from by rw [e1]; exact stC_ne (by decide)]) ?_
        refine mk_sayi (y := (fD r)) (hC2 r (by omega)).1 ?_
        refine mk_iconst hx hb (-1) dX1_pool_136 ?_
        refine lv_iload hx hb dX1_pool_137 (lv_at hl 3 rfl) ?_
        refine lv_iload hx hb dX1_pool_139 (lv_at hl 2 rfl) ?_
        refine lv_aload_n hx hb dX1_pool_141 rfl (lv_at hl 5 rfl) ?_
        refine lv_iload_n hx hb dX1_pool_142 rfl (lv_at hl 6 rfl) ?_
        refine lv_iload hx hb dX1_pool_143 (lv_at hl 3 rfl) ?_
        refine mk_goI (va_runV (As := [.int (iI ((r : Nat) : Int)), .int (iI (slft fD fb fs wd r R))]) (rest := [.int (iI (tkC fD fb fs fc wd R r)), .int (iI (slft fD fb fs wd r R)), .int (iI (-1 : Int)), .int (iI (fD r)), .int (iI 2), .ref (ad 14)]) ⟨hx, hb, hml, hown, hts⟩ (c_X1_takeSold l cg D ad st10 r (slft fD fb fs wd r R) (by omega) (by rw [e1]; show 0 ≤ st 10 r; omega) (by omega) (by rw [e1]; show st 10 r + _ ≤ st 9 r; rw [(hC2 r hrR).2.2.2.1]; omega) (by rw [e1]; show st 9 r < _; rw [(hC2 r hrR).2.2.2.1]; omega) (by rw [e1]; show 0 ≤ st 11 r ∧ st 11 r < _; rw [(hC2 r hrR).2.2.2.2]; omega)) (cwV 2 hts gX1_pool_X1_takeSold rfl rfl rfl (by decide +kernel) ⟨Nat.le_of_ble_eq_true rfl, Nat.le_of_ble_eq_true rfl⟩) (mk_preV hK hN hW 0 (by decide) rfl rfl rfl) rfl rfl hl.1 rfl (lv_room (Nat.le_of_ble_eq_true rfl)) dX1_pool_145 ⟨Nat.zero_le _, Nat.zero_le _⟩) hW (fun z3 st14 hp145 H locs hW => ?_)
        obtain ⟨hz3, e2⟩ := hp145
        refine mk_goV (va_runV (As := [.int (iI 2), .int (iI (fD r)), .int (iI (-1 : Int)), .int (iI (slft fD fb fs wd r R)), .int (iI (tkC fD fb fs fc wd R r)), .int (iI z3)]) (rest := []) ⟨hx, hb, hml, hown, hts⟩ (c_X2_add l cg D ad st14 2 (fD r) (-1) (slft fD fb fs wd r R) (tkC fD fb fs fc wd R r) z3 ll.length (by rw [e2, e1]; exact hA.1) (by omega)) (cwV 6 hts gX1_pool_X2_add rfl rfl rfl (by decide +kernel) ⟨Nat.le_of_ble_eq_true rfl, Nat.le_of_ble_eq_true rfl⟩) (mk_preV hK hN hW 14 (by decide) rfl rfl rfl) rfl rfl hl.1 rfl (lv_room (Nat.le_of_ble_eq_true rfl)) dX1_pool_148 ⟨Nat.zero_le _, Nat.zero_le _⟩) hW (fun st15 hp148 H locs hW => ?_)
        
        refine lv_aload_n hx hb dX1_pool_151 rfl (lv_at hl 5 rfl) ?_
        refine mk_get (ci := 1) (C := RX1) (T := TX1) (N := 4) hx hb hts inX1 hown hK hW 0 (by decide) rfl rfl 2 (by decide) fl21 (fun _ h9 => h9) rfl dX1_pool_152 ?_
        refine mk_getN (ci := 3) (C := RX3) (T := TX3) (N := 10) hx hb hts inX3 hown hK hW 4 (by decide) rfl rfl 7 (by decide) fn115 (fun _ h9 => h9) rfl dX1_pool_155 ?_
        refine lv_iload_n hx hb dX1_pool_158 rfl (lv_at hl 6 rfl) ?_
        refine lv_iload_n hx hb dX1_pool_159 rfl (lv_at hl 1 rfl) ?_
        refine mk_iast hx hb hK hW 12 (by decide) (fun _ => rfl) 0 rfl (j := r) rfl (by omega) (by decide) dX1_pool_160 (fun H locs hW => ?_)
        obtain ⟨st17, est17⟩ : ∃ z, z = stC st15 12 (fnU (st15 12) r (((pU fD fb fs wd R r) + (blw fD fb fs wd R r)) - (slft fD fb fs wd r R))) := ⟨_, rfl⟩
        rw [← est17] at hW
        refine lv_aload_n hx hb dX1_pool_161 rfl (lv_at hl 5 rfl) ?_
        refine mk_get (ci := 1) (C := RX1) (T := TX1) (N := 4) hx hb hts inX1 hown hK hW 0 (by decide) rfl rfl 2 (by decide) fl21 (fun _ h9 => h9) rfl dX1_pool_162 ?_
        refine mk_getN (ci := 3) (C := RX3) (T := TX3) (N := 10) hx hb hts inX3 hown hK hW 4 (by decide) rfl rfl 8 (by decide) fn118 (fun _ h9 => h9) rfl dX1_pool_165 ?_
        refine lv_iload_n hx hb dX1_pool_168 rfl (lv_at hl 6 rfl) ?_
        refine lv_iload_n hx hb dX1_pool_169 rfl (lv_at hl 0 rfl) ?_
        refine mk_iast hx hb hK hW 13 (by decide) (fun _ => rfl) 0 rfl (j := r) rfl (by omega) (by decide) dX1_pool_170 (fun H locs hW => ?_)
        obtain ⟨st18, est18⟩ : ∃ z, z = stC st17 13 (fnU (st17 13) r ((hC fD fb fs fc wd R r) - (tkC fD fb fs fc wd R r))) := ⟨_, rfl⟩
        rw [← est18] at hW
        exact mk_retV hx hb hr hlocks hW (by
          have fA := addM_fr st14 ll.length 2 (fD r) (-1) (slft fD fb fs wd r R) (tkC fD fb fs fc wd R r) z3
          have k7 : st15 7 = st14 7 := by rw [hp148]; exact fA 7 (by decide)
          have k10 : st15 10 = st14 10 := by rw [hp148]; exact fA 10 (by decide)
          have k12 : st15 12 = st14 12 := by rw [hp148]; exact fA 12 (by decide)
          have k13 : st15 13 = st14 13 := by rw [hp148]; exact fA 13 (by decide)
          have hv7 : st18 7 = fnU (st 7) r (st 7 r + blw fD fb fs wd R r) := by rw [est18, est17]; show st15 7 = _; rw [k7, e2, e1]; rfl
          have hv10 : st18 10 = fnU (st 10) r (st 10 r + slft fD fb fs wd r R) := by rw [est18, est17]; show st15 10 = _; rw [k10, e2, e1]; rfl
          have hv12 : st18 12 = fnU (st 12) r (pU fD fb fs wd R r + blw fD fb fs wd R r - slft fD fb fs wd r R) := by rw [est18, est17]; show fnU (st15 12) _ _ = _; rw [k12, e2, e1]; rfl
          have hv13 : st18 13 = fnU (st 13) r (hC fD fb fs fc wd R r - tkC fD fb fs fc wd R r) := by rw [est18, est17]; show fnU (st15 13) _ _ = _; rw [k13, e2, e1]; rfl
          have hq2 : Fr [7, 10] st st14 := by rw [e2, e1]; exact (Fr.rf.st (by decide)).st (by decide)
          have hfr : Fr [7, 10, 12, 13, 14, 15, 16, 17, 18, 19, 20] st st18 := by
            rw [est18, est17, hp148]
            exact (((hq2.tr fA [7, 10, 12, 13, 14, 15, 16, 17, 18, 19, 20] (by decide)).st (by decide)).st (by decide))
          have hA3 : AL st18 fD (ll ++ mPool fD fb fs fc fp wd R r) := by
            have h8 : AL st14 fD ll := hA.fr hq2 (by decide)
            have h9 := h8.add (k := 2) (so := fD r) (bo := -1) (u := slft fD fb fs wd r R) (c := tkC fD fb fs fc wd R r) (p := z3) (r, -1, 2, slft fD fb fs wd r R, tkC fD fb fs fc wd R r, prt (fp r) (fs r) (fs r - slft fD fb fs wd r R) (slft fD fb fs wd r R)) rfl rfl (by rfl) rfl rfl (by
              rw [hz3, e1]
              show prt (st 11 r) (st 9 r) (st 10 r) _ = _
              rw [(hC2 r hrR).2.2.2.2, (hC2 r hrR).2.2.2.1, hsg])
            rw [eM]
            exact h9.fr (S := [12, 13]) (by rw [est18, est17, hp148]; exact (Fr.rf.st (by decide)).st (by decide)) (by decide)
          refine ⟨hfr, by rw [hv12, fnU_eq, hU4], by rw [hv13, fnU_eq, hPC], fun i hi => ?_, hA3⟩
          rw [hv7, hv10, hv12, hv13, fnU_ne hi, fnU_ne hi, fnU_ne hi, fnU_ne hi]; exact ⟨rfl, rfl, rfl, rfl⟩) dX1_pool_171

