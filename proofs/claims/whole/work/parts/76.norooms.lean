set_option maxHeartbeats 4000000 in
set_option maxRecDepth 100000 in
theorem c_X6_poolUnits_noq (l : Launch) (cg : Nat → ClassId) (D : va_G) (ad : Nat → Nat) (st : Nat → Nat → Int) (a d : Int) (hB : BV st) (ha : -2147483648 ≤ a ∧ a < 2147483648) (hd : -2147483648 ≤ d ∧ d < 2147483648) (hno : ¬ ((0 ≤ a ∧ a ≤ 2) ∧ 0 ≤ d ∧ d ≤ 1824)) : MI l yX6_poolUnits wsX6_poolUnits ({ frames := 3, cells := 0, slots := 0, locals := 79 }) D vwCl (TY cg) 26 (celM cg) ad st [.ref (ad 0), .int (iI a), .int (iI d)] (fun z st1 => MW st st1 ∧ st1 0 29 = 1) := by
  refine mk_open (cc := cX6_poolUnits) (maxL := 4) (ret := (some .int)) (by decide) rfl (Nat.le_of_ble_eq_true rfl) ?_
  intro p e s m args below meth c hx hb hml hr hown hts hlocks hK hN hargs ls hl hW
  have hown : s.vm.findClass RX6 = some m.cls := hown
  have hl : lv_has ls 4 [(0, .ref (ad 0)), (1, .int (iI a)), (2, .int (iI d))] := hl
  refine lv_aload_n hx hb dX6_poolUnits_0 rfl (lv_at hl 0 rfl) ?_
  refine lv_iload_n hx hb dX6_poolUnits_1 rfl (lv_at hl 1 rfl) ?_
  refine lv_iload_n hx hb dX6_poolUnits_2 rfl (lv_at hl 2 rfl) ?_
  refine mk_goI (va_runV (As := [.int (iI a), .int (iI d)]) (rest := []) ⟨hx, hb, hml, hown, hts⟩ (c_X6_asks l cg D ad st a d (by omega) (by omega)) (cwV 2 hts gX6_poolUnits_X6_asks rfl rfl rfl (by decide +kernel) ⟨Nat.le_of_ble_eq_true rfl, Nat.le_of_ble_eq_true rfl⟩) (mk_preV hK hN hW 0 (by decide) rfl rfl rfl) rfl rfl hl.1 rfl (lv_room (Nat.le_of_ble_eq_true rfl)) dX6_poolUnits_3 ⟨Nat.zero_le _, Nat.zero_le _⟩) hW (fun z st1 hp3 H locs hW => ?_)
  obtain ⟨est1, hz⟩ := hp3
  have hM1 : MW st st1 := by rw [est1]; exact MW.thr st _
  have h29 : st1 0 29 = 1 - z := by rw [est1]; rfl
  have hB1 : BV st1 := hB.mw hM1
  refine mk_if_ne (tgt := 11) hx hb dX6_poolUnits_6 (by decide) (by omega) (fun c_6 => ?_) (fun c_6 => ?_)
  · skip
    omega
  · skip
    refine mk_iconst hx hb (0) dX6_poolUnits_9 ?_
    exact mk_retI hx hb hr hlocks hW ⟨hM1, by omega⟩ dX6_poolUnits_10

set_option maxHeartbeats 4000000 in
set_option maxRecDepth 100000 in
theorem c_X6_poolCost_noq (l : Launch) (cg : Nat → ClassId) (D : va_G) (ad : Nat → Nat) (st : Nat → Nat → Int) (a d : Int) (hB : BV st) (ha : -2147483648 ≤ a ∧ a < 2147483648) (hd : -2147483648 ≤ d ∧ d < 2147483648) (hno : ¬ ((0 ≤ a ∧ a ≤ 2) ∧ 0 ≤ d ∧ d ≤ 1824)) : MI l yX6_poolCost wsX6_poolCost ({ frames := 3, cells := 0, slots := 0, locals := 79 }) D vwCl (TY cg) 26 (celM cg) ad st [.ref (ad 0), .int (iI a), .int (iI d)] (fun z st1 => MW st st1 ∧ st1 0 29 = 1) := by
  refine mk_open (cc := cX6_poolCost) (maxL := 4) (ret := (some .int)) (by decide) rfl (Nat.le_of_ble_eq_true rfl) ?_
  intro p e s m args below meth c hx hb hml hr hown hts hlocks hK hN hargs ls hl hW
  have hown : s.vm.findClass RX6 = some m.cls := hown
  have hl : lv_has ls 4 [(0, .ref (ad 0)), (1, .int (iI a)), (2, .int (iI d))] := hl
  refine lv_aload_n hx hb dX6_poolCost_0 rfl (lv_at hl 0 rfl) ?_
  refine lv_iload_n hx hb dX6_poolCost_1 rfl (lv_at hl 1 rfl) ?_
  refine lv_iload_n hx hb dX6_poolCost_2 rfl (lv_at hl 2 rfl) ?_
  refine mk_goI (va_runV (As := [.int (iI a), .int (iI d)]) (rest := []) ⟨hx, hb, hml, hown, hts⟩ (c_X6_asks l cg D ad st a d (by omega) (by omega)) (cwV 2 hts gX6_poolCost_X6_asks rfl rfl rfl (by decide +kernel) ⟨Nat.le_of_ble_eq_true rfl, Nat.le_of_ble_eq_true rfl⟩) (mk_preV hK hN hW 0 (by decide) rfl rfl rfl) rfl rfl hl.1 rfl (lv_room (Nat.le_of_ble_eq_true rfl)) dX6_poolCost_3 ⟨Nat.zero_le _, Nat.zero_le _⟩) hW (fun z st1 hp3 H locs hW => ?_)
  obtain ⟨est1, hz⟩ := hp3
  have hM1 : MW st st1 := by rw [est1]; exact MW.thr st _
  have h29 : st1 0 29 = 1 - z := by rw [est1]; rfl
  have hB1 : BV st1 := hB.mw hM1
  refine mk_if_ne (tgt := 11) hx hb dX6_poolCost_6 (by decide) (by omega) (fun c_6 => ?_) (fun c_6 => ?_)
  · skip
    omega
  · skip
    refine mk_iconst hx hb (0) dX6_poolCost_9 ?_
    exact mk_retI hx hb hr hlocks hW ⟨hM1, by omega⟩ dX6_poolCost_10

set_option maxHeartbeats 4000000 in
set_option maxRecDepth 100000 in
theorem c_X6_costMatched_noq (l : Launch) (cg : Nat → ClassId) (D : va_G) (ad : Nat → Nat) (st : Nat → Nat → Int) (a : Int) (hB : BV st) (ha : -2147483648 ≤ a ∧ a < 2147483648) (hno : ¬ (0 ≤ a ∧ a ≤ 2)) : MI l yX6_costMatched wsX6_costMatched ({ frames := 3, cells := 0, slots := 0, locals := 79 }) D vwCl (TY cg) 26 (celM cg) ad st [.ref (ad 0), .int (iI a)] (fun z st1 => MW st st1 ∧ st1 0 29 = 1) := by
  refine mk_open (cc := cX6_costMatched) (maxL := 5) (ret := (some .int)) (by decide) rfl (Nat.le_of_ble_eq_true rfl) ?_
  intro p e s m args below meth c hx hb hml hr hown hts hlocks hK hN hargs ls hl hW
  have hown : s.vm.findClass RX6 = some m.cls := hown
  have hl : lv_has ls 5 [(0, .ref (ad 0)), (1, .int (iI a))] := hl
  have inX6 : ∀ w ∈ wsX60, w ∈ wsX6_costMatched := by decide +kernel
  have fl91 := hts (.fieldLink RX6 91 "GainsReckonerModel" "thrown" "I") (by decide +kernel)
  refine lv_aload_n hx hb dX6_costMatched_0 rfl (lv_at hl 0 rfl) ?_
  refine lv_iload_n hx hb dX6_costMatched_1 rfl (lv_at hl 1 rfl) ?_
  refine mk_goI (va_runS (As := [.int (iI a)]) (rest := [.ref (ad 0)]) ⟨hx, hb, hml, hown, hts⟩ (c_X6_isShare l cg D ad st a (by omega)) (cwS 1 hts gX6_costMatched_X6_isShare rfl rfl rfl (by decide +kernel) ⟨Nat.le_of_ble_eq_true rfl, Nat.le_of_ble_eq_true rfl⟩) (mk_preS hK hN hW) rfl rfl hl.1 rfl (lv_room (Nat.le_of_ble_eq_true rfl)) dX6_costMatched_2 ⟨Nat.zero_le _, Nat.zero_le _⟩) hW (fun z st1 hp2 H locs hW => ?_)
  obtain ⟨est1, hz⟩ := hp2
  rw [est1] at hW
  refine mk_if_eq (tgt := 12) hx hb dX6_costMatched_5 (by decide) (by omega) (fun c_5 => ?_) (fun c_5 => ?_)
  · skip
    refine mk_iconst hx hb (1) dX6_costMatched_12 ?_
    refine mk_put (ci := 6) (C := RX6) (T := TX6) (N := 30) hx hb hts inX6 tyX6 tyX6_ok nmX6 hown hK hW 0 (by decide) rfl rfl 29 (by decide) fl91 (fun _ h9 => h9) rfl (by decide +kernel) (Nat.le_of_ble_eq_true rfl) rfl dX6_costMatched_13 (fun H locs hW => ?_)
    obtain ⟨st2, est2⟩ : ∃ z, z = stC st 0 (fnU (st 0) 29 1) := ⟨_, rfl⟩
    rw [← est2] at hW
    have hM1 : MW st st2 := by rw [est2]; exact MW.thr st _
    have hB1 : BV st2 := hB.mw hM1
    have h29 : st2 0 29 = 1 := by rw [est2]; rfl
    refine lv_aload_n hx hb dX6_costMatched_16 rfl (lv_at hl 0 rfl) ?_
    refine mk_get (ci := 6) (C := RX6) (T := TX6) (N := 30) hx hb hts inX6 hown hK hW 0 (by decide) rfl rfl 29 (by decide) fl91 (fun _ h9 => h9) rfl dX6_costMatched_17 ?_
    refine mk_sayi (y := 1) h29 ?_
    refine mk_if_le (tgt := 25) hx hb dX6_costMatched_20 (by decide) (by omega) (fun c_20 => ?_) (fun c_20 => ?_)
    · skip
      omega
    · skip
      refine mk_iconst hx hb (0) dX6_costMatched_23 ?_
      exact mk_retI hx hb hr hlocks hW ⟨hM1, h29⟩ dX6_costMatched_24
  · skip
    omega

set_option maxHeartbeats 4000000 in
set_option maxRecDepth 100000 in
theorem c_X6_matches_noq (l : Launch) (cg : Nat → ClassId) (D : va_G) (ad : Nat → Nat) (st : Nat → Nat → Int) (a : Int) (hB : BV st) (ha : -2147483648 ≤ a ∧ a < 2147483648) (hno : ¬ (0 ≤ a ∧ a ≤ 2)) : MI l yX6_matches wsX6_matches ({ frames := 3, cells := 0, slots := 0, locals := 79 }) D vwCl (TY cg) 26 (celM cg) ad st [.ref (ad 0), .int (iI a)] (fun z st1 => MW st st1 ∧ st1 0 29 = 1) := by
  refine mk_open (cc := cX6_matches) (maxL := 2) (ret := (some .int)) (by decide) rfl (Nat.le_of_ble_eq_true rfl) ?_
  intro p e s m args below meth c hx hb hml hr hown hts hlocks hK hN hargs ls hl hW
  have hown : s.vm.findClass RX6 = some m.cls := hown
  have hl : lv_has ls 2 [(0, .ref (ad 0)), (1, .int (iI a))] := hl
  have inX6 : ∀ w ∈ wsX60, w ∈ wsX6_matches := by decide +kernel
  have fl91 := hts (.fieldLink RX6 91 "GainsReckonerModel" "thrown" "I") (by decide +kernel)
  refine lv_aload_n hx hb dX6_matches_0 rfl (lv_at hl 0 rfl) ?_
  refine lv_iload_n hx hb dX6_matches_1 rfl (lv_at hl 1 rfl) ?_
  refine mk_goI (va_runS (As := [.int (iI a)]) (rest := [.ref (ad 0)]) ⟨hx, hb, hml, hown, hts⟩ (c_X6_isShare l cg D ad st a (by omega)) (cwS 1 hts gX6_matches_X6_isShare rfl rfl rfl (by decide +kernel) ⟨Nat.le_of_ble_eq_true rfl, Nat.le_of_ble_eq_true rfl⟩) (mk_preS hK hN hW) rfl rfl hl.1 rfl (lv_room (Nat.le_of_ble_eq_true rfl)) dX6_matches_2 ⟨Nat.zero_le _, Nat.zero_le _⟩) hW (fun z st1 hp2 H locs hW => ?_)
  obtain ⟨est1, hz⟩ := hp2
  rw [est1] at hW
  refine mk_if_eq (tgt := 12) hx hb dX6_matches_5 (by decide) (by omega) (fun c_5 => ?_) (fun c_5 => ?_)
  · skip
    refine mk_iconst hx hb (1) dX6_matches_12 ?_
    refine mk_put (ci := 6) (C := RX6) (T := TX6) (N := 30) hx hb hts inX6 tyX6 tyX6_ok nmX6 hown hK hW 0 (by decide) rfl rfl 29 (by decide) fl91 (fun _ h9 => h9) rfl (by decide +kernel) (Nat.le_of_ble_eq_true rfl) rfl dX6_matches_13 (fun H locs hW => ?_)
    obtain ⟨st2, est2⟩ : ∃ z, z = stC st 0 (fnU (st 0) 29 1) := ⟨_, rfl⟩
    rw [← est2] at hW
    have hM1 : MW st st2 := by rw [est2]; exact MW.thr st _
    have hB1 : BV st2 := hB.mw hM1
    have h29 : st2 0 29 = 1 := by rw [est2]; rfl
    refine lv_aload_n hx hb dX6_matches_16 rfl (lv_at hl 0 rfl) ?_
    refine mk_get (ci := 6) (C := RX6) (T := TX6) (N := 30) hx hb hts inX6 hown hK hW 0 (by decide) rfl rfl 29 (by decide) fl91 (fun _ h9 => h9) rfl dX6_matches_17 ?_
    refine mk_sayi (y := 1) h29 ?_
    refine mk_if_le (tgt := 25) hx hb dX6_matches_20 (by decide) (by omega) (fun c_20 => ?_) (fun c_20 => ?_)
    · skip
      omega
    · skip
      refine mk_iconst hx hb (0) dX6_matches_23 ?_
      exact mk_retI hx hb hr hlocks hW ⟨hM1, h29⟩ dX6_matches_24
  · skip
    omega

set_option maxHeartbeats 4000000 in
set_option maxRecDepth 100000 in
theorem c_X6_kindOf_noq (l : Launch) (cg : Nat → ClassId) (D : va_G) (ad : Nat → Nat) (st : Nat → Nat → Int) (a pl : Int) (hB : BV st) (ha : -2147483648 ≤ a ∧ a < 2147483648) (hno : ¬ (0 ≤ a ∧ a ≤ 2)) : MI l yX6_kindOf wsX6_kindOf ({ frames := 4, cells := 0, slots := 0, locals := 105 }) D vwCl (TY cg) 26 (celM cg) ad st [.ref (ad 0), .int (iI a), .int (iI pl)] (fun z st1 => MW st st1 ∧ st1 0 29 = 1) := by
  refine mk_open (cc := cX6_kindOf) (maxL := 4) (ret := (some .int)) (by decide) rfl (Nat.le_of_ble_eq_true rfl) ?_
  intro p e s m args below meth c hx hb hml hr hown hts hlocks hK hN hargs ls hl hW
  have hown : s.vm.findClass RX6 = some m.cls := hown
  have hl : lv_has ls 4 [(0, .ref (ad 0)), (1, .int (iI a)), (2, .int (iI pl))] := hl
  refine lv_aload_n hx hb dX6_kindOf_0 rfl (lv_at hl 0 rfl) ?_
  refine lv_iload_n hx hb dX6_kindOf_1 rfl (lv_at hl 1 rfl) ?_
  refine lv_iload_n hx hb dX6_kindOf_2 rfl (lv_at hl 2 rfl) ?_
  refine mk_goI (va_runV (As := [.int (iI a), .int (iI pl)]) (rest := []) ⟨hx, hb, hml, hown, hts⟩ (c_X6_found_no l cg D ad st a pl hB ha hno) (cwV 2 hts gX6_kindOf_X6_found rfl rfl rfl (by decide +kernel) ⟨Nat.le_of_ble_eq_true rfl, Nat.le_of_ble_eq_true rfl⟩) (mk_preV hK hN hW 0 (by decide) rfl rfl rfl) rfl rfl hl.1 rfl (lv_room (Nat.le_of_ble_eq_true rfl)) dX6_kindOf_3 ⟨Nat.zero_le _, Nat.zero_le _⟩) hW (fun y st1 hp3 H locs hW => ?_)
  obtain ⟨hM2, h292, ey⟩ := hp3
  refine lv_istore_n (lv' := [(3, .int (iI y)), (0, .ref (ad 0)), (1, .int (iI a)), (2, .int (iI pl))]) hx hb dX6_kindOf_6 rfl hl (by decide) rfl (fun ls hl => ?_)
  refine lv_iload_n hx hb dX6_kindOf_7 rfl (lv_at hl 0 rfl) ?_
  refine mk_if_ge (tgt := 15) hx hb dX6_kindOf_8 (by decide) (by omega) (fun c_8 => ?_) (fun c_8 => ?_)
  · skip
    omega
  · skip
    refine mk_iconst hx hb (0) dX6_kindOf_11 ?_
    refine lv_goto (tgt := 21) hx hb dX6_kindOf_12 (by decide) ?_
    exact mk_retI hx hb hr hlocks hW ⟨hM2, h292⟩ dX6_kindOf_21

set_option maxHeartbeats 4000000 in
set_option maxRecDepth 100000 in
theorem c_X6_saleDay_noq (l : Launch) (cg : Nat → ClassId) (D : va_G) (ad : Nat → Nat) (st : Nat → Nat → Int) (a pl : Int) (hB : BV st) (ha : -2147483648 ≤ a ∧ a < 2147483648) (hno : ¬ (0 ≤ a ∧ a ≤ 2)) : MI l yX6_saleDay wsX6_saleDay ({ frames := 4, cells := 0, slots := 0, locals := 105 }) D vwCl (TY cg) 26 (celM cg) ad st [.ref (ad 0), .int (iI a), .int (iI pl)] (fun z st1 => MW st st1 ∧ st1 0 29 = 1) := by
  refine mk_open (cc := cX6_saleDay) (maxL := 4) (ret := (some .int)) (by decide) rfl (Nat.le_of_ble_eq_true rfl) ?_
  intro p e s m args below meth c hx hb hml hr hown hts hlocks hK hN hargs ls hl hW
  have hown : s.vm.findClass RX6 = some m.cls := hown
  have hl : lv_has ls 4 [(0, .ref (ad 0)), (1, .int (iI a)), (2, .int (iI pl))] := hl
  refine lv_aload_n hx hb dX6_saleDay_0 rfl (lv_at hl 0 rfl) ?_
  refine lv_iload_n hx hb dX6_saleDay_1 rfl (lv_at hl 1 rfl) ?_
  refine lv_iload_n hx hb dX6_saleDay_2 rfl (lv_at hl 2 rfl) ?_
  refine mk_goI (va_runV (As := [.int (iI a), .int (iI pl)]) (rest := []) ⟨hx, hb, hml, hown, hts⟩ (c_X6_found_no l cg D ad st a pl hB ha hno) (cwV 2 hts gX6_saleDay_X6_found rfl rfl rfl (by decide +kernel) ⟨Nat.le_of_ble_eq_true rfl, Nat.le_of_ble_eq_true rfl⟩) (mk_preV hK hN hW 0 (by decide) rfl rfl rfl) rfl rfl hl.1 rfl (lv_room (Nat.le_of_ble_eq_true rfl)) dX6_saleDay_3 ⟨Nat.zero_le _, Nat.zero_le _⟩) hW (fun y st1 hp3 H locs hW => ?_)
  obtain ⟨hM2, h292, ey⟩ := hp3
  refine lv_istore_n (lv' := [(3, .int (iI y)), (0, .ref (ad 0)), (1, .int (iI a)), (2, .int (iI pl))]) hx hb dX6_saleDay_6 rfl hl (by decide) rfl (fun ls hl => ?_)
  refine lv_iload_n hx hb dX6_saleDay_7 rfl (lv_at hl 0 rfl) ?_
  refine mk_if_ge (tgt := 15) hx hb dX6_saleDay_8 (by decide) (by omega) (fun c_8 => ?_) (fun c_8 => ?_)
  · skip
    omega
  · skip
    refine mk_iconst hx hb (0) dX6_saleDay_11 ?_
    refine lv_goto (tgt := 26) hx hb dX6_saleDay_12 (by decide) ?_
    exact mk_retI hx hb hr hlocks hW ⟨hM2, h292⟩ dX6_saleDay_26

set_option maxHeartbeats 4000000 in
set_option maxRecDepth 100000 in
theorem c_X6_buyDay_noq (l : Launch) (cg : Nat → ClassId) (D : va_G) (ad : Nat → Nat) (st : Nat → Nat → Int) (a pl : Int) (hB : BV st) (ha : -2147483648 ≤ a ∧ a < 2147483648) (hno : ¬ (0 ≤ a ∧ a ≤ 2)) : MI l yX6_buyDay wsX6_buyDay ({ frames := 4, cells := 0, slots := 0, locals := 105 }) D vwCl (TY cg) 26 (celM cg) ad st [.ref (ad 0), .int (iI a), .int (iI pl)] (fun z st1 => MW st st1 ∧ st1 0 29 = 1) := by
  refine mk_open (cc := cX6_buyDay) (maxL := 4) (ret := (some .int)) (by decide) rfl (Nat.le_of_ble_eq_true rfl) ?_
  intro p e s m args below meth c hx hb hml hr hown hts hlocks hK hN hargs ls hl hW
  have hown : s.vm.findClass RX6 = some m.cls := hown
  have hl : lv_has ls 4 [(0, .ref (ad 0)), (1, .int (iI a)), (2, .int (iI pl))] := hl
  refine lv_aload_n hx hb dX6_buyDay_0 rfl (lv_at hl 0 rfl) ?_
  refine lv_iload_n hx hb dX6_buyDay_1 rfl (lv_at hl 1 rfl) ?_
  refine lv_iload_n hx hb dX6_buyDay_2 rfl (lv_at hl 2 rfl) ?_
  refine mk_goI (va_runV (As := [.int (iI a), .int (iI pl)]) (rest := []) ⟨hx, hb, hml, hown, hts⟩ (c_X6_found_no l cg D ad st a pl hB ha hno) (cwV 2 hts gX6_buyDay_X6_found rfl rfl rfl (by decide +kernel) ⟨Nat.le_of_ble_eq_true rfl, Nat.le_of_ble_eq_true rfl⟩) (mk_preV hK hN hW 0 (by decide) rfl rfl rfl) rfl rfl hl.1 rfl (lv_room (Nat.le_of_ble_eq_true rfl)) dX6_buyDay_3 ⟨Nat.zero_le _, Nat.zero_le _⟩) hW (fun y st1 hp3 H locs hW => ?_)
  obtain ⟨hM2, h292, ey⟩ := hp3
  refine lv_istore_n (lv' := [(3, .int (iI y)), (0, .ref (ad 0)), (1, .int (iI a)), (2, .int (iI pl))]) hx hb dX6_buyDay_6 rfl hl (by decide) rfl (fun ls hl => ?_)
  refine lv_iload_n hx hb dX6_buyDay_7 rfl (lv_at hl 0 rfl) ?_
  refine mk_if_ge (tgt := 15) hx hb dX6_buyDay_8 (by decide) (by omega) (fun c_8 => ?_) (fun c_8 => ?_)
  · skip
    omega
  · skip
    refine mk_iconst hx hb (0) dX6_buyDay_11 ?_
    refine lv_goto (tgt := 39) hx hb dX6_buyDay_12 (by decide) ?_
    exact mk_retI hx hb hr hlocks hW ⟨hM2, h292⟩ dX6_buyDay_39

set_option maxHeartbeats 4000000 in
set_option maxRecDepth 100000 in
theorem c_X6_unitsOf_noq (l : Launch) (cg : Nat → ClassId) (D : va_G) (ad : Nat → Nat) (st : Nat → Nat → Int) (a pl : Int) (hB : BV st) (ha : -2147483648 ≤ a ∧ a < 2147483648) (hno : ¬ (0 ≤ a ∧ a ≤ 2)) : MI l yX6_unitsOf wsX6_unitsOf ({ frames := 4, cells := 0, slots := 0, locals := 105 }) D vwCl (TY cg) 26 (celM cg) ad st [.ref (ad 0), .int (iI a), .int (iI pl)] (fun z st1 => MW st st1 ∧ st1 0 29 = 1) := by
  refine mk_open (cc := cX6_unitsOf) (maxL := 4) (ret := (some .int)) (by decide) rfl (Nat.le_of_ble_eq_true rfl) ?_
  intro p e s m args below meth c hx hb hml hr hown hts hlocks hK hN hargs ls hl hW
  have hown : s.vm.findClass RX6 = some m.cls := hown
  have hl : lv_has ls 4 [(0, .ref (ad 0)), (1, .int (iI a)), (2, .int (iI pl))] := hl
  refine lv_aload_n hx hb dX6_unitsOf_0 rfl (lv_at hl 0 rfl) ?_
  refine lv_iload_n hx hb dX6_unitsOf_1 rfl (lv_at hl 1 rfl) ?_
  refine lv_iload_n hx hb dX6_unitsOf_2 rfl (lv_at hl 2 rfl) ?_
  refine mk_goI (va_runV (As := [.int (iI a), .int (iI pl)]) (rest := []) ⟨hx, hb, hml, hown, hts⟩ (c_X6_found_no l cg D ad st a pl hB ha hno) (cwV 2 hts gX6_unitsOf_X6_found rfl rfl rfl (by decide +kernel) ⟨Nat.le_of_ble_eq_true rfl, Nat.le_of_ble_eq_true rfl⟩) (mk_preV hK hN hW 0 (by decide) rfl rfl rfl) rfl rfl hl.1 rfl (lv_room (Nat.le_of_ble_eq_true rfl)) dX6_unitsOf_3 ⟨Nat.zero_le _, Nat.zero_le _⟩) hW (fun y st1 hp3 H locs hW => ?_)
  obtain ⟨hM2, h292, ey⟩ := hp3
  refine lv_istore_n (lv' := [(3, .int (iI y)), (0, .ref (ad 0)), (1, .int (iI a)), (2, .int (iI pl))]) hx hb dX6_unitsOf_6 rfl hl (by decide) rfl (fun ls hl => ?_)
  refine lv_iload_n hx hb dX6_unitsOf_7 rfl (lv_at hl 0 rfl) ?_
  refine mk_if_ge (tgt := 15) hx hb dX6_unitsOf_8 (by decide) (by omega) (fun c_8 => ?_) (fun c_8 => ?_)
  · skip
    omega
  · skip
    refine mk_iconst hx hb (0) dX6_unitsOf_11 ?_
    refine lv_goto (tgt := 22) hx hb dX6_unitsOf_12 (by decide) ?_
    exact mk_retI hx hb hr hlocks hW ⟨hM2, h292⟩ dX6_unitsOf_22

set_option maxHeartbeats 4000000 in
set_option maxRecDepth 100000 in
theorem c_X6_costOf_noq (l : Launch) (cg : Nat → ClassId) (D : va_G) (ad : Nat → Nat) (st : Nat → Nat → Int) (a pl : Int) (hB : BV st) (ha : -2147483648 ≤ a ∧ a < 2147483648) (hno : ¬ (0 ≤ a ∧ a ≤ 2)) : MI l yX6_costOf wsX6_costOf ({ frames := 4, cells := 0, slots := 0, locals := 105 }) D vwCl (TY cg) 26 (celM cg) ad st [.ref (ad 0), .int (iI a), .int (iI pl)] (fun z st1 => MW st st1 ∧ st1 0 29 = 1) := by
  refine mk_open (cc := cX6_costOf) (maxL := 4) (ret := (some .int)) (by decide) rfl (Nat.le_of_ble_eq_true rfl) ?_
  intro p e s m args below meth c hx hb hml hr hown hts hlocks hK hN hargs ls hl hW
  have hown : s.vm.findClass RX6 = some m.cls := hown
  have hl : lv_has ls 4 [(0, .ref (ad 0)), (1, .int (iI a)), (2, .int (iI pl))] := hl
  refine lv_aload_n hx hb dX6_costOf_0 rfl (lv_at hl 0 rfl) ?_
  refine lv_iload_n hx hb dX6_costOf_1 rfl (lv_at hl 1 rfl) ?_
  refine lv_iload_n hx hb dX6_costOf_2 rfl (lv_at hl 2 rfl) ?_
  refine mk_goI (va_runV (As := [.int (iI a), .int (iI pl)]) (rest := []) ⟨hx, hb, hml, hown, hts⟩ (c_X6_found_no l cg D ad st a pl hB ha hno) (cwV 2 hts gX6_costOf_X6_found rfl rfl rfl (by decide +kernel) ⟨Nat.le_of_ble_eq_true rfl, Nat.le_of_ble_eq_true rfl⟩) (mk_preV hK hN hW 0 (by decide) rfl rfl rfl) rfl rfl hl.1 rfl (lv_room (Nat.le_of_ble_eq_true rfl)) dX6_costOf_3 ⟨Nat.zero_le _, Nat.zero_le _⟩) hW (fun y st1 hp3 H locs hW => ?_)
  obtain ⟨hM2, h292, ey⟩ := hp3
  refine lv_istore_n (lv' := [(3, .int (iI y)), (0, .ref (ad 0)), (1, .int (iI a)), (2, .int (iI pl))]) hx hb dX6_costOf_6 rfl hl (by decide) rfl (fun ls hl => ?_)
  refine lv_iload_n hx hb dX6_costOf_7 rfl (lv_at hl 0 rfl) ?_
  refine mk_if_ge (tgt := 15) hx hb dX6_costOf_8 (by decide) (by omega) (fun c_8 => ?_) (fun c_8 => ?_)
  · skip
    omega
  · skip
    refine mk_iconst hx hb (0) dX6_costOf_11 ?_
    refine lv_goto (tgt := 22) hx hb dX6_costOf_12 (by decide) ?_
    exact mk_retI hx hb hr hlocks hW ⟨hM2, h292⟩ dX6_costOf_22

set_option maxHeartbeats 4000000 in
set_option maxRecDepth 100000 in
theorem c_X6_proceedsOf_noq (l : Launch) (cg : Nat → ClassId) (D : va_G) (ad : Nat → Nat) (st : Nat → Nat → Int) (a pl : Int) (hB : BV st) (ha : -2147483648 ≤ a ∧ a < 2147483648) (hno : ¬ (0 ≤ a ∧ a ≤ 2)) : MI l yX6_proceedsOf wsX6_proceedsOf ({ frames := 4, cells := 0, slots := 0, locals := 105 }) D vwCl (TY cg) 26 (celM cg) ad st [.ref (ad 0), .int (iI a), .int (iI pl)] (fun z st1 => MW st st1 ∧ st1 0 29 = 1) := by
  refine mk_open (cc := cX6_proceedsOf) (maxL := 4) (ret := (some .int)) (by decide) rfl (Nat.le_of_ble_eq_true rfl) ?_
  intro p e s m args below meth c hx hb hml hr hown hts hlocks hK hN hargs ls hl hW
  have hown : s.vm.findClass RX6 = some m.cls := hown
  have hl : lv_has ls 4 [(0, .ref (ad 0)), (1, .int (iI a)), (2, .int (iI pl))] := hl
  refine lv_aload_n hx hb dX6_proceedsOf_0 rfl (lv_at hl 0 rfl) ?_
  refine lv_iload_n hx hb dX6_proceedsOf_1 rfl (lv_at hl 1 rfl) ?_
  refine lv_iload_n hx hb dX6_proceedsOf_2 rfl (lv_at hl 2 rfl) ?_
  refine mk_goI (va_runV (As := [.int (iI a), .int (iI pl)]) (rest := []) ⟨hx, hb, hml, hown, hts⟩ (c_X6_found_no l cg D ad st a pl hB ha hno) (cwV 2 hts gX6_proceedsOf_X6_found rfl rfl rfl (by decide +kernel) ⟨Nat.le_of_ble_eq_true rfl, Nat.le_of_ble_eq_true rfl⟩) (mk_preV hK hN hW 0 (by decide) rfl rfl rfl) rfl rfl hl.1 rfl (lv_room (Nat.le_of_ble_eq_true rfl)) dX6_proceedsOf_3 ⟨Nat.zero_le _, Nat.zero_le _⟩) hW (fun y st1 hp3 H locs hW => ?_)
  obtain ⟨hM2, h292, ey⟩ := hp3
  refine lv_istore_n (lv' := [(3, .int (iI y)), (0, .ref (ad 0)), (1, .int (iI a)), (2, .int (iI pl))]) hx hb dX6_proceedsOf_6 rfl hl (by decide) rfl (fun ls hl => ?_)
  refine lv_iload_n hx hb dX6_proceedsOf_7 rfl (lv_at hl 0 rfl) ?_
  refine mk_if_ge (tgt := 15) hx hb dX6_proceedsOf_8 (by decide) (by omega) (fun c_8 => ?_) (fun c_8 => ?_)
  · skip
    omega
  · skip
    refine mk_iconst hx hb (0) dX6_proceedsOf_11 ?_
    refine lv_goto (tgt := 22) hx hb dX6_proceedsOf_12 (by decide) ?_
    exact mk_retI hx hb hr hlocks hW ⟨hM2, h292⟩ dX6_proceedsOf_22

set_option maxHeartbeats 4000000 in
set_option maxRecDepth 100000 in
theorem c_X6_net_noq (l : Launch) (cg : Nat → ClassId) (D : va_G) (ad : Nat → Nat) (st : Nat → Nat → Int) (a : Int) (hB : BV st) (ha : -2147483648 ≤ a ∧ a < 2147483648) (hno : ¬ (0 ≤ a ∧ a ≤ 4)) : MI l yX6_net wsX6_net ({ frames := 5, cells := 0, slots := 0, locals := 129 }) D vwCl (TY cg) 26 (celM cg) ad st [.ref (ad 0), .int (iI a)] (fun z st1 => MW st st1 ∧ st1 0 29 = 1) := by
  refine mk_open (cc := cX6_net) (maxL := 2) (ret := (some .int)) (by decide) rfl (Nat.le_of_ble_eq_true rfl) ?_
  intro p e s m args below meth c hx hb hml hr hown hts hlocks hK hN hargs ls hl hW
  have hown : s.vm.findClass RX6 = some m.cls := hown
  have hl : lv_has ls 2 [(0, .ref (ad 0)), (1, .int (iI a))] := hl
  refine lv_aload_n hx hb dX6_net_0 rfl (lv_at hl 0 rfl) ?_
  refine lv_iload_n hx hb dX6_net_1 rfl (lv_at hl 1 rfl) ?_
  refine mk_goI (va_runV (As := [.int (iI a)]) (rest := []) ⟨hx, hb, hml, hown, hts⟩ (c_X6_isYear l cg D ad st a (by omega)) (cwV 1 hts gX6_net_X6_isYear rfl rfl rfl (by decide +kernel) ⟨Nat.le_of_ble_eq_true rfl, Nat.le_of_ble_eq_true rfl⟩) (mk_preV hK hN hW 0 (by decide) rfl rfl rfl) rfl rfl hl.1 rfl (lv_room (Nat.le_of_ble_eq_true rfl)) dX6_net_2 ⟨Nat.zero_le _, Nat.zero_le _⟩) hW (fun z st1 hp2 H locs hW => ?_)
  obtain ⟨est1, hz⟩ := hp2
  have hM1 : MW st st1 := by rw [est1]; exact MW.thr st _
  have h29 : st1 0 29 = 1 - z := by rw [est1]; rfl
  have hB1 : BV st1 := hB.mw hM1
  refine mk_if_eq (tgt := 16) hx hb dX6_net_5 (by decide) (by omega) (fun c_5 => ?_) (fun c_5 => ?_)
  · skip
    refine mk_iconst hx hb (0) dX6_net_16 ?_
    exact mk_retI hx hb hr hlocks hW ⟨hM1, by omega⟩ dX6_net_17
  · skip
    omega

set_option maxHeartbeats 4000000 in
set_option maxRecDepth 100000 in
theorem c_X6_carried_noq (l : Launch) (cg : Nat → ClassId) (D : va_G) (ad : Nat → Nat) (st : Nat → Nat → Int) (a : Int) (hB : BV st) (ha : -2147483648 ≤ a ∧ a < 2147483648) (hno : ¬ (0 ≤ a ∧ a ≤ 4)) : MI l yX6_carried wsX6_carried ({ frames := 7, cells := 0, slots := 0, locals := 180 }) D vwCl (TY cg) 26 (celM cg) ad st [.ref (ad 0), .int (iI a)] (fun z st1 => MW st st1 ∧ st1 0 29 = 1) := by
  refine mk_open (cc := cX6_carried) (maxL := 2) (ret := (some .int)) (by decide) rfl (Nat.le_of_ble_eq_true rfl) ?_
  intro p e s m args below meth c hx hb hml hr hown hts hlocks hK hN hargs ls hl hW
  have hown : s.vm.findClass RX6 = some m.cls := hown
  have hl : lv_has ls 2 [(0, .ref (ad 0)), (1, .int (iI a))] := hl
  refine lv_aload_n hx hb dX6_carried_0 rfl (lv_at hl 0 rfl) ?_
  refine lv_iload_n hx hb dX6_carried_1 rfl (lv_at hl 1 rfl) ?_
  refine mk_goI (va_runV (As := [.int (iI a)]) (rest := []) ⟨hx, hb, hml, hown, hts⟩ (c_X6_isYear l cg D ad st a (by omega)) (cwV 1 hts gX6_carried_X6_isYear rfl rfl rfl (by decide +kernel) ⟨Nat.le_of_ble_eq_true rfl, Nat.le_of_ble_eq_true rfl⟩) (mk_preV hK hN hW 0 (by decide) rfl rfl rfl) rfl rfl hl.1 rfl (lv_room (Nat.le_of_ble_eq_true rfl)) dX6_carried_2 ⟨Nat.zero_le _, Nat.zero_le _⟩) hW (fun z st1 hp2 H locs hW => ?_)
  obtain ⟨est1, hz⟩ := hp2
  have hM1 : MW st st1 := by rw [est1]; exact MW.thr st _
  have h29 : st1 0 29 = 1 - z := by rw [est1]; rfl
  have hB1 : BV st1 := hB.mw hM1
  refine mk_if_eq (tgt := 18) hx hb dX6_carried_5 (by decide) (by omega) (fun c_5 => ?_) (fun c_5 => ?_)
  · skip
    refine mk_iconst hx hb (0) dX6_carried_18 ?_
    exact mk_retI hx hb hr hlocks hW ⟨hM1, by omega⟩ dX6_carried_19
  · skip
    omega

set_option maxHeartbeats 4000000 in
set_option maxRecDepth 100000 in
theorem c_X6_taxable_noq (l : Launch) (cg : Nat → ClassId) (D : va_G) (ad : Nat → Nat) (st : Nat → Nat → Int) (a : Int) (hB : BV st) (ha : -2147483648 ≤ a ∧ a < 2147483648) (hno : ¬ (0 ≤ a ∧ a ≤ 4)) : MI l yX6_taxable wsX6_taxable ({ frames := 7, cells := 0, slots := 0, locals := 180 }) D vwCl (TY cg) 26 (celM cg) ad st [.ref (ad 0), .int (iI a)] (fun z st1 => MW st st1 ∧ st1 0 29 = 1) := by
  refine mk_open (cc := cX6_taxable) (maxL := 3) (ret := (some .int)) (by decide) rfl (Nat.le_of_ble_eq_true rfl) ?_
  intro p e s m args below meth c hx hb hml hr hown hts hlocks hK hN hargs ls hl hW
  have hown : s.vm.findClass RX6 = some m.cls := hown
  have hl : lv_has ls 3 [(0, .ref (ad 0)), (1, .int (iI a))] := hl
  refine lv_aload_n hx hb dX6_taxable_0 rfl (lv_at hl 0 rfl) ?_
  refine lv_iload_n hx hb dX6_taxable_1 rfl (lv_at hl 1 rfl) ?_
  refine mk_goI (va_runV (As := [.int (iI a)]) (rest := []) ⟨hx, hb, hml, hown, hts⟩ (c_X6_isYear l cg D ad st a (by omega)) (cwV 1 hts gX6_taxable_X6_isYear rfl rfl rfl (by decide +kernel) ⟨Nat.le_of_ble_eq_true rfl, Nat.le_of_ble_eq_true rfl⟩) (mk_preV hK hN hW 0 (by decide) rfl rfl rfl) rfl rfl hl.1 rfl (lv_room (Nat.le_of_ble_eq_true rfl)) dX6_taxable_2 ⟨Nat.zero_le _, Nat.zero_le _⟩) hW (fun z st1 hp2 H locs hW => ?_)
  obtain ⟨est1, hz⟩ := hp2
  have hM1 : MW st st1 := by rw [est1]; exact MW.thr st _
  have h29 : st1 0 29 = 1 - z := by rw [est1]; rfl
  have hB1 : BV st1 := hB.mw hM1
  refine mk_if_ne (tgt := 10) hx hb dX6_taxable_5 (by decide) (by omega) (fun c_5 => ?_) (fun c_5 => ?_)
  · skip
    omega
  · skip
    refine mk_iconst hx hb (0) dX6_taxable_8 ?_
    exact mk_retI hx hb hr hlocks hW ⟨hM1, by omega⟩ dX6_taxable_9

set_option maxHeartbeats 4000000 in
set_option maxRecDepth 100000 in
theorem c_X6_buy_noq (l : Launch) (cg : Nat → ClassId) (D : va_G) (ad : Nat → Nat) (st : Nat → Nat → Int) (a d ct mo : Int) (hB : BV st) (ha : -2147483648 ≤ a ∧ a < 2147483648) (hd : -2147483648 ≤ d ∧ d < 2147483648) (hc : -2147483648 ≤ ct ∧ ct < 2147483648) (hm : -2147483648 ≤ mo ∧ mo < 2147483648) (hno : ¬ (((0 ≤ a ∧ a ≤ 2) ∧ 0 ≤ d ∧ d ≤ 1824) ∧ (1 ≤ ct ∧ ct ≤ 1000) ∧ 0 ≤ mo ∧ mo ≤ 1000000)) : MI l yX6_buy wsX6_buy ({ frames := 4, cells := 0, slots := 0, locals := 120 }) D vwCl (TY cg) 26 (celM cg) ad st [.ref (ad 0), .int (iI a), .int (iI d), .int (iI ct), .int (iI mo)] (fun z st1 => MW st st1 ∧ ((¬ ((0 ≤ a ∧ a ≤ 2) ∧ 0 ≤ d ∧ d ≤ 1824) ∧ st1 0 29 = 1) ∨ (((0 ≤ a ∧ a ≤ 2) ∧ 0 ≤ d ∧ d ≤ 1824) ∧ st1 0 29 = 2))) := by
  refine mk_open (cc := cX6_buy) (maxL := 5) (ret := (some .int)) (by decide) rfl (Nat.le_of_ble_eq_true rfl) ?_
  intro p e s m args below meth c hx hb hml hr hown hts hlocks hK hN hargs ls hl hW
  have hown : s.vm.findClass RX6 = some m.cls := hown
  have hl : lv_has ls 5 [(0, .ref (ad 0)), (1, .int (iI a)), (2, .int (iI d)), (3, .int (iI ct)), (4, .int (iI mo))] := hl
  refine lv_aload_n hx hb dX6_buy_0 rfl (lv_at hl 0 rfl) ?_
  refine lv_iload_n hx hb dX6_buy_1 rfl (lv_at hl 1 rfl) ?_
  refine lv_iload_n hx hb dX6_buy_2 rfl (lv_at hl 2 rfl) ?_
  refine lv_iload_n hx hb dX6_buy_3 rfl (lv_at hl 3 rfl) ?_
  refine lv_iload hx hb dX6_buy_4 (lv_at hl 4 rfl) ?_
  refine mk_iconst hx hb (0) dX6_buy_6 ?_
  refine mk_goI (va_runV (As := [.int (iI a), .int (iI d), .int (iI ct), .int (iI mo), .int (iI 0)]) (rest := []) ⟨hx, hb, hml, hown, hts⟩ (c_X6_enters_no l cg D ad st a d ct mo 0 hB ha hd hc hm (by omega) hno) (cwV 5 hts gX6_buy_X6_enters rfl rfl rfl (by decide +kernel) ⟨Nat.le_of_ble_eq_true rfl, Nat.le_of_ble_eq_true rfl⟩) (mk_preV hK hN hW 0 (by decide) rfl rfl rfl) rfl rfl hl.1 rfl (lv_room (Nat.le_of_ble_eq_true rfl)) dX6_buy_7 ⟨Nat.zero_le _, Nat.zero_le _⟩) hW (fun z st1 hp7 H locs hW => ?_)
  exact mk_retI hx hb hr hlocks hW hp7 dX6_buy_10

set_option maxHeartbeats 4000000 in
set_option maxRecDepth 100000 in
theorem c_X6_sell_noq (l : Launch) (cg : Nat → ClassId) (D : va_G) (ad : Nat → Nat) (st : Nat → Nat → Int) (a d ct mo : Int) (hB : BV st) (ha : -2147483648 ≤ a ∧ a < 2147483648) (hd : -2147483648 ≤ d ∧ d < 2147483648) (hc : -2147483648 ≤ ct ∧ ct < 2147483648) (hm : -2147483648 ≤ mo ∧ mo < 2147483648) (hno : ¬ (((0 ≤ a ∧ a ≤ 2) ∧ 0 ≤ d ∧ d ≤ 1824) ∧ (1 ≤ ct ∧ ct ≤ 1000) ∧ 0 ≤ mo ∧ mo ≤ 1000000)) : MI l yX6_sell wsX6_sell ({ frames := 4, cells := 0, slots := 0, locals := 120 }) D vwCl (TY cg) 26 (celM cg) ad st [.ref (ad 0), .int (iI a), .int (iI d), .int (iI ct), .int (iI mo)] (fun z st1 => MW st st1 ∧ ((¬ ((0 ≤ a ∧ a ≤ 2) ∧ 0 ≤ d ∧ d ≤ 1824) ∧ st1 0 29 = 1) ∨ (((0 ≤ a ∧ a ≤ 2) ∧ 0 ≤ d ∧ d ≤ 1824) ∧ st1 0 29 = 2))) := by
  refine mk_open (cc := cX6_sell) (maxL := 5) (ret := (some .int)) (by decide) rfl (Nat.le_of_ble_eq_true rfl) ?_
  intro p e s m args below meth c hx hb hml hr hown hts hlocks hK hN hargs ls hl hW
  have hown : s.vm.findClass RX6 = some m.cls := hown
  have hl : lv_has ls 5 [(0, .ref (ad 0)), (1, .int (iI a)), (2, .int (iI d)), (3, .int (iI ct)), (4, .int (iI mo))] := hl
  refine lv_aload_n hx hb dX6_sell_0 rfl (lv_at hl 0 rfl) ?_
  refine lv_iload_n hx hb dX6_sell_1 rfl (lv_at hl 1 rfl) ?_
  refine lv_iload_n hx hb dX6_sell_2 rfl (lv_at hl 2 rfl) ?_
  refine lv_iload_n hx hb dX6_sell_3 rfl (lv_at hl 3 rfl) ?_
  refine lv_iload hx hb dX6_sell_4 (lv_at hl 4 rfl) ?_
  refine mk_iconst hx hb (1) dX6_sell_6 ?_
  refine mk_goI (va_runV (As := [.int (iI a), .int (iI d), .int (iI ct), .int (iI mo), .int (iI 1)]) (rest := []) ⟨hx, hb, hml, hown, hts⟩ (c_X6_enters_no l cg D ad st a d ct mo 1 hB ha hd hc hm (by omega) hno) (cwV 5 hts gX6_sell_X6_enters rfl rfl rfl (by decide +kernel) ⟨Nat.le_of_ble_eq_true rfl, Nat.le_of_ble_eq_true rfl⟩) (mk_preV hK hN hW 0 (by decide) rfl rfl rfl) rfl rfl hl.1 rfl (lv_room (Nat.le_of_ble_eq_true rfl)) dX6_sell_7 ⟨Nat.zero_le _, Nat.zero_le _⟩) hW (fun z st1 hp7 H locs hW => ?_)
  exact mk_retI hx hb hr hlocks hW hp7 dX6_sell_10

set_option maxHeartbeats 4000000 in
set_option maxRecDepth 100000 in
theorem c_X6_cancel_noq (l : Launch) (cg : Nat → ClassId) (D : va_G) (ad : Nat → Nat) (st : Nat → Nat → Int) (a : Int) (hB : BV st) (ha : -2147483648 ≤ a ∧ a < 2147483648) (hno : ¬ (0 ≤ a ∧ a < bN st)) : MV l yX6_cancel wsX6_cancel ({ frames := 3, cells := 0, slots := 0, locals := 80 }) D vwCl (TY cg) 26 (celM cg) ad st [.ref (ad 0), .int (iI a)] (fun st1 => MW st st1 ∧ st1 0 29 = 1) := by
  refine mk_open (cc := cX6_cancel) (maxL := 2) (ret := none) (by decide) rfl (Nat.le_of_ble_eq_true rfl) ?_
  intro p e s m args below meth c hx hb hml hr hown hts hlocks hK hN hargs ls hl hW
  have hown : s.vm.findClass RX6 = some m.cls := hown
  have hl : lv_has ls 2 [(0, .ref (ad 0)), (1, .int (iI a))] := hl
  have inX6 : ∀ w ∈ wsX60, w ∈ wsX6_cancel := by decide +kernel
  have fl98 := hts (.fieldLink RX6 98 "GainsReckonerModel" "trades" "I") (by decide +kernel)
  have fl91 := hts (.fieldLink RX6 91 "GainsReckonerModel" "thrown" "I") (by decide +kernel)
  have hn6 := hB.n60
  refine lv_aload_n hx hb dX6_cancel_0 rfl (lv_at hl 0 rfl) ?_
  refine lv_iload_n hx hb dX6_cancel_1 rfl (lv_at hl 1 rfl) ?_
  refine mk_iconst hx hb (0) dX6_cancel_2 ?_
  refine lv_aload_n hx hb dX6_cancel_3 rfl (lv_at hl 0 rfl) ?_
  refine mk_get (ci := 6) (C := RX6) (T := TX6) (N := 30) hx hb hts inX6 hown hK hW 0 (by decide) rfl rfl 0 (by decide) fl98 (fun _ h9 => h9) rfl dX6_cancel_4 ?_
  refine mk_sayi (y := (((bN st) : Nat) : Int)) hB.1 ?_
  refine mk_iconst hx hb (1) dX6_cancel_7 ?_
  refine mk_isub hx hb dX6_cancel_8 ?_
  refine mk_goI (va_runS (As := [.int (iI a), .int (iI 0), .int (iI ((((bN st) : Nat) : Int) - 1))]) (rest := [.ref (ad 0)]) ⟨hx, hb, hml, hown, hts⟩ (c_X6_isIn l cg D ad st a 0 ((bN st : Int) - 1) (by omega) (by omega) (by omega)) (cwS 3 hts gX6_cancel_X6_isIn rfl rfl rfl (by decide +kernel) ⟨Nat.le_of_ble_eq_true rfl, Nat.le_of_ble_eq_true rfl⟩) (mk_preS hK hN hW) rfl rfl hl.1 rfl (lv_room (Nat.le_of_ble_eq_true rfl)) dX6_cancel_9 ⟨Nat.zero_le _, Nat.zero_le _⟩) hW (fun z1 st1 hp9 H locs hW => ?_)
  obtain ⟨est1, hz1⟩ := hp9
  rw [est1] at hW
  refine mk_if_ne (tgt := 19) hx hb dX6_cancel_12 (by decide) (by omega) (fun c_12 => ?_) (fun c_12 => ?_)
  · skip
    omega
  · skip
    refine mk_iconst hx hb (1) dX6_cancel_15 ?_
    refine lv_goto (tgt := 33) hx hb dX6_cancel_16 (by decide) ?_
    refine mk_put (ci := 6) (C := RX6) (T := TX6) (N := 30) hx hb hts inX6 tyX6 tyX6_ok nmX6 hown hK hW 0 (by decide) rfl rfl 29 (by decide) fl91 (fun _ h9 => h9) rfl (by decide +kernel) (Nat.le_of_ble_eq_true rfl) rfl dX6_cancel_33 (fun H locs hW => ?_)
    obtain ⟨st2, est2⟩ : ∃ z, z = stC st 0 (fnU (st 0) 29 1) := ⟨_, rfl⟩
    rw [← est2] at hW
    have hM1 : MW st st2 := by rw [est2]; exact MW.thr st _
    have hB1 : BV st2 := hB.mw hM1
    have h29 : st2 0 29 = 1 := by rw [est2]; rfl
    refine lv_aload_n hx hb dX6_cancel_36 rfl (lv_at hl 0 rfl) ?_
    refine mk_get (ci := 6) (C := RX6) (T := TX6) (N := 30) hx hb hts inX6 hown hK hW 0 (by decide) rfl rfl 29 (by decide) fl91 (fun _ h9 => h9) rfl dX6_cancel_37 ?_
    refine mk_sayi (y := 1) h29 ?_
    refine mk_if_le (tgt := 44) hx hb dX6_cancel_40 (by decide) (by omega) (fun c_40 => ?_) (fun c_40 => ?_)
    · skip
      omega
    · skip
      exact mk_retV hx hb hr hlocks hW ⟨hM1, h29⟩ dX6_cancel_43

