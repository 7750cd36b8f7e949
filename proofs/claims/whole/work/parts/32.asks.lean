set_option maxHeartbeats 4000000 in
set_option maxRecDepth 100000 in
theorem c_X6_trades (l : Launch) (cg : Nat → ClassId) (D : va_G) (ad : Nat → Nat) (st : Nat → Nat → Int)  : MI l yX6_trades wsX6_trades ({ frames := 0, cells := 0, slots := 0, locals := 0 }) D vwCl (TY cg) 26 (celM cg) ad st [.ref (ad 0)] (fun z st1 => MW st st1 ∧ st1 0 29 = 0 ∧ z = st 0 0) := by
  refine mk_open (cc := cX6_trades) (maxL := 1) (ret := (some .int)) (by decide) rfl (Nat.le_of_ble_eq_true rfl) ?_
  intro p e s m args below meth c hx hb hml hr hown hts hlocks hK hN hargs ls hl hW
  have hown : s.vm.findClass RX6 = some m.cls := hown
  have hl : lv_has ls 1 [(0, .ref (ad 0))] := hl
  have inX6 : ∀ w ∈ wsX60, w ∈ wsX6_trades := by decide +kernel
  have fl91 := hts (.fieldLink RX6 91 "GainsReckonerModel" "thrown" "I") (by decide +kernel)
  have fl98 := hts (.fieldLink RX6 98 "GainsReckonerModel" "trades" "I") (by decide +kernel)
  refine lv_aload_n hx hb dX6_trades_0 rfl (lv_at hl 0 rfl) ?_
  refine mk_iconst hx hb (0) dX6_trades_1 ?_
  refine mk_put (ci := 6) (C := RX6) (T := TX6) (N := 30) hx hb hts inX6 tyX6 tyX6_ok nmX6 hown hK hW 0 (by decide) rfl rfl 29 (by decide) fl91 (fun _ h9 => h9) rfl (by decide +kernel) (Nat.le_of_ble_eq_true rfl) rfl dX6_trades_2 (fun H locs hW => ?_)
  obtain ⟨st1, est1⟩ : ∃ z, z = stC st 0 (fnU (st 0) 29 0) := ⟨_, rfl⟩
  rw [← est1] at hW
  refine lv_aload_n hx hb dX6_trades_5 rfl (lv_at hl 0 rfl) ?_
  refine mk_get (ci := 6) (C := RX6) (T := TX6) (N := 30) hx hb hts inX6 hown hK hW 0 (by decide) rfl rfl 0 (by decide) fl98 (fun _ h9 => h9) rfl dX6_trades_6 ?_
  refine mk_sayi (y := (st 0 0)) (by rw [show st1 0 0 = st 0 0 from by rw [est1]; rfl]) ?_
  exact mk_retI hx hb hr hlocks hW ⟨by rw [est1]; exact MW.thr st _, by rw [est1]; rfl, rfl⟩ dX6_trades_9

set_option maxHeartbeats 4000000 in
set_option maxRecDepth 100000 in
theorem c_X6_asks (l : Launch) (cg : Nat → ClassId) (D : va_G) (ad : Nat → Nat) (st : Nat → Nat → Int) (a d : Int) (ha : -2147483648 ≤ a ∧ a < 2147483648) (hd : -2147483648 ≤ d ∧ d < 2147483648) : MI l yX6_asks wsX6_asks ({ frames := 2, cells := 0, slots := 0, locals := 50 }) D vwCl (TY cg) 26 (celM cg) ad st [.ref (ad 0), .int (iI a), .int (iI d)] (fun z st1 => st1 = stC st 0 (fnU (st 0) 29 (1 - z)) ∧ ((z = 1 ∧ (0 ≤ a ∧ a ≤ 2) ∧ 0 ≤ d ∧ d ≤ 1824) ∨ (z = 0 ∧ ¬ ((0 ≤ a ∧ a ≤ 2) ∧ 0 ≤ d ∧ d ≤ 1824)))) := by
  refine mk_open (cc := cX6_asks) (maxL := 3) (ret := (some .boolean)) (by decide) rfl (Nat.le_of_ble_eq_true rfl) ?_
  intro p e s m args below meth c hx hb hml hr hown hts hlocks hK hN hargs ls hl hW
  have hown : s.vm.findClass RX6 = some m.cls := hown
  have hl : lv_has ls 3 [(0, .ref (ad 0)), (1, .int (iI a)), (2, .int (iI d))] := hl
  have inX6 : ∀ w ∈ wsX60, w ∈ wsX6_asks := by decide +kernel
  have fl91 := hts (.fieldLink RX6 91 "GainsReckonerModel" "thrown" "I") (by decide +kernel)
  refine lv_aload_n hx hb dX6_asks_0 rfl (lv_at hl 0 rfl) ?_
  refine lv_iload_n hx hb dX6_asks_1 rfl (lv_at hl 1 rfl) ?_
  refine mk_goI (va_runS (As := [.int (iI a)]) (rest := [.ref (ad 0)]) ⟨hx, hb, hml, hown, hts⟩ (c_X6_isShare l cg D ad st a ha) (cwS 1 hts gX6_asks_X6_isShare rfl rfl rfl (by decide +kernel) ⟨Nat.le_of_ble_eq_true rfl, Nat.le_of_ble_eq_true rfl⟩) (mk_preS hK hN hW) rfl rfl hl.1 rfl (lv_room (Nat.le_of_ble_eq_true rfl)) dX6_asks_2 ⟨Nat.zero_le _, Nat.zero_le _⟩) hW (fun z st1 hp2 H locs hW => ?_)
  obtain ⟨est1, hz⟩ := hp2
  rw [est1] at hW
  refine mk_if_eq (tgt := 19) hx hb dX6_asks_5 (by decide) (by omega) (fun c_5 => ?_) (fun c_5 => ?_)
  · skip
    refine mk_iconst hx hb (1) dX6_asks_19 ?_
    refine mk_put (ci := 6) (C := RX6) (T := TX6) (N := 30) hx hb hts inX6 tyX6 tyX6_ok nmX6 hown hK hW 0 (by decide) rfl rfl 29 (by decide) fl91 (fun _ h9 => h9) rfl (by decide +kernel) (Nat.le_of_ble_eq_true rfl) rfl dX6_asks_20 (fun H locs hW => ?_)
    obtain ⟨st2, est2⟩ : ∃ z, z = stC st 0 (fnU (st 0) 29 1) := ⟨_, rfl⟩
    rw [← est2] at hW
    have hv9 : st2 0 29 = 1 := by rw [est2]; rfl
    refine lv_aload_n hx hb dX6_asks_23 rfl (lv_at hl 0 rfl) ?_
    refine mk_get (ci := 6) (C := RX6) (T := TX6) (N := 30) hx hb hts inX6 hown hK hW 0 (by decide) rfl rfl 29 (by decide) fl91 (fun _ h9 => h9) rfl dX6_asks_24 ?_
    refine mk_sayi (y := 1) hv9 ?_
    refine mk_if_ne (tgt := 34) hx hb dX6_asks_27 (by decide) (by omega) (fun c_27 => ?_) (fun c_27 => ?_)
    · skip
      refine mk_iconst hx hb (0) dX6_asks_34 ?_
      exact mk_retZ hx hb hr hlocks hW (by omega) ⟨est2, Or.inr ⟨rfl, by omega⟩⟩ dX6_asks_35
    · skip
      omega
  · skip
    refine lv_iload_n hx hb dX6_asks_8 rfl (lv_at hl 2 rfl) ?_
    refine mk_goI (va_runS (As := [.int (iI d)]) (rest := [.ref (ad 0)]) ⟨hx, hb, hml, hown, hts⟩ (c_X6_isDay l cg D ad st d hd) (cwS 1 hts gX6_asks_X6_isDay rfl rfl rfl (by decide +kernel) ⟨Nat.le_of_ble_eq_true rfl, Nat.le_of_ble_eq_true rfl⟩) (mk_preS hK hN hW) rfl rfl hl.1 rfl (lv_room (Nat.le_of_ble_eq_true rfl)) dX6_asks_9 ⟨Nat.zero_le _, Nat.zero_le _⟩) hW (fun z2 st3 hp9 H locs hW => ?_)
    obtain ⟨est3, hz2⟩ := hp9
    rw [est3] at hW
    refine mk_if_eq (tgt := 19) hx hb dX6_asks_12 (by decide) (by omega) (fun c_12 => ?_) (fun c_12 => ?_)
    · skip
      refine mk_iconst hx hb (1) dX6_asks_19 ?_
      refine mk_put (ci := 6) (C := RX6) (T := TX6) (N := 30) hx hb hts inX6 tyX6 tyX6_ok nmX6 hown hK hW 0 (by decide) rfl rfl 29 (by decide) fl91 (fun _ h9 => h9) rfl (by decide +kernel) (Nat.le_of_ble_eq_true rfl) rfl dX6_asks_20 (fun H locs hW => ?_)
      obtain ⟨st4, est4⟩ : ∃ z, z = stC st 0 (fnU (st 0) 29 1) := ⟨_, rfl⟩
      rw [← est4] at hW
      have hv9 : st4 0 29 = 1 := by rw [est4]; rfl
      refine lv_aload_n hx hb dX6_asks_23 rfl (lv_at hl 0 rfl) ?_
      refine mk_get (ci := 6) (C := RX6) (T := TX6) (N := 30) hx hb hts inX6 hown hK hW 0 (by decide) rfl rfl 29 (by decide) fl91 (fun _ h9 => h9) rfl dX6_asks_24 ?_
      refine mk_sayi (y := 1) hv9 ?_
      refine mk_if_ne (tgt := 34) hx hb dX6_asks_27 (by decide) (by omega) (fun c_27 => ?_) (fun c_27 => ?_)
      · skip
        refine mk_iconst hx hb (0) dX6_asks_34 ?_
        exact mk_retZ hx hb hr hlocks hW (by omega) ⟨est4, Or.inr ⟨rfl, by omega⟩⟩ dX6_asks_35
      · skip
        omega
    · skip
      refine mk_iconst hx hb (0) dX6_asks_15 ?_
      refine lv_goto (tgt := 20) hx hb dX6_asks_16 (by decide) ?_
      refine mk_put (ci := 6) (C := RX6) (T := TX6) (N := 30) hx hb hts inX6 tyX6 tyX6_ok nmX6 hown hK hW 0 (by decide) rfl rfl 29 (by decide) fl91 (fun _ h9 => h9) rfl (by decide +kernel) (Nat.le_of_ble_eq_true rfl) rfl dX6_asks_20 (fun H locs hW => ?_)
      obtain ⟨st5, est5⟩ : ∃ z, z = stC st 0 (fnU (st 0) 29 0) := ⟨_, rfl⟩
      rw [← est5] at hW
      have hv9 : st5 0 29 = 0 := by rw [est5]; rfl
      refine lv_aload_n hx hb dX6_asks_23 rfl (lv_at hl 0 rfl) ?_
      refine mk_get (ci := 6) (C := RX6) (T := TX6) (N := 30) hx hb hts inX6 hown hK hW 0 (by decide) rfl rfl 29 (by decide) fl91 (fun _ h9 => h9) rfl dX6_asks_24 ?_
      refine mk_sayi (y := 0) hv9 ?_
      refine mk_if_ne (tgt := 34) hx hb dX6_asks_27 (by decide) (by omega) (fun c_27 => ?_) (fun c_27 => ?_)
      · skip
        omega
      · skip
        refine mk_iconst hx hb (1) dX6_asks_30 ?_
        refine lv_goto (tgt := 35) hx hb dX6_asks_31 (by decide) ?_
        exact mk_retZ hx hb hr hlocks hW (by omega) ⟨est5, Or.inl ⟨rfl, by omega, by omega⟩⟩ dX6_asks_35

set_option maxHeartbeats 4000000 in
set_option maxRecDepth 100000 in
theorem c_X6_holding_no (l : Launch) (cg : Nat → ClassId) (D : va_G) (ad : Nat → Nat) (st : Nat → Nat → Int) (a d : Int) (hB : BV st) (ha : -2147483648 ≤ a ∧ a < 2147483648) (hd : -2147483648 ≤ d ∧ d < 2147483648) (hno : ¬ ((0 ≤ a ∧ a ≤ 2) ∧ 0 ≤ d ∧ d ≤ 1824)) : MI l yX6_holding wsX6_holding ({ frames := 3, cells := 0, slots := 0, locals := 74 }) D vwCl (TY cg) 26 (celM cg) ad st [.ref (ad 0), .int (iI a), .int (iI d)] (fun z st1 => MW st st1 ∧ st1 0 29 = 1) := by
  refine mk_open (cc := cX6_holding) (maxL := 3) (ret := (some .int)) (by decide) rfl (Nat.le_of_ble_eq_true rfl) ?_
  intro p e s m args below meth c hx hb hml hr hown hts hlocks hK hN hargs ls hl hW
  have hown : s.vm.findClass RX6 = some m.cls := hown
  have hl : lv_has ls 3 [(0, .ref (ad 0)), (1, .int (iI a)), (2, .int (iI d))] := hl
  refine lv_aload_n hx hb dX6_holding_0 rfl (lv_at hl 0 rfl) ?_
  refine lv_iload_n hx hb dX6_holding_1 rfl (lv_at hl 1 rfl) ?_
  refine lv_iload_n hx hb dX6_holding_2 rfl (lv_at hl 2 rfl) ?_
  refine mk_goI (va_runV (As := [.int (iI a), .int (iI d)]) (rest := []) ⟨hx, hb, hml, hown, hts⟩ (c_X6_asks l cg D ad st a d (by omega) (by omega)) (cwV 2 hts gX6_holding_X6_asks rfl rfl rfl (by decide +kernel) ⟨Nat.le_of_ble_eq_true rfl, Nat.le_of_ble_eq_true rfl⟩) (mk_preV hK hN hW 0 (by decide) rfl rfl rfl) rfl rfl hl.1 rfl (lv_room (Nat.le_of_ble_eq_true rfl)) dX6_holding_3 ⟨Nat.zero_le _, Nat.zero_le _⟩) hW (fun z st1 hp3 H locs hW => ?_)
  obtain ⟨est1, hz⟩ := hp3
  have hM1 : MW st st1 := by rw [est1]; exact MW.thr st _
  have h29 : st1 0 29 = 1 - z := by rw [est1]; rfl
  have hB1 : BV st1 := hB.mw hM1
  refine mk_if_eq (tgt := 27) hx hb dX6_holding_6 (by decide) (by omega) (fun c_6 => ?_) (fun c_6 => ?_)
  · skip
    refine mk_iconst hx hb (0) dX6_holding_27 ?_
    exact mk_retI hx hb hr hlocks hW ⟨hM1, by omega⟩ dX6_holding_28
  · skip
    omega

set_option maxHeartbeats 4000000 in
set_option maxRecDepth 100000 in
theorem c_X6_poolUnits_no (l : Launch) (cg : Nat → ClassId) (D : va_G) (ad : Nat → Nat) (st : Nat → Nat → Int) (a d : Int) (hB : BV st) (ha : -2147483648 ≤ a ∧ a < 2147483648) (hd : -2147483648 ≤ d ∧ d < 2147483648) (hno : ¬ ((0 ≤ a ∧ a ≤ 2) ∧ 0 ≤ d ∧ d ≤ 1824)) : MI l yX6_poolUnits wsX6_poolUnits ({ frames := 3, cells := 0, slots := 0, locals := 74 }) D vwCl (TY cg) 26 (celM cg) ad st [.ref (ad 0), .int (iI a), .int (iI d)] (fun z st1 => MW st st1 ∧ st1 0 29 = 1) := by
  refine mk_open (cc := cX6_poolUnits) (maxL := 4) (ret := (some .int)) (by decide) rfl (Nat.le_of_ble_eq_true rfl) ?_
  intro p e s m args below meth c hx hb hml hr hown hts hlocks hK hN hargs ls hl hW
  have hown : s.vm.findClass RX6 = some m.cls := hown
  have hl : lv_has ls 4 [(0, .ref (ad 0)), (1, .int (iI a)), (2, .int (iI d))] := hl
  refine lv_aload_n hx hb dX6_poolUnits_0 rfl (lv_at hl 0 rfl) ?_
  refine lv_iload_n hx hb dX6_poolUnits_1 rfl (lv_at hl 1 rfl) ?_
  refine lv_iload_n hx hb dX6_poolUnits_2 rfl (lv_at hl 2 rfl) ?_
  refine mk_goI (va_runV (As := [.int (iI a), .int (iI d)]) (rest := []) ⟨hx, hb, hml, hown, hts⟩ (c_X6_asks l cg D ad st a d (by omega) (by omega)) (cwV 2 hts gX6_poolUnits_X6_asks rfl rfl rfl (by decide +kernel) ⟨Nat.le_of_ble_eq_true rfl, Nat.le_of_ble_eq_true rfl⟩) (mk_preV hK hN hW 0 (by decide) rfl rfl rfl) rfl rfl hl.1 rfl (lv_room (Nat.le_of_ble_eq_true rfl)) dX6_poolUnits_3 ⟨Nat.zero_le _, Nat.zero_le _⟩) hW (fun z st1 hp3 H locs hW => ?_)
  obtain ⟨est1, hz⟩ := hp3
  have hM1 : MW st st1 := by rw [est1]; exact MW.thr st _
  have h29 : st1 0 29 = 1 - z := by rw [est1]; rfl
  have hB1 : BV st1 := hB.mw hM1
  refine mk_if_ne (tgt := 11) hx hb dX6_poolUnits_6 (by decide) (by omega) (fun c_6 => ?_) (fun c_6 => ?_)
  · skip
    omega
  · skip
    refine mk_iconst hx hb (0) dX6_poolUnits_9 ?_
    exact mk_retI hx hb hr hlocks hW ⟨hM1, by omega⟩ dX6_poolUnits_10

set_option maxHeartbeats 4000000 in
set_option maxRecDepth 100000 in
theorem c_X6_poolCost_no (l : Launch) (cg : Nat → ClassId) (D : va_G) (ad : Nat → Nat) (st : Nat → Nat → Int) (a d : Int) (hB : BV st) (ha : -2147483648 ≤ a ∧ a < 2147483648) (hd : -2147483648 ≤ d ∧ d < 2147483648) (hno : ¬ ((0 ≤ a ∧ a ≤ 2) ∧ 0 ≤ d ∧ d ≤ 1824)) : MI l yX6_poolCost wsX6_poolCost ({ frames := 3, cells := 0, slots := 0, locals := 74 }) D vwCl (TY cg) 26 (celM cg) ad st [.ref (ad 0), .int (iI a), .int (iI d)] (fun z st1 => MW st st1 ∧ st1 0 29 = 1) := by
  refine mk_open (cc := cX6_poolCost) (maxL := 4) (ret := (some .int)) (by decide) rfl (Nat.le_of_ble_eq_true rfl) ?_
  intro p e s m args below meth c hx hb hml hr hown hts hlocks hK hN hargs ls hl hW
  have hown : s.vm.findClass RX6 = some m.cls := hown
  have hl : lv_has ls 4 [(0, .ref (ad 0)), (1, .int (iI a)), (2, .int (iI d))] := hl
  refine lv_aload_n hx hb dX6_poolCost_0 rfl (lv_at hl 0 rfl) ?_
  refine lv_iload_n hx hb dX6_poolCost_1 rfl (lv_at hl 1 rfl) ?_
  refine lv_iload_n hx hb dX6_poolCost_2 rfl (lv_at hl 2 rfl) ?_
  refine mk_goI (va_runV (As := [.int (iI a), .int (iI d)]) (rest := []) ⟨hx, hb, hml, hown, hts⟩ (c_X6_asks l cg D ad st a d (by omega) (by omega)) (cwV 2 hts gX6_poolCost_X6_asks rfl rfl rfl (by decide +kernel) ⟨Nat.le_of_ble_eq_true rfl, Nat.le_of_ble_eq_true rfl⟩) (mk_preV hK hN hW 0 (by decide) rfl rfl rfl) rfl rfl hl.1 rfl (lv_room (Nat.le_of_ble_eq_true rfl)) dX6_poolCost_3 ⟨Nat.zero_le _, Nat.zero_le _⟩) hW (fun z st1 hp3 H locs hW => ?_)
  obtain ⟨est1, hz⟩ := hp3
  have hM1 : MW st st1 := by rw [est1]; exact MW.thr st _
  have h29 : st1 0 29 = 1 - z := by rw [est1]; rfl
  have hB1 : BV st1 := hB.mw hM1
  refine mk_if_ne (tgt := 11) hx hb dX6_poolCost_6 (by decide) (by omega) (fun c_6 => ?_) (fun c_6 => ?_)
  · skip
    omega
  · skip
    refine mk_iconst hx hb (0) dX6_poolCost_9 ?_
    exact mk_retI hx hb hr hlocks hW ⟨hM1, by omega⟩ dX6_poolCost_10

set_option maxHeartbeats 4000000 in
set_option maxRecDepth 100000 in
theorem c_X6_holding (l : Launch) (cg : Nat → ClassId) (D : va_G) (ad : Nat → Nat) (st : Nat → Nat → Int) (v : Nat) (d : Int) (hB : BV st) (hv : v < 3) (hd : 0 ≤ d ∧ d < 1825) : MI l yX6_holding wsX6_holding ({ frames := 3, cells := 0, slots := 0, locals := 74 }) D vwCl (TY cg) 26 (celM cg) ad st [.ref (ad 0), .int (iI ((v : Nat) : Int)), .int (iI d)] (fun z st1 => MW st st1 ∧ st1 0 29 = 0 ∧ z = bH st v d / fla (bSD st v) (bSF st v) (bM st v) d) := by
  refine mk_open (cc := cX6_holding) (maxL := 3) (ret := (some .int)) (by decide) rfl (Nat.le_of_ble_eq_true rfl) ?_
  intro p e s m args below meth c hx hb hml hr hown hts hlocks hK hN hargs ls hl hW
  have hown : s.vm.findClass RX6 = some m.cls := hown
  have hl : lv_has ls 3 [(0, .ref (ad 0)), (1, .int (iI ((v : Nat) : Int))), (2, .int (iI d))] := hl
  refine lv_aload_n hx hb dX6_holding_0 rfl (lv_at hl 0 rfl) ?_
  refine lv_iload_n hx hb dX6_holding_1 rfl (lv_at hl 1 rfl) ?_
  refine lv_iload_n hx hb dX6_holding_2 rfl (lv_at hl 2 rfl) ?_
  refine mk_goI (va_runV (As := [.int (iI ((v : Nat) : Int)), .int (iI d)]) (rest := []) ⟨hx, hb, hml, hown, hts⟩ (c_X6_asks l cg D ad st (v : Int) d (by omega) (by omega)) (cwV 2 hts gX6_holding_X6_asks rfl rfl rfl (by decide +kernel) ⟨Nat.le_of_ble_eq_true rfl, Nat.le_of_ble_eq_true rfl⟩) (mk_preV hK hN hW 0 (by decide) rfl rfl rfl) rfl rfl hl.1 rfl (lv_room (Nat.le_of_ble_eq_true rfl)) dX6_holding_3 ⟨Nat.zero_le _, Nat.zero_le _⟩) hW (fun z st1 hp3 H locs hW => ?_)
  obtain ⟨est1, hz⟩ := hp3
  have hM1 : MW st st1 := by rw [est1]; exact MW.thr st _
  have h29 : st1 0 29 = 1 - z := by rw [est1]; rfl
  have hB1 : BV st1 := hB.mw hM1
  refine mk_if_eq (tgt := 27) hx hb dX6_holding_6 (by decide) (by omega) (fun c_6 => ?_) (fun c_6 => ?_)
  · skip
    omega
  · skip
    refine lv_aload_n hx hb dX6_holding_9 rfl (lv_at hl 0 rfl) ?_
    refine lv_iload_n hx hb dX6_holding_10 rfl (lv_at hl 1 rfl) ?_
    refine lv_iload_n hx hb dX6_holding_11 rfl (lv_at hl 2 rfl) ?_
    refine mk_goJ (va_runV (As := [.int (iI ((v : Nat) : Int)), .int (iI d)]) (rest := []) ⟨hx, hb, hml, hown, hts⟩ (c_X6_held l cg D ad st1 v (bN st1) (bM st1 v) hv hB1.1 hB1.2.1 (hB1.2.2.1 v hv).1 (hB1.2.2.1 v hv).2 d (by omega)) (cwV 2 hts gX6_holding_X6_held rfl rfl rfl (by decide +kernel) ⟨Nat.le_of_ble_eq_true rfl, Nat.le_of_ble_eq_true rfl⟩) (mk_preV hK hN hW 0 (by decide) rfl rfl rfl) rfl rfl hl.1 rfl (lv_room (Nat.le_of_ble_eq_true rfl)) dX6_holding_12 ⟨Nat.zero_le _, Nat.zero_le _⟩) hW (fun y st2 hp12 H locs hW => ?_)
    obtain ⟨est2, hy⟩ := hp12
    rw [est2] at hW
    have hy9 : y = bH st1 v d := hy
    have hyb : -37500000 ≤ bH st1 v d ∧ bH st1 v d ≤ 37500000 := hold_bd (v := (v : Int)) hB1.2.1 (hB1.2.2.1 v hv).2 d
    rw [← hy9] at hyb
    have hyn := hB1.2.2.2.2.1 v hv d
    rw [← hy9] at hyn
    refine lv_aload_n hx hb dX6_holding_15 rfl (lv_at hl 0 rfl) ?_
    refine lv_iload_n hx hb dX6_holding_16 rfl (lv_at hl 1 rfl) ?_
    refine lv_iload_n hx hb dX6_holding_17 rfl (lv_at hl 2 rfl) ?_
    refine mk_goI (va_runV (As := [.int (iI ((v : Nat) : Int)), .int (iI d)]) (rest := [.long (lI y)]) ⟨hx, hb, hml, hown, hts⟩ (c_X6_later l cg D ad st1 v (bM st1 v) d hv (hB1.2.2.1 v hv).1 (hB1.2.2.1 v hv).2 (by omega)) (cwV 2 hts gX6_holding_X6_later rfl rfl rfl (by decide +kernel) ⟨Nat.le_of_ble_eq_true rfl, Nat.le_of_ble_eq_true rfl⟩) (mk_preV hK hN hW 0 (by decide) rfl rfl rfl) rfl rfl hl.1 rfl (lv_room (Nat.le_of_ble_eq_true rfl)) dX6_holding_18 ⟨Nat.zero_le _, Nat.zero_le _⟩) hW (fun f st3 hp18 H locs hW => ?_)
    obtain ⟨est3, hf9⟩ := hp18
    rw [est3] at hW
    have hf8 : f = fla (bSD st1 v) (bSF st1 v) (bM st1 v) d := hf9
    have hfb := fla_bd (hB1.2.2.1 v hv).2 d
    rw [← hf8] at hfb
    refine mk_i2l hx hb dX6_holding_21 (by omega) ?_
    refine mk_ldiv hx hb dX6_holding_22 (by omega) (by omega) ?_
    refine mk_l2i hx hb dX6_holding_23 ?_
    refine lv_goto (tgt := 28) hx hb dX6_holding_24 (by decide) ?_
    exact mk_retI hx hb hr hlocks hW ⟨hM1, by omega, by rw [hy9, hf8, hM1.H, hM1.SD, hM1.SF, hM1.M]⟩ dX6_holding_28

set_option maxHeartbeats 4000000 in
set_option maxRecDepth 100000 in
theorem c_X6_placeOf (l : Launch) (cg : Nat → ClassId) (D : va_G) (ad : Nat → Nat) (st : Nat → Nat → Int) (d : Int) (R : Nat) (fD : Nat → Int) (hR : st 0 12 = R) (hR6 : R ≤ 60) (hD : ∀ r, r < R → st 11 r = fD r) (hDr : ∀ r, r < R → 0 ≤ fD r ∧ fD r < 1825) (hDs : ∀ r q, r < q → q < R → fD r < fD q) (hd : -2147483648 ≤ d ∧ d < 2147483648) : MI l yX6_placeOf wsX6_placeOf ({ frames := 0, cells := 0, slots := 0, locals := 0 }) D vwCl (TY cg) 26 (celM cg) ad st [.ref (ad 0), .int (iI d)] (fun z st1 => st1 = st ∧ ∃ q : Nat, cutR fD R d q ∧ z = (q : Int) - 1) := by
  refine mk_open (cc := cX6_placeOf) (maxL := 4) (ret := (some .int)) (by decide) rfl (Nat.le_of_ble_eq_true rfl) ?_
  intro p e s m args below meth c hx hb hml hr hown hts hlocks hK hN hargs ls hl hW
  have hown : s.vm.findClass RX6 = some m.cls := hown
  have hl : lv_has ls 4 [(0, .ref (ad 0)), (1, .int (iI d))] := hl
  have inX6 : ∀ w ∈ wsX60, w ∈ wsX6_placeOf := by decide +kernel
  have fl124 := hts (.fieldLink RX6 124 "GainsReckonerModel" "days" "I") (by decide +kernel)
  have fl45 := hts (.fieldLink RX6 45 "GainsReckonerModel" "date" "[I") (by decide +kernel)
  refine mk_iconst hx hb (-1) dX6_placeOf_0 ?_
  refine lv_istore_n (lv' := [(2, .int (iI (-1 : Int))), (0, .ref (ad 0)), (1, .int (iI d))]) hx hb dX6_placeOf_1 rfl hl (by decide) rfl (fun ls hl => ?_)
  refine mk_iconst hx hb (0) dX6_placeOf_2 ?_
  refine lv_istore_n (lv' := [(3, .int (iI 0)), (2, .int (iI (-1 : Int))), (0, .ref (ad 0)), (1, .int (iI d))]) hx hb dX6_placeOf_3 rfl hl (by decide) rfl (fun ls hl => ?_)
  have loop4 : ∀ (fuel : Nat) (k : Nat) (b : Int), (k ≤ R) → (∃ q : Nat, q ≤ k ∧ b = (q : Int) - 1 ∧ (∀ r, r < q → fD r ≤ d) ∧ ∀ r, q ≤ r → r < k → d < fD r) → R - k < fuel → ∀ (H : Heap) (locs : List Loc) (ls : Array Slot), GW D vwCl 26 (celM cg) ad (wA 26 ad) s.heap st H locs → lv_has ls 4 [(0, .ref (ad 0)), (1, .int (iI d)), (2, .int (iI b)), (3, .int (iI ((k : Nat) : Int)))] → W p l e (headSpec wsX6_placeOf ({ frames := 0, cells := 0, slots := 0, locals := 0 })).room s m args below meth c H locs 0 0 (MQ below (va_Qi (fun (r : Int32) (u : Nat → Nat → Int) => ∃ z : Int, r = iI z ∧ (fun z st1 => st1 = st ∧ ∃ q : Nat, cutR fD R d q ∧ z = (q : Int) - 1) z u) (mB D vwCl 26 (celM cg) ad) (wA 26 ad)) args s 0 0 (wA 26 ad)) (F0 m 4 ls []) := by
    intro fuel
    induction fuel with
    | zero => intro k b hk hq hmu; omega
    | succ fuel ih4 =>
      intro k b hk hq hmu H locs ls hW hl
      refine lv_iload_n hx hb dX6_placeOf_4 rfl (lv_at hl 3 rfl) ?_
      refine lv_aload_n hx hb dX6_placeOf_5 rfl (lv_at hl 0 rfl) ?_
      refine mk_get (ci := 6) (C := RX6) (T := TX6) (N := 30) hx hb hts inX6 hown hK hW 0 (by decide) rfl rfl 12 (by decide) fl124 (fun _ h9 => h9) rfl dX6_placeOf_6 ?_
      refine mk_sayi (y := ((R : Nat) : Int)) hR ?_
      refine mk_icmp_ge (tgt := 34) hx hb dX6_placeOf_9 (by decide) (by omega) (by omega) (fun c_9 => ?_) (fun c_9 => ?_)
      · skip
        refine lv_iload_n hx hb dX6_placeOf_34 rfl (lv_at hl 2 rfl) ?_
        exact mk_retI hx hb hr hlocks hW ⟨rfl, by obtain ⟨q, h1, h2, h3, h4⟩ := hq; exact ⟨q, ⟨by omega, h3, by rw [show R = k by omega]; exact h4⟩, h2⟩⟩ dX6_placeOf_35
      · skip
        refine lv_aload_n hx hb dX6_placeOf_12 rfl (lv_at hl 0 rfl) ?_
        refine mk_get (ci := 6) (C := RX6) (T := TX6) (N := 30) hx hb hts inX6 hown hK hW 0 (by decide) rfl rfl 13 (by decide) fl45 (fun _ h9 => h9) rfl dX6_placeOf_13 ?_
        refine lv_iload_n hx hb dX6_placeOf_16 rfl (lv_at hl 3 rfl) ?_
        refine mk_iald hx hb hK hW 11 (by decide) rfl 0 rfl (j := k) rfl (by omega) (by decide) dX6_placeOf_17 ?_
        have hD9 := hDr k (by omega)
        refine mk_sayi (y := (fD k)) (hD k (by omega)) ?_
        refine lv_iload_n hx hb dX6_placeOf_18 rfl (lv_at hl 1 rfl) ?_
        refine mk_icmp_gt (tgt := 26) hx hb dX6_placeOf_19 (by decide) (by omega) (by omega) (fun c_19 => ?_) (fun c_19 => ?_)
        · skip
          refine lv_iload_n hx hb dX6_placeOf_26 rfl (lv_at hl 2 rfl) ?_
          refine lv_istore_n (lv' := [(2, .int (iI b)), (0, .ref (ad 0)), (1, .int (iI d)), (3, .int (iI ((k : Nat) : Int)))]) hx hb dX6_placeOf_27 rfl hl (by decide) rfl (fun ls hl => ?_)
          refine mk_iinc (w := ((k + 1 : Nat) : Int)) (lv' := [(3, .int (iI ((k + 1 : Nat) : Int))), (2, .int (iI b)), (0, .ref (ad 0)), (1, .int (iI d))]) hx hb dX6_placeOf_28 hl (k := 3) rfl (by omega) (by decide) rfl (fun ls hl => ?_)
          refine lv_goto (tgt := 4) hx hb dX6_placeOf_31 (by decide) ?_
          exact ih4 (k + 1) b (by omega) (by
            obtain ⟨q, h1, h2, h3, h4⟩ := hq
            refine ⟨q, by omega, h2, h3, fun r h5 h6 => ?_⟩
            rcases Nat.lt_or_ge r k with y | y
            · exact h4 r h5 y
            · rw [show r = k by omega]; omega) (by omega) _ _ _ hW (lv_sub hl [2, 3, 1, 0] rfl)
        · skip
          refine lv_iload_n hx hb dX6_placeOf_22 rfl (lv_at hl 3 rfl) ?_
          refine lv_goto (tgt := 27) hx hb dX6_placeOf_23 (by decide) ?_
          refine lv_istore_n (lv' := [(2, .int (iI ((k : Nat) : Int))), (0, .ref (ad 0)), (1, .int (iI d)), (3, .int (iI ((k : Nat) : Int)))]) hx hb dX6_placeOf_27 rfl hl (by decide) rfl (fun ls hl => ?_)
          refine mk_iinc (w := ((k + 1 : Nat) : Int)) (lv' := [(3, .int (iI ((k + 1 : Nat) : Int))), (2, .int (iI ((k : Nat) : Int))), (0, .ref (ad 0)), (1, .int (iI d))]) hx hb dX6_placeOf_28 hl (k := 3) rfl (by omega) (by decide) rfl (fun ls hl => ?_)
          refine lv_goto (tgt := 4) hx hb dX6_placeOf_31 (by decide) ?_
          exact ih4 (k + 1) ((k : Nat) : Int) (by omega) (by
            refine ⟨k + 1, by omega, by push_cast; omega, fun r hr => ?_, fun r h1 h2 => absurd h2 (by omega)⟩
            rcases Nat.lt_or_ge r k with y | y
            · have := hDs r k y (by omega); omega
            · rw [show r = k by omega]; omega) (by omega) _ _ _ hW (lv_sub hl [2, 3, 1, 0] rfl)
  exact loop4 _ 0 (-1) (Nat.zero_le _) ⟨0, Nat.le_refl _, by omega, fun r hr => absurd hr (by omega), fun r h1 h2 => absurd h2 (by omega)⟩ (Nat.lt_succ_self _) _ _ _ hW (lv_sub hl [2, 3, 1, 0] rfl)

set_option maxHeartbeats 4000000 in
set_option maxRecDepth 100000 in
theorem c_X6_poolUnits (l : Launch) (cg : Nat → ClassId) (D : va_G) (ad : Nat → Nat) (st : Nat → Nat → Int) (v : Nat) (hB : BV st) (hv : v < 3) (R : Nat) (fD : Nat → Int) (hI : bRow st v R fD) (d : Int) (hd : 0 ≤ d ∧ d < 1825) : MI l yX6_poolUnits wsX6_poolUnits ({ frames := 3, cells := 0, slots := 0, locals := 79 }) D vwCl (TY cg) 26 (celM cg) ad st [.ref (ad 0), .int (iI ((v : Nat) : Int)), .int (iI d)] (fun z st1 => MW st st1 ∧ st1 0 29 = 0 ∧ ∃ q, cutR fD R d q ∧ z = bPU st v R fD q) := by
  refine mk_open (cc := cX6_poolUnits) (maxL := 4) (ret := (some .int)) (by decide) rfl (Nat.le_of_ble_eq_true rfl) ?_
  intro p e s m args below meth c hx hb hml hr hown hts hlocks hK hN hargs ls hl hW
  have hown : s.vm.findClass RX6 = some m.cls := hown
  have hl : lv_has ls 4 [(0, .ref (ad 0)), (1, .int (iI ((v : Nat) : Int))), (2, .int (iI d))] := hl
  have inX6 : ∀ w ∈ wsX60, w ∈ wsX6_poolUnits := by decide +kernel
  have fl67 := hts (.fieldLink RX6 67 "GainsReckonerModel" "units" "[J") (by decide +kernel)
  refine lv_aload_n hx hb dX6_poolUnits_0 rfl (lv_at hl 0 rfl) ?_
  refine lv_iload_n hx hb dX6_poolUnits_1 rfl (lv_at hl 1 rfl) ?_
  refine lv_iload_n hx hb dX6_poolUnits_2 rfl (lv_at hl 2 rfl) ?_
  refine mk_goI (va_runV (As := [.int (iI ((v : Nat) : Int)), .int (iI d)]) (rest := []) ⟨hx, hb, hml, hown, hts⟩ (c_X6_asks l cg D ad st (v : Int) d (by omega) (by omega)) (cwV 2 hts gX6_poolUnits_X6_asks rfl rfl rfl (by decide +kernel) ⟨Nat.le_of_ble_eq_true rfl, Nat.le_of_ble_eq_true rfl⟩) (mk_preV hK hN hW 0 (by decide) rfl rfl rfl) rfl rfl hl.1 rfl (lv_room (Nat.le_of_ble_eq_true rfl)) dX6_poolUnits_3 ⟨Nat.zero_le _, Nat.zero_le _⟩) hW (fun z st1 hp3 H locs hW => ?_)
  obtain ⟨est1, hz⟩ := hp3
  have hM1 : MW st st1 := by rw [est1]; exact MW.thr st _
  have h29 : st1 0 29 = 1 - z := by rw [est1]; rfl
  have hB1 : BV st1 := hB.mw hM1
  refine mk_if_ne (tgt := 11) hx hb dX6_poolUnits_6 (by decide) (by omega) (fun c_6 => ?_) (fun c_6 => ?_)
  · skip
    refine lv_aload_n hx hb dX6_poolUnits_11 rfl (lv_at hl 0 rfl) ?_
    refine lv_iload_n hx hb dX6_poolUnits_12 rfl (lv_at hl 1 rfl) ?_
    refine mk_goV (va_runV (As := [.int (iI ((v : Nat) : Int))]) (rest := []) ⟨hx, hb, hml, hown, hts⟩ (c_X6_reckons l cg D ad st1 v (bN st1) (bM st1 v) hv hB1.1 hB1.2.1 (hB1.2.2.1 v hv).1 (hB1.2.2.1 v hv).2 R fD (hM1.row hI) (st1 0 11) rfl hB1.2.2.2.1 (hB1.2.2.2.2.1 v hv)) (cwV 1 hts gX6_poolUnits_X6_reckons rfl rfl rfl (by decide +kernel) ⟨Nat.le_of_ble_eq_true rfl, Nat.le_of_ble_eq_true rfl⟩) (mk_preV hK hN hW 0 (by decide) rfl rfl rfl) rfl rfl hl.1 rfl (lv_room (Nat.le_of_ble_eq_true rfl)) dX6_poolUnits_13 ⟨Nat.zero_le _, Nat.zero_le _⟩) hW (fun st2 hp13 H locs hW => ?_)
    obtain ⟨hf2, ⟨hq0, hq1, hq2⟩, hmk⟩ := hp13
    have hmk : MOK R fD (bQ st1 v fD) (bC st1 v fD) (bS st1 v fD) (bP st1 v fD) (st1 0 11) st2 := hmk
    have hM12 : MW st1 st2 := MW.of hf2 (by decide) hq0 hq1
    have hM2 : MW st st2 := hM1.tr hM12
    have hB2 : BV st2 := hB.mw hM2
    have hRN := hB.RN hv hI
    have hR60 := hRN.1
    rw [hM1.Q, hM1.C, hM1.S, hM1.P, hM1.2.2] at hmk
    have hAM : AM st2 (bMM st v R fD) := hmk.2.2
    have hlen := bMM_len hB hv hI
    have h292 : st2 0 29 = 0 := by rw [hq2]; omega
    refine lv_aload_n hx hb dX6_poolUnits_16 rfl (lv_at hl 0 rfl) ?_
    refine lv_iload_n hx hb dX6_poolUnits_17 rfl (lv_at hl 2 rfl) ?_
    refine mk_goI (va_runV (As := [.int (iI d)]) (rest := []) ⟨hx, hb, hml, hown, hts⟩ (c_X6_placeOf l cg D ad st2 d R fD hmk.1 hRN.1 (fun r hr => (hmk.2.1 r hr).1) hRN.2.2.1 hRN.2.1 (by omega)) (cwV 1 hts gX6_poolUnits_X6_placeOf rfl rfl rfl (by decide +kernel) ⟨Nat.le_of_ble_eq_true rfl, Nat.le_of_ble_eq_true rfl⟩) (mk_preV hK hN hW 0 (by decide) rfl rfl rfl) rfl rfl hl.1 rfl (lv_room (Nat.le_of_ble_eq_true rfl)) dX6_poolUnits_18 ⟨Nat.zero_le _, Nat.zero_le _⟩) hW (fun y st4 hp18 H locs hW => ?_)
    obtain ⟨est4, ⟨q, hq, ey⟩⟩ := hp18
    rw [est4] at hW
    have hqR := hq.1
    refine lv_istore_n (lv' := [(3, .int (iI y)), (0, .ref (ad 0)), (1, .int (iI ((v : Nat) : Int))), (2, .int (iI d))]) hx hb dX6_poolUnits_21 rfl hl (by decide) rfl (fun ls hl => ?_)
    refine lv_iload_n hx hb dX6_poolUnits_22 rfl (lv_at hl 0 rfl) ?_
    refine mk_if_ge (tgt := 30) hx hb dX6_poolUnits_23 (by decide) (by omega) (fun c_23 => ?_) (fun c_23 => ?_)
    · skip
      refine lv_aload_n hx hb dX6_poolUnits_30 rfl (lv_at hl 1 rfl) ?_
      refine mk_get (ci := 6) (C := RX6) (T := TX6) (N := 30) hx hb hts inX6 hown hK hW 0 (by decide) rfl rfl 20 (by decide) fl67 (fun _ h9 => h9) rfl dX6_poolUnits_31 ?_
      obtain ⟨i, ei⟩ : ∃ i : Nat, q = i + 1 := ⟨q - 1, by omega⟩
      have ey2 : y = (i : Int) := by omega
      refine lv_iload_n hx hb dX6_poolUnits_34 rfl (lv_at hl 0 rfl) ?_
      refine mk_sayi (y := ((i : Nat) : Int)) ey2 ?_
      refine mk_lald hx hb hK hW 18 (by decide) rfl 2 rfl (j := i) rfl (by omega) (by decide) dX6_poolUnits_35 ?_
      refine mk_l2i hx hb dX6_poolUnits_36 ?_
      exact mk_retI hx hb hr hlocks hW ⟨hM2, h292, q, hq, by rw [(hmk.2.1 i (by omega)).2.1, ei]; rfl⟩ dX6_poolUnits_37
    · skip
      refine mk_iconst hx hb (0) dX6_poolUnits_26 ?_
      refine lv_goto (tgt := 37) hx hb dX6_poolUnits_27 (by decide) ?_
      exact mk_retI hx hb hr hlocks hW ⟨hM2, h292, q, hq, by rw [show q = 0 by omega]; rfl⟩ dX6_poolUnits_37
  · skip
    omega

set_option maxHeartbeats 4000000 in
set_option maxRecDepth 100000 in
theorem c_X6_poolCost (l : Launch) (cg : Nat → ClassId) (D : va_G) (ad : Nat → Nat) (st : Nat → Nat → Int) (v : Nat) (hB : BV st) (hv : v < 3) (R : Nat) (fD : Nat → Int) (hI : bRow st v R fD) (d : Int) (hd : 0 ≤ d ∧ d < 1825) : MI l yX6_poolCost wsX6_poolCost ({ frames := 3, cells := 0, slots := 0, locals := 79 }) D vwCl (TY cg) 26 (celM cg) ad st [.ref (ad 0), .int (iI ((v : Nat) : Int)), .int (iI d)] (fun z st1 => MW st st1 ∧ st1 0 29 = 0 ∧ ∃ q, cutR fD R d q ∧ z = bPC st v R fD q) := by
  refine mk_open (cc := cX6_poolCost) (maxL := 4) (ret := (some .int)) (by decide) rfl (Nat.le_of_ble_eq_true rfl) ?_
  intro p e s m args below meth c hx hb hml hr hown hts hlocks hK hN hargs ls hl hW
  have hown : s.vm.findClass RX6 = some m.cls := hown
  have hl : lv_has ls 4 [(0, .ref (ad 0)), (1, .int (iI ((v : Nat) : Int))), (2, .int (iI d))] := hl
  have inX6 : ∀ w ∈ wsX60, w ∈ wsX6_poolCost := by decide +kernel
  have fl70 := hts (.fieldLink RX6 70 "GainsReckonerModel" "value" "[J") (by decide +kernel)
  refine lv_aload_n hx hb dX6_poolCost_0 rfl (lv_at hl 0 rfl) ?_
  refine lv_iload_n hx hb dX6_poolCost_1 rfl (lv_at hl 1 rfl) ?_
  refine lv_iload_n hx hb dX6_poolCost_2 rfl (lv_at hl 2 rfl) ?_
  refine mk_goI (va_runV (As := [.int (iI ((v : Nat) : Int)), .int (iI d)]) (rest := []) ⟨hx, hb, hml, hown, hts⟩ (c_X6_asks l cg D ad st (v : Int) d (by omega) (by omega)) (cwV 2 hts gX6_poolCost_X6_asks rfl rfl rfl (by decide +kernel) ⟨Nat.le_of_ble_eq_true rfl, Nat.le_of_ble_eq_true rfl⟩) (mk_preV hK hN hW 0 (by decide) rfl rfl rfl) rfl rfl hl.1 rfl (lv_room (Nat.le_of_ble_eq_true rfl)) dX6_poolCost_3 ⟨Nat.zero_le _, Nat.zero_le _⟩) hW (fun z st1 hp3 H locs hW => ?_)
  obtain ⟨est1, hz⟩ := hp3
  have hM1 : MW st st1 := by rw [est1]; exact MW.thr st _
  have h29 : st1 0 29 = 1 - z := by rw [est1]; rfl
  have hB1 : BV st1 := hB.mw hM1
  refine mk_if_ne (tgt := 11) hx hb dX6_poolCost_6 (by decide) (by omega) (fun c_6 => ?_) (fun c_6 => ?_)
  · skip
    refine lv_aload_n hx hb dX6_poolCost_11 rfl (lv_at hl 0 rfl) ?_
    refine lv_iload_n hx hb dX6_poolCost_12 rfl (lv_at hl 1 rfl) ?_
    refine mk_goV (va_runV (As := [.int (iI ((v : Nat) : Int))]) (rest := []) ⟨hx, hb, hml, hown, hts⟩ (c_X6_reckons l cg D ad st1 v (bN st1) (bM st1 v) hv hB1.1 hB1.2.1 (hB1.2.2.1 v hv).1 (hB1.2.2.1 v hv).2 R fD (hM1.row hI) (st1 0 11) rfl hB1.2.2.2.1 (hB1.2.2.2.2.1 v hv)) (cwV 1 hts gX6_poolCost_X6_reckons rfl rfl rfl (by decide +kernel) ⟨Nat.le_of_ble_eq_true rfl, Nat.le_of_ble_eq_true rfl⟩) (mk_preV hK hN hW 0 (by decide) rfl rfl rfl) rfl rfl hl.1 rfl (lv_room (Nat.le_of_ble_eq_true rfl)) dX6_poolCost_13 ⟨Nat.zero_le _, Nat.zero_le _⟩) hW (fun st2 hp13 H locs hW => ?_)
    obtain ⟨hf2, ⟨hq0, hq1, hq2⟩, hmk⟩ := hp13
    have hmk : MOK R fD (bQ st1 v fD) (bC st1 v fD) (bS st1 v fD) (bP st1 v fD) (st1 0 11) st2 := hmk
    have hM12 : MW st1 st2 := MW.of hf2 (by decide) hq0 hq1
    have hM2 : MW st st2 := hM1.tr hM12
    have hB2 : BV st2 := hB.mw hM2
    have hRN := hB.RN hv hI
    have hR60 := hRN.1
    rw [hM1.Q, hM1.C, hM1.S, hM1.P, hM1.2.2] at hmk
    have hAM : AM st2 (bMM st v R fD) := hmk.2.2
    have hlen := bMM_len hB hv hI
    have h292 : st2 0 29 = 0 := by rw [hq2]; omega
    refine lv_aload_n hx hb dX6_poolCost_16 rfl (lv_at hl 0 rfl) ?_
    refine lv_iload_n hx hb dX6_poolCost_17 rfl (lv_at hl 2 rfl) ?_
    refine mk_goI (va_runV (As := [.int (iI d)]) (rest := []) ⟨hx, hb, hml, hown, hts⟩ (c_X6_placeOf l cg D ad st2 d R fD hmk.1 hRN.1 (fun r hr => (hmk.2.1 r hr).1) hRN.2.2.1 hRN.2.1 (by omega)) (cwV 1 hts gX6_poolCost_X6_placeOf rfl rfl rfl (by decide +kernel) ⟨Nat.le_of_ble_eq_true rfl, Nat.le_of_ble_eq_true rfl⟩) (mk_preV hK hN hW 0 (by decide) rfl rfl rfl) rfl rfl hl.1 rfl (lv_room (Nat.le_of_ble_eq_true rfl)) dX6_poolCost_18 ⟨Nat.zero_le _, Nat.zero_le _⟩) hW (fun y st4 hp18 H locs hW => ?_)
    obtain ⟨est4, ⟨q, hq, ey⟩⟩ := hp18
    rw [est4] at hW
    have hqR := hq.1
    refine lv_istore_n (lv' := [(3, .int (iI y)), (0, .ref (ad 0)), (1, .int (iI ((v : Nat) : Int))), (2, .int (iI d))]) hx hb dX6_poolCost_21 rfl hl (by decide) rfl (fun ls hl => ?_)
    refine lv_iload_n hx hb dX6_poolCost_22 rfl (lv_at hl 0 rfl) ?_
    refine mk_if_ge (tgt := 30) hx hb dX6_poolCost_23 (by decide) (by omega) (fun c_23 => ?_) (fun c_23 => ?_)
    · skip
      refine lv_aload_n hx hb dX6_poolCost_30 rfl (lv_at hl 1 rfl) ?_
      refine mk_get (ci := 6) (C := RX6) (T := TX6) (N := 30) hx hb hts inX6 hown hK hW 0 (by decide) rfl rfl 21 (by decide) fl70 (fun _ h9 => h9) rfl dX6_poolCost_31 ?_
      obtain ⟨i, ei⟩ : ∃ i : Nat, q = i + 1 := ⟨q - 1, by omega⟩
      have ey2 : y = (i : Int) := by omega
      refine lv_iload_n hx hb dX6_poolCost_34 rfl (lv_at hl 0 rfl) ?_
      refine mk_sayi (y := ((i : Nat) : Int)) ey2 ?_
      refine mk_lald hx hb hK hW 19 (by decide) rfl 2 rfl (j := i) rfl (by omega) (by decide) dX6_poolCost_35 ?_
      refine mk_l2i hx hb dX6_poolCost_36 ?_
      exact mk_retI hx hb hr hlocks hW ⟨hM2, h292, q, hq, by rw [(hmk.2.1 i (by omega)).2.2, ei]; rfl⟩ dX6_poolCost_37
    · skip
      refine mk_iconst hx hb (0) dX6_poolCost_26 ?_
      refine lv_goto (tgt := 37) hx hb dX6_poolCost_27 (by decide) ?_
      exact mk_retI hx hb hr hlocks hW ⟨hM2, h292, q, hq, by rw [show q = 0 by omega]; rfl⟩ dX6_poolCost_37
  · skip
    omega

