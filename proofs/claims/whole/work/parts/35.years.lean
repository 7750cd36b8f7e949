set_option maxHeartbeats 4000000 in
set_option maxRecDepth 100000 in
theorem c_X6_gain (l : Launch) (cg : Nat → ClassId) (D : va_G) (ad : Nat → Nat) (st : Nat → Nat → Int) (v : Nat) (hB : BV st) (hv : v < 3) (R : Nat) (fD : Nat → Int) (hI : bRow st v R fD) (y : Int) (hy : 0 ≤ y ∧ y ≤ 4) : MI l yX6_gain wsX6_gain ({ frames := 4, cells := 0, slots := 0, locals := 106 }) D vwCl (TY cg) 26 (celM cg) ad st [.ref (ad 0), .int (iI ((v : Nat) : Int)), .int (iI y)] (fun z st1 => MW st st1 ∧ st1 0 29 = 0 ∧ z = lsum (gG fD y) (bMM st v R fD)) := by
  refine mk_open (cc := cX6_gain) (maxL := 3) (ret := (some .int)) (by decide) rfl (Nat.le_of_ble_eq_true rfl) ?_
  intro p e s m args below meth c hx hb hml hr hown hts hlocks hK hN hargs ls hl hW
  have hown : s.vm.findClass RX6 = some m.cls := hown
  have hl : lv_has ls 3 [(0, .ref (ad 0)), (1, .int (iI ((v : Nat) : Int))), (2, .int (iI y))] := hl
  have inX6 : ∀ w ∈ wsX60, w ∈ wsX6_gain := by decide +kernel
  have fl91 := hts (.fieldLink RX6 91 "GainsReckonerModel" "thrown" "I") (by decide +kernel)
  refine lv_aload_n hx hb dX6_gain_0 rfl (lv_at hl 0 rfl) ?_
  refine lv_iload_n hx hb dX6_gain_1 rfl (lv_at hl 1 rfl) ?_
  refine mk_goI (va_runS (As := [.int (iI ((v : Nat) : Int))]) (rest := [.ref (ad 0)]) ⟨hx, hb, hml, hown, hts⟩ (c_X6_isShare l cg D ad st (v : Int) (by omega)) (cwS 1 hts gX6_gain_X6_isShare rfl rfl rfl (by decide +kernel) ⟨Nat.le_of_ble_eq_true rfl, Nat.le_of_ble_eq_true rfl⟩) (mk_preS hK hN hW) rfl rfl hl.1 rfl (lv_room (Nat.le_of_ble_eq_true rfl)) dX6_gain_2 ⟨Nat.zero_le _, Nat.zero_le _⟩) hW (fun z st1 hp2 H locs hW => ?_)
  obtain ⟨est1, hz⟩ := hp2
  rw [est1] at hW
  refine mk_if_eq (tgt := 21) hx hb dX6_gain_5 (by decide) (by omega) (fun c_5 => ?_) (fun c_5 => ?_)
  · skip
    omega
  · skip
    refine lv_iload_n hx hb dX6_gain_8 rfl (lv_at hl 2 rfl) ?_
    refine mk_iconst hx hb (0) dX6_gain_9 ?_
    refine mk_iconst hx hb (4) dX6_gain_10 ?_
    refine mk_goI (va_runS (As := [.int (iI y), .int (iI 0), .int (iI 4)]) (rest := [.ref (ad 0)]) ⟨hx, hb, hml, hown, hts⟩ (c_X6_isIn l cg D ad st y 0 4 (by omega) (by omega) (by omega)) (cwS 3 hts gX6_gain_X6_isIn rfl rfl rfl (by decide +kernel) ⟨Nat.le_of_ble_eq_true rfl, Nat.le_of_ble_eq_true rfl⟩) (mk_preS hK hN hW) rfl rfl hl.1 rfl (lv_room (Nat.le_of_ble_eq_true rfl)) dX6_gain_11 ⟨Nat.zero_le _, Nat.zero_le _⟩) hW (fun z2 st2 hp11 H locs hW => ?_)
    obtain ⟨est2, hz2⟩ := hp11
    rw [est2] at hW
    refine mk_if_eq (tgt := 21) hx hb dX6_gain_14 (by decide) (by omega) (fun c_14 => ?_) (fun c_14 => ?_)
    · skip
      omega
    · skip
      refine mk_iconst hx hb (0) dX6_gain_17 ?_
      refine lv_goto (tgt := 22) hx hb dX6_gain_18 (by decide) ?_
      refine mk_put (ci := 6) (C := RX6) (T := TX6) (N := 30) hx hb hts inX6 tyX6 tyX6_ok nmX6 hown hK hW 0 (by decide) rfl rfl 29 (by decide) fl91 (fun _ h9 => h9) rfl (by decide +kernel) (Nat.le_of_ble_eq_true rfl) rfl dX6_gain_22 (fun H locs hW => ?_)
      obtain ⟨st3, est3⟩ : ∃ z, z = stC st 0 (fnU (st 0) 29 0) := ⟨_, rfl⟩
      rw [← est3] at hW
      have hM1 : MW st st3 := by rw [est3]; exact MW.thr st _
      have hB1 : BV st3 := hB.mw hM1
      have h29 : st3 0 29 = 0 := by rw [est3]; rfl
      refine lv_aload_n hx hb dX6_gain_25 rfl (lv_at hl 0 rfl) ?_
      refine mk_get (ci := 6) (C := RX6) (T := TX6) (N := 30) hx hb hts inX6 hown hK hW 0 (by decide) rfl rfl 29 (by decide) fl91 (fun _ h9 => h9) rfl dX6_gain_26 ?_
      refine mk_sayi (y := 0) h29 ?_
      refine mk_if_le (tgt := 36) hx hb dX6_gain_29 (by decide) (by omega) (fun c_29 => ?_) (fun c_29 => ?_)
      · skip
        refine lv_aload_n hx hb dX6_gain_36 rfl (lv_at hl 0 rfl) ?_
        refine lv_iload_n hx hb dX6_gain_37 rfl (lv_at hl 1 rfl) ?_
        refine lv_iload_n hx hb dX6_gain_38 rfl (lv_at hl 2 rfl) ?_
        refine mk_goI (va_runV (As := [.int (iI ((v : Nat) : Int)), .int (iI y)]) (rest := []) ⟨hx, hb, hml, hown, hts⟩ (c_X6_gained l cg D ad st3 v hB1 hv R fD (hM1.row hI) y (by omega)) (cwV 2 hts gX6_gain_X6_gained rfl rfl rfl (by decide +kernel) ⟨Nat.le_of_ble_eq_true rfl, Nat.le_of_ble_eq_true rfl⟩) (mk_preV hK hN hW 0 (by decide) rfl rfl rfl) rfl rfl hl.1 rfl (lv_room (Nat.le_of_ble_eq_true rfl)) dX6_gain_39 ⟨Nat.zero_le _, Nat.zero_le _⟩) hW (fun g st4 hp39 H locs hW => ?_)
        obtain ⟨hM2, h292, hg⟩ := hp39
        rw [hM1.MM] at hg
        exact mk_retI hx hb hr hlocks hW ⟨hM1.tr hM2, by omega, hg⟩ dX6_gain_42
      · skip
        omega

set_option maxHeartbeats 4000000 in
set_option maxRecDepth 100000 in
theorem c_X6_gain_no (l : Launch) (cg : Nat → ClassId) (D : va_G) (ad : Nat → Nat) (st : Nat → Nat → Int) (a y : Int) (hB : BV st) (ha : -2147483648 ≤ a ∧ a < 2147483648) (hy : -2147483648 ≤ y ∧ y < 2147483648) (hno : ¬ ((0 ≤ a ∧ a ≤ 2) ∧ 0 ≤ y ∧ y ≤ 4)) : MI l yX6_gain wsX6_gain ({ frames := 4, cells := 0, slots := 0, locals := 106 }) D vwCl (TY cg) 26 (celM cg) ad st [.ref (ad 0), .int (iI a), .int (iI y)] (fun z st1 => MW st st1 ∧ st1 0 29 = 1) := by
  refine mk_open (cc := cX6_gain) (maxL := 3) (ret := (some .int)) (by decide) rfl (Nat.le_of_ble_eq_true rfl) ?_
  intro p e s m args below meth c hx hb hml hr hown hts hlocks hK hN hargs ls hl hW
  have hown : s.vm.findClass RX6 = some m.cls := hown
  have hl : lv_has ls 3 [(0, .ref (ad 0)), (1, .int (iI a)), (2, .int (iI y))] := hl
  have inX6 : ∀ w ∈ wsX60, w ∈ wsX6_gain := by decide +kernel
  have fl91 := hts (.fieldLink RX6 91 "GainsReckonerModel" "thrown" "I") (by decide +kernel)
  refine lv_aload_n hx hb dX6_gain_0 rfl (lv_at hl 0 rfl) ?_
  refine lv_iload_n hx hb dX6_gain_1 rfl (lv_at hl 1 rfl) ?_
  refine mk_goI (va_runS (As := [.int (iI a)]) (rest := [.ref (ad 0)]) ⟨hx, hb, hml, hown, hts⟩ (c_X6_isShare l cg D ad st a (by omega)) (cwS 1 hts gX6_gain_X6_isShare rfl rfl rfl (by decide +kernel) ⟨Nat.le_of_ble_eq_true rfl, Nat.le_of_ble_eq_true rfl⟩) (mk_preS hK hN hW) rfl rfl hl.1 rfl (lv_room (Nat.le_of_ble_eq_true rfl)) dX6_gain_2 ⟨Nat.zero_le _, Nat.zero_le _⟩) hW (fun z st1 hp2 H locs hW => ?_)
  obtain ⟨est1, hz⟩ := hp2
  rw [est1] at hW
  refine mk_if_eq (tgt := 21) hx hb dX6_gain_5 (by decide) (by omega) (fun c_5 => ?_) (fun c_5 => ?_)
  · skip
    refine mk_iconst hx hb (1) dX6_gain_21 ?_
    refine mk_put (ci := 6) (C := RX6) (T := TX6) (N := 30) hx hb hts inX6 tyX6 tyX6_ok nmX6 hown hK hW 0 (by decide) rfl rfl 29 (by decide) fl91 (fun _ h9 => h9) rfl (by decide +kernel) (Nat.le_of_ble_eq_true rfl) rfl dX6_gain_22 (fun H locs hW => ?_)
    obtain ⟨st2, est2⟩ : ∃ z, z = stC st 0 (fnU (st 0) 29 1) := ⟨_, rfl⟩
    rw [← est2] at hW
    have hM1 : MW st st2 := by rw [est2]; exact MW.thr st _
    have hB1 : BV st2 := hB.mw hM1
    have h29 : st2 0 29 = 1 := by rw [est2]; rfl
    refine lv_aload_n hx hb dX6_gain_25 rfl (lv_at hl 0 rfl) ?_
    refine mk_get (ci := 6) (C := RX6) (T := TX6) (N := 30) hx hb hts inX6 hown hK hW 0 (by decide) rfl rfl 29 (by decide) fl91 (fun _ h9 => h9) rfl dX6_gain_26 ?_
    refine mk_sayi (y := 1) h29 ?_
    refine mk_if_le (tgt := 36) hx hb dX6_gain_29 (by decide) (by omega) (fun c_29 => ?_) (fun c_29 => ?_)
    · skip
      omega
    · skip
      refine mk_iconst hx hb (0) dX6_gain_32 ?_
      refine lv_goto (tgt := 42) hx hb dX6_gain_33 (by decide) ?_
      exact mk_retI hx hb hr hlocks hW ⟨hM1, h29⟩ dX6_gain_42
  · skip
    refine lv_iload_n hx hb dX6_gain_8 rfl (lv_at hl 2 rfl) ?_
    refine mk_iconst hx hb (0) dX6_gain_9 ?_
    refine mk_iconst hx hb (4) dX6_gain_10 ?_
    refine mk_goI (va_runS (As := [.int (iI y), .int (iI 0), .int (iI 4)]) (rest := [.ref (ad 0)]) ⟨hx, hb, hml, hown, hts⟩ (c_X6_isIn l cg D ad st y 0 4 (by omega) (by omega) (by omega)) (cwS 3 hts gX6_gain_X6_isIn rfl rfl rfl (by decide +kernel) ⟨Nat.le_of_ble_eq_true rfl, Nat.le_of_ble_eq_true rfl⟩) (mk_preS hK hN hW) rfl rfl hl.1 rfl (lv_room (Nat.le_of_ble_eq_true rfl)) dX6_gain_11 ⟨Nat.zero_le _, Nat.zero_le _⟩) hW (fun z2 st3 hp11 H locs hW => ?_)
    obtain ⟨est3, hz2⟩ := hp11
    rw [est3] at hW
    refine mk_if_eq (tgt := 21) hx hb dX6_gain_14 (by decide) (by omega) (fun c_14 => ?_) (fun c_14 => ?_)
    · skip
      refine mk_iconst hx hb (1) dX6_gain_21 ?_
      refine mk_put (ci := 6) (C := RX6) (T := TX6) (N := 30) hx hb hts inX6 tyX6 tyX6_ok nmX6 hown hK hW 0 (by decide) rfl rfl 29 (by decide) fl91 (fun _ h9 => h9) rfl (by decide +kernel) (Nat.le_of_ble_eq_true rfl) rfl dX6_gain_22 (fun H locs hW => ?_)
      obtain ⟨st4, est4⟩ : ∃ z, z = stC st 0 (fnU (st 0) 29 1) := ⟨_, rfl⟩
      rw [← est4] at hW
      have hM1 : MW st st4 := by rw [est4]; exact MW.thr st _
      have hB1 : BV st4 := hB.mw hM1
      have h29 : st4 0 29 = 1 := by rw [est4]; rfl
      refine lv_aload_n hx hb dX6_gain_25 rfl (lv_at hl 0 rfl) ?_
      refine mk_get (ci := 6) (C := RX6) (T := TX6) (N := 30) hx hb hts inX6 hown hK hW 0 (by decide) rfl rfl 29 (by decide) fl91 (fun _ h9 => h9) rfl dX6_gain_26 ?_
      refine mk_sayi (y := 1) h29 ?_
      refine mk_if_le (tgt := 36) hx hb dX6_gain_29 (by decide) (by omega) (fun c_29 => ?_) (fun c_29 => ?_)
      · skip
        omega
      · skip
        refine mk_iconst hx hb (0) dX6_gain_32 ?_
        refine lv_goto (tgt := 42) hx hb dX6_gain_33 (by decide) ?_
        exact mk_retI hx hb hr hlocks hW ⟨hM1, h29⟩ dX6_gain_42
    · skip
      omega

set_option maxHeartbeats 4000000 in
set_option maxRecDepth 100000 in
theorem c_X6_netOf (l : Launch) (cg : Nat → ClassId) (D : va_G) (ad : Nat → Nat) (st : Nat → Nat → Int) (y : Int) (hB : BV st) (RR : Nat → Nat) (DD : Nat → Nat → Int) (hI : bRows st RR DD) (hy : -2147483648 ≤ y ∧ y < 2147483648) : MI l yX6_netOf wsX6_netOf ({ frames := 4, cells := 0, slots := 0, locals := 106 }) D vwCl (TY cg) 26 (celM cg) ad st [.ref (ad 0), .int (iI y)] (fun z st1 => MW st st1 ∧ st1 0 29 = st 0 29 ∧ z = yN st RR DD y) := by
  refine mk_open (cc := cX6_netOf) (maxL := 2) (ret := (some .int)) (by decide) rfl (Nat.le_of_ble_eq_true rfl) ?_
  intro p e s m args below meth c hx hb hml hr hown hts hlocks hK hN hargs ls hl hW
  have hown : s.vm.findClass RX6 = some m.cls := hown
  have hl : lv_has ls 2 [(0, .ref (ad 0)), (1, .int (iI y))] := hl
  refine lv_aload_n hx hb dX6_netOf_0 rfl (lv_at hl 0 rfl) ?_
  refine mk_iconst hx hb (0) dX6_netOf_1 ?_
  refine mk_sayi (y := ((0 : Nat) : Int)) rfl ?_
  refine lv_iload_n hx hb dX6_netOf_2 rfl (lv_at hl 1 rfl) ?_
  refine mk_goI (va_runV (As := [.int (iI ((0 : Nat) : Int)), .int (iI y)]) (rest := []) ⟨hx, hb, hml, hown, hts⟩ (c_X6_gained l cg D ad st 0 hB (by omega) (RR 0) (DD 0) (hI 0 (by omega)) y hy) (cwV 2 hts gX6_netOf_X6_gained rfl rfl rfl (by decide +kernel) ⟨Nat.le_of_ble_eq_true rfl, Nat.le_of_ble_eq_true rfl⟩) (mk_preV hK hN hW 0 (by decide) rfl rfl rfl) rfl rfl hl.1 rfl (lv_room (Nat.le_of_ble_eq_true rfl)) dX6_netOf_3 ⟨Nat.zero_le _, Nat.zero_le _⟩) hW (fun g0 st1 hp3 H locs hW => ?_)
  obtain ⟨hB0, hT0, hG0⟩ := hp3
  have hA0 := hB0
  refine lv_aload_n hx hb dX6_netOf_6 rfl (lv_at hl 0 rfl) ?_
  refine mk_iconst hx hb (1) dX6_netOf_7 ?_
  refine mk_sayi (y := ((1 : Nat) : Int)) rfl ?_
  refine lv_iload_n hx hb dX6_netOf_8 rfl (lv_at hl 1 rfl) ?_
  refine mk_goI (va_runV (As := [.int (iI ((1 : Nat) : Int)), .int (iI y)]) (rest := [.int (iI g0)]) ⟨hx, hb, hml, hown, hts⟩ (c_X6_gained l cg D ad st1 1 (hB.mw hA0) (by omega) (RR 1) (DD 1) (hA0.row (hI 1 (by omega))) y hy) (cwV 2 hts gX6_netOf_X6_gained rfl rfl rfl (by decide +kernel) ⟨Nat.le_of_ble_eq_true rfl, Nat.le_of_ble_eq_true rfl⟩) (mk_preV hK hN hW 0 (by decide) rfl rfl rfl) rfl rfl hl.1 rfl (lv_room (Nat.le_of_ble_eq_true rfl)) dX6_netOf_9 ⟨Nat.zero_le _, Nat.zero_le _⟩) hW (fun g1 st2 hp9 H locs hW => ?_)
  obtain ⟨hB1, hT1, hG1⟩ := hp9
  rw [hA0.MM] at hG1
  have hA1 := hA0.tr hB1
  refine mk_iadd hx hb dX6_netOf_12 ?_
  refine lv_aload_n hx hb dX6_netOf_13 rfl (lv_at hl 0 rfl) ?_
  refine mk_iconst hx hb (2) dX6_netOf_14 ?_
  refine mk_sayi (y := ((2 : Nat) : Int)) rfl ?_
  refine lv_iload_n hx hb dX6_netOf_15 rfl (lv_at hl 1 rfl) ?_
  refine mk_goI (va_runV (As := [.int (iI ((2 : Nat) : Int)), .int (iI y)]) (rest := [.int (iI (g0 + g1))]) ⟨hx, hb, hml, hown, hts⟩ (c_X6_gained l cg D ad st2 2 (hB.mw hA1) (by omega) (RR 2) (DD 2) (hA1.row (hI 2 (by omega))) y hy) (cwV 2 hts gX6_netOf_X6_gained rfl rfl rfl (by decide +kernel) ⟨Nat.le_of_ble_eq_true rfl, Nat.le_of_ble_eq_true rfl⟩) (mk_preV hK hN hW 0 (by decide) rfl rfl rfl) rfl rfl hl.1 rfl (lv_room (Nat.le_of_ble_eq_true rfl)) dX6_netOf_16 ⟨Nat.zero_le _, Nat.zero_le _⟩) hW (fun g2 st3 hp16 H locs hW => ?_)
  obtain ⟨hB2, hT2, hG2⟩ := hp16
  rw [hA1.MM] at hG2
  have hA2 := hA1.tr hB2
  refine mk_iadd hx hb dX6_netOf_19 ?_
  exact mk_retI hx hb hr hlocks hW ⟨hA2, by omega, by rw [hG0, hG1, hG2]; rfl⟩ dX6_netOf_20

set_option maxHeartbeats 4000000 in
set_option maxRecDepth 100000 in
theorem c_X6_isYear (l : Launch) (cg : Nat → ClassId) (D : va_G) (ad : Nat → Nat) (st : Nat → Nat → Int) (a : Int) (ha : -2147483648 ≤ a ∧ a < 2147483648) : MI l yX6_isYear wsX6_isYear ({ frames := 1, cells := 0, slots := 0, locals := 22 }) D vwCl (TY cg) 26 (celM cg) ad st [.ref (ad 0), .int (iI a)] (fun z st1 => st1 = stC st 0 (fnU (st 0) 29 (1 - z)) ∧ ((z = 1 ∧ 0 ≤ a ∧ a ≤ 4) ∨ (z = 0 ∧ ¬ (0 ≤ a ∧ a ≤ 4)))) := by
  refine mk_open (cc := cX6_isYear) (maxL := 2) (ret := (some .boolean)) (by decide) rfl (Nat.le_of_ble_eq_true rfl) ?_
  intro p e s m args below meth c hx hb hml hr hown hts hlocks hK hN hargs ls hl hW
  have hown : s.vm.findClass RX6 = some m.cls := hown
  have hl : lv_has ls 2 [(0, .ref (ad 0)), (1, .int (iI a))] := hl
  have inX6 : ∀ w ∈ wsX60, w ∈ wsX6_isYear := by decide +kernel
  have fl91 := hts (.fieldLink RX6 91 "GainsReckonerModel" "thrown" "I") (by decide +kernel)
  refine lv_aload_n hx hb dX6_isYear_0 rfl (lv_at hl 0 rfl) ?_
  refine lv_iload_n hx hb dX6_isYear_1 rfl (lv_at hl 1 rfl) ?_
  refine mk_iconst hx hb (0) dX6_isYear_2 ?_
  refine mk_iconst hx hb (4) dX6_isYear_3 ?_
  refine mk_goI (va_runS (As := [.int (iI a), .int (iI 0), .int (iI 4)]) (rest := [.ref (ad 0)]) ⟨hx, hb, hml, hown, hts⟩ (c_X6_isIn l cg D ad st a 0 4 (by omega) (by omega) (by omega)) (cwS 3 hts gX6_isYear_X6_isIn rfl rfl rfl (by decide +kernel) ⟨Nat.le_of_ble_eq_true rfl, Nat.le_of_ble_eq_true rfl⟩) (mk_preS hK hN hW) rfl rfl hl.1 rfl (lv_room (Nat.le_of_ble_eq_true rfl)) dX6_isYear_4 ⟨Nat.zero_le _, Nat.zero_le _⟩) hW (fun z2 st1 hp4 H locs hW => ?_)
  obtain ⟨est1, hz2⟩ := hp4
  rw [est1] at hW
  refine mk_if_eq (tgt := 14) hx hb dX6_isYear_7 (by decide) (by omega) (fun c_7 => ?_) (fun c_7 => ?_)
  · skip
    refine mk_iconst hx hb (1) dX6_isYear_14 ?_
    refine mk_put (ci := 6) (C := RX6) (T := TX6) (N := 30) hx hb hts inX6 tyX6 tyX6_ok nmX6 hown hK hW 0 (by decide) rfl rfl 29 (by decide) fl91 (fun _ h9 => h9) rfl (by decide +kernel) (Nat.le_of_ble_eq_true rfl) rfl dX6_isYear_15 (fun H locs hW => ?_)
    obtain ⟨st2, est2⟩ : ∃ z, z = stC st 0 (fnU (st 0) 29 1) := ⟨_, rfl⟩
    rw [← est2] at hW
    have hv9 : st2 0 29 = 1 := by rw [est2]; rfl
    refine lv_aload_n hx hb dX6_isYear_18 rfl (lv_at hl 0 rfl) ?_
    refine mk_get (ci := 6) (C := RX6) (T := TX6) (N := 30) hx hb hts inX6 hown hK hW 0 (by decide) rfl rfl 29 (by decide) fl91 (fun _ h9 => h9) rfl dX6_isYear_19 ?_
    refine mk_sayi (y := 1) hv9 ?_
    refine mk_if_ne (tgt := 29) hx hb dX6_isYear_22 (by decide) (by omega) (fun c_22 => ?_) (fun c_22 => ?_)
    · skip
      refine mk_iconst hx hb (0) dX6_isYear_29 ?_
      exact mk_retZ hx hb hr hlocks hW (by omega) ⟨est2, Or.inr ⟨rfl, by omega⟩⟩ dX6_isYear_30
    · skip
      omega
  · skip
    refine mk_iconst hx hb (0) dX6_isYear_10 ?_
    refine lv_goto (tgt := 15) hx hb dX6_isYear_11 (by decide) ?_
    refine mk_put (ci := 6) (C := RX6) (T := TX6) (N := 30) hx hb hts inX6 tyX6 tyX6_ok nmX6 hown hK hW 0 (by decide) rfl rfl 29 (by decide) fl91 (fun _ h9 => h9) rfl (by decide +kernel) (Nat.le_of_ble_eq_true rfl) rfl dX6_isYear_15 (fun H locs hW => ?_)
    obtain ⟨st3, est3⟩ : ∃ z, z = stC st 0 (fnU (st 0) 29 0) := ⟨_, rfl⟩
    rw [← est3] at hW
    have hv9 : st3 0 29 = 0 := by rw [est3]; rfl
    refine lv_aload_n hx hb dX6_isYear_18 rfl (lv_at hl 0 rfl) ?_
    refine mk_get (ci := 6) (C := RX6) (T := TX6) (N := 30) hx hb hts inX6 hown hK hW 0 (by decide) rfl rfl 29 (by decide) fl91 (fun _ h9 => h9) rfl dX6_isYear_19 ?_
    refine mk_sayi (y := 0) hv9 ?_
    refine mk_if_ne (tgt := 29) hx hb dX6_isYear_22 (by decide) (by omega) (fun c_22 => ?_) (fun c_22 => ?_)
    · skip
      omega
    · skip
      refine mk_iconst hx hb (1) dX6_isYear_25 ?_
      refine lv_goto (tgt := 30) hx hb dX6_isYear_26 (by decide) ?_
      exact mk_retZ hx hb hr hlocks hW (by omega) ⟨est3, Or.inl ⟨rfl, by omega, by omega⟩⟩ dX6_isYear_30

set_option maxHeartbeats 4000000 in
set_option maxRecDepth 100000 in
theorem c_X6_net_no (l : Launch) (cg : Nat → ClassId) (D : va_G) (ad : Nat → Nat) (st : Nat → Nat → Int) (a : Int) (hB : BV st) (ha : -2147483648 ≤ a ∧ a < 2147483648) (hno : ¬ (0 ≤ a ∧ a ≤ 4)) : MI l yX6_net wsX6_net ({ frames := 2, cells := 0, slots := 0, locals := 50 }) D vwCl (TY cg) 26 (celM cg) ad st [.ref (ad 0), .int (iI a)] (fun z st1 => MW st st1 ∧ st1 0 29 = 1) := by
  refine mk_open (cc := cX6_net) (maxL := 2) (ret := (some .int)) (by decide) rfl (Nat.le_of_ble_eq_true rfl) ?_
  intro p e s m args below meth c hx hb hml hr hown hts hlocks hK hN hargs ls hl hW
  have hown : s.vm.findClass RX6 = some m.cls := hown
  have hl : lv_has ls 2 [(0, .ref (ad 0)), (1, .int (iI a))] := hl
  refine lv_aload_n hx hb dX6_net_0 rfl (lv_at hl 0 rfl) ?_
  refine lv_iload_n hx hb dX6_net_1 rfl (lv_at hl 1 rfl) ?_
  refine mk_goI (va_runV (As := [.int (iI a)]) (rest := []) ⟨hx, hb, hml, hown, hts⟩ (c_X6_isYear l cg D ad st a (by omega)) (cwV 1 hts gX6_net_X6_isYear rfl rfl rfl (by decide +kernel) ⟨Nat.le_of_ble_eq_true rfl, Nat.le_of_ble_eq_true rfl⟩) (mk_preV hK hN hW 0 (by decide) rfl rfl rfl) rfl rfl hl.1 rfl (lv_room (Nat.le_of_ble_eq_true rfl)) dX6_net_2 ⟨Nat.zero_le _, Nat.zero_le _⟩) hW (fun z st1 hp2 H locs hW => ?_)
  obtain ⟨est1, hz⟩ := hp2
  have hM1 : MW st st1 := by rw [est1]; exact MW.thr st _
  have h29 : st1 0 29 = 1 - z := by rw [est1]; rfl
  have hB1 : BV st1 := hB.mw hM1
  refine mk_if_eq (tgt := 16) hx hb dX6_net_5 (by decide) (by omega) (fun c_5 => ?_) (fun c_5 => ?_)
  · skip
    refine mk_iconst hx hb (0) dX6_net_16 ?_
    exact mk_retI hx hb hr hlocks hW ⟨hM1, by omega⟩ dX6_net_17
  · skip
    omega

set_option maxHeartbeats 4000000 in
set_option maxRecDepth 100000 in
theorem c_X6_carried_no (l : Launch) (cg : Nat → ClassId) (D : va_G) (ad : Nat → Nat) (st : Nat → Nat → Int) (a : Int) (hB : BV st) (ha : -2147483648 ≤ a ∧ a < 2147483648) (hno : ¬ (0 ≤ a ∧ a ≤ 4)) : MI l yX6_carried wsX6_carried ({ frames := 2, cells := 0, slots := 0, locals := 50 }) D vwCl (TY cg) 26 (celM cg) ad st [.ref (ad 0), .int (iI a)] (fun z st1 => MW st st1 ∧ st1 0 29 = 1) := by
  refine mk_open (cc := cX6_carried) (maxL := 2) (ret := (some .int)) (by decide) rfl (Nat.le_of_ble_eq_true rfl) ?_
  intro p e s m args below meth c hx hb hml hr hown hts hlocks hK hN hargs ls hl hW
  have hown : s.vm.findClass RX6 = some m.cls := hown
  have hl : lv_has ls 2 [(0, .ref (ad 0)), (1, .int (iI a))] := hl
  refine lv_aload_n hx hb dX6_carried_0 rfl (lv_at hl 0 rfl) ?_
  refine lv_iload_n hx hb dX6_carried_1 rfl (lv_at hl 1 rfl) ?_
  refine mk_goI (va_runV (As := [.int (iI a)]) (rest := []) ⟨hx, hb, hml, hown, hts⟩ (c_X6_isYear l cg D ad st a (by omega)) (cwV 1 hts gX6_carried_X6_isYear rfl rfl rfl (by decide +kernel) ⟨Nat.le_of_ble_eq_true rfl, Nat.le_of_ble_eq_true rfl⟩) (mk_preV hK hN hW 0 (by decide) rfl rfl rfl) rfl rfl hl.1 rfl (lv_room (Nat.le_of_ble_eq_true rfl)) dX6_carried_2 ⟨Nat.zero_le _, Nat.zero_le _⟩) hW (fun z st1 hp2 H locs hW => ?_)
  obtain ⟨est1, hz⟩ := hp2
  have hM1 : MW st st1 := by rw [est1]; exact MW.thr st _
  have h29 : st1 0 29 = 1 - z := by rw [est1]; rfl
  have hB1 : BV st1 := hB.mw hM1
  refine mk_if_eq (tgt := 18) hx hb dX6_carried_5 (by decide) (by omega) (fun c_5 => ?_) (fun c_5 => ?_)
  · skip
    refine mk_iconst hx hb (0) dX6_carried_18 ?_
    exact mk_retI hx hb hr hlocks hW ⟨hM1, by omega⟩ dX6_carried_19
  · skip
    omega

set_option maxHeartbeats 4000000 in
set_option maxRecDepth 100000 in
theorem c_X6_taxable_no (l : Launch) (cg : Nat → ClassId) (D : va_G) (ad : Nat → Nat) (st : Nat → Nat → Int) (a : Int) (hB : BV st) (ha : -2147483648 ≤ a ∧ a < 2147483648) (hno : ¬ (0 ≤ a ∧ a ≤ 4)) : MI l yX6_taxable wsX6_taxable ({ frames := 2, cells := 0, slots := 0, locals := 50 }) D vwCl (TY cg) 26 (celM cg) ad st [.ref (ad 0), .int (iI a)] (fun z st1 => MW st st1 ∧ st1 0 29 = 1) := by
  refine mk_open (cc := cX6_taxable) (maxL := 3) (ret := (some .int)) (by decide) rfl (Nat.le_of_ble_eq_true rfl) ?_
  intro p e s m args below meth c hx hb hml hr hown hts hlocks hK hN hargs ls hl hW
  have hown : s.vm.findClass RX6 = some m.cls := hown
  have hl : lv_has ls 3 [(0, .ref (ad 0)), (1, .int (iI a))] := hl
  refine lv_aload_n hx hb dX6_taxable_0 rfl (lv_at hl 0 rfl) ?_
  refine lv_iload_n hx hb dX6_taxable_1 rfl (lv_at hl 1 rfl) ?_
  refine mk_goI (va_runV (As := [.int (iI a)]) (rest := []) ⟨hx, hb, hml, hown, hts⟩ (c_X6_isYear l cg D ad st a (by omega)) (cwV 1 hts gX6_taxable_X6_isYear rfl rfl rfl (by decide +kernel) ⟨Nat.le_of_ble_eq_true rfl, Nat.le_of_ble_eq_true rfl⟩) (mk_preV hK hN hW 0 (by decide) rfl rfl rfl) rfl rfl hl.1 rfl (lv_room (Nat.le_of_ble_eq_true rfl)) dX6_taxable_2 ⟨Nat.zero_le _, Nat.zero_le _⟩) hW (fun z st1 hp2 H locs hW => ?_)
  obtain ⟨est1, hz⟩ := hp2
  have hM1 : MW st st1 := by rw [est1]; exact MW.thr st _
  have h29 : st1 0 29 = 1 - z := by rw [est1]; rfl
  have hB1 : BV st1 := hB.mw hM1
  refine mk_if_ne (tgt := 10) hx hb dX6_taxable_5 (by decide) (by omega) (fun c_5 => ?_) (fun c_5 => ?_)
  · skip
    omega
  · skip
    refine mk_iconst hx hb (0) dX6_taxable_8 ?_
    exact mk_retI hx hb hr hlocks hW ⟨hM1, by omega⟩ dX6_taxable_9

set_option maxHeartbeats 4000000 in
set_option maxRecDepth 100000 in
theorem c_X6_net (l : Launch) (cg : Nat → ClassId) (D : va_G) (ad : Nat → Nat) (st : Nat → Nat → Int) (y : Nat) (hB : BV st) (RR : Nat → Nat) (DD : Nat → Nat → Int) (hI : bRows st RR DD) (hy : y < 5) : MI l yX6_net wsX6_net ({ frames := 5, cells := 0, slots := 0, locals := 129 }) D vwCl (TY cg) 26 (celM cg) ad st [.ref (ad 0), .int (iI ((y : Nat) : Int))] (fun z st1 => MW st st1 ∧ st1 0 29 = 0 ∧ z = yN st RR DD y) := by
  refine mk_open (cc := cX6_net) (maxL := 2) (ret := (some .int)) (by decide) rfl (Nat.le_of_ble_eq_true rfl) ?_
  intro p e s m args below meth c hx hb hml hr hown hts hlocks hK hN hargs ls hl hW
  have hown : s.vm.findClass RX6 = some m.cls := hown
  have hl : lv_has ls 2 [(0, .ref (ad 0)), (1, .int (iI ((y : Nat) : Int)))] := hl
  refine lv_aload_n hx hb dX6_net_0 rfl (lv_at hl 0 rfl) ?_
  refine lv_iload_n hx hb dX6_net_1 rfl (lv_at hl 1 rfl) ?_
  refine mk_goI (va_runV (As := [.int (iI ((y : Nat) : Int))]) (rest := []) ⟨hx, hb, hml, hown, hts⟩ (c_X6_isYear l cg D ad st (y : Int) (by omega)) (cwV 1 hts gX6_net_X6_isYear rfl rfl rfl (by decide +kernel) ⟨Nat.le_of_ble_eq_true rfl, Nat.le_of_ble_eq_true rfl⟩) (mk_preV hK hN hW 0 (by decide) rfl rfl rfl) rfl rfl hl.1 rfl (lv_room (Nat.le_of_ble_eq_true rfl)) dX6_net_2 ⟨Nat.zero_le _, Nat.zero_le _⟩) hW (fun z st1 hp2 H locs hW => ?_)
  obtain ⟨est1, hz⟩ := hp2
  have hM1 : MW st st1 := by rw [est1]; exact MW.thr st _
  have h29 : st1 0 29 = 1 - z := by rw [est1]; rfl
  have hB1 : BV st1 := hB.mw hM1
  refine mk_if_eq (tgt := 16) hx hb dX6_net_5 (by decide) (by omega) (fun c_5 => ?_) (fun c_5 => ?_)
  · skip
    omega
  · skip
    refine lv_aload_n hx hb dX6_net_8 rfl (lv_at hl 0 rfl) ?_
    refine lv_iload_n hx hb dX6_net_9 rfl (lv_at hl 1 rfl) ?_
    refine mk_goI (va_runV (As := [.int (iI ((y : Nat) : Int))]) (rest := []) ⟨hx, hb, hml, hown, hts⟩ (c_X6_netOf l cg D ad st1 (y : Int) hB1 RR DD (hM1.rows hI) (by omega)) (cwV 1 hts gX6_net_X6_netOf rfl rfl rfl (by decide +kernel) ⟨Nat.le_of_ble_eq_true rfl, Nat.le_of_ble_eq_true rfl⟩) (mk_preV hK hN hW 0 (by decide) rfl rfl rfl) rfl rfl hl.1 rfl (lv_room (Nat.le_of_ble_eq_true rfl)) dX6_net_10 ⟨Nat.zero_le _, Nat.zero_le _⟩) hW (fun g st2 hp10 H locs hW => ?_)
    obtain ⟨hM2, h292, hg⟩ := hp10
    rw [hM1.ny] at hg
    refine lv_goto (tgt := 17) hx hb dX6_net_13 (by decide) ?_
    exact mk_retI hx hb hr hlocks hW ⟨hM1.tr hM2, by omega, hg⟩ dX6_net_17

set_option maxHeartbeats 4000000 in
set_option maxRecDepth 100000 in
theorem c_X6_above (l : Launch) (cg : Nat → ClassId) (D : va_G) (ad : Nat → Nat) (st : Nat → Nat → Int) (y : Nat) (hB : BV st) (RR : Nat → Nat) (DD : Nat → Nat → Int) (hI : bRows st RR DD) (hy : y < 5) : MI l yX6_above wsX6_above ({ frames := 5, cells := 0, slots := 0, locals := 129 }) D vwCl (TY cg) 26 (celM cg) ad st [.ref (ad 0), .int (iI ((y : Nat) : Int))] (fun z st1 => MW st st1 ∧ st1 0 29 = st 0 29 ∧ z = yA st RR DD y) := by
  refine mk_open (cc := cX6_above) (maxL := 3) (ret := (some .int)) (by decide) rfl (Nat.le_of_ble_eq_true rfl) ?_
  intro p e s m args below meth c hx hb hml hr hown hts hlocks hK hN hargs ls hl hW
  have hown : s.vm.findClass RX6 = some m.cls := hown
  have hl : lv_has ls 3 [(0, .ref (ad 0)), (1, .int (iI ((y : Nat) : Int)))] := hl
  have inX6 : ∀ w ∈ wsX60, w ∈ wsX6_above := by decide +kernel
  have fl38 := hts (.fieldLink RX6 38 "GainsReckonerModel" "allowance" "[I") (by decide +kernel)
  refine lv_aload_n hx hb dX6_above_0 rfl (lv_at hl 0 rfl) ?_
  refine lv_iload_n hx hb dX6_above_1 rfl (lv_at hl 1 rfl) ?_
  refine mk_goI (va_runV (As := [.int (iI ((y : Nat) : Int))]) (rest := []) ⟨hx, hb, hml, hown, hts⟩ (c_X6_netOf l cg D ad st (y : Int) hB RR DD hI (by omega)) (cwV 1 hts gX6_above_X6_netOf rfl rfl rfl (by decide +kernel) ⟨Nat.le_of_ble_eq_true rfl, Nat.le_of_ble_eq_true rfl⟩) (mk_preV hK hN hW 0 (by decide) rfl rfl rfl) rfl rfl hl.1 rfl (lv_room (Nat.le_of_ble_eq_true rfl)) dX6_above_2 ⟨Nat.zero_le _, Nat.zero_le _⟩) hW (fun g st1 hp2 H locs hW => ?_)
  obtain ⟨hM2, h292, hg⟩ := hp2
  have hnb := yN_bd hB hI (y : Int)
  rw [← hg] at hnb
  have hal := hB.2.2.2.2.2 y hy
  refine lv_aload_n hx hb dX6_above_5 rfl (lv_at hl 0 rfl) ?_
  refine mk_get (ci := 6) (C := RX6) (T := TX6) (N := 30) hx hb hts inX6 hown hK hW 0 (by decide) rfl rfl 10 (by decide) fl38 (fun _ h9 => h9) rfl dX6_above_6 ?_
  refine lv_iload_n hx hb dX6_above_9 rfl (lv_at hl 1 rfl) ?_
  refine mk_iald hx hb hK hW 10 (by decide) rfl 0 rfl (j := y) rfl (by omega) (by decide) dX6_above_10 ?_
  refine mk_sayi (y := (st 10 y)) (by rw [hM2.1 10 (by omega) (by omega)]) ?_
  refine mk_isub hx hb dX6_above_11 ?_
  refine mk_topi (fun x e_x => ?_)
  refine lv_istore_n (lv' := [(2, .int (iI x)), (0, .ref (ad 0)), (1, .int (iI ((y : Nat) : Int)))]) hx hb dX6_above_12 rfl hl (by decide) rfl (fun ls hl => ?_)
  refine lv_iload_n hx hb dX6_above_13 rfl (lv_at hl 0 rfl) ?_
  refine mk_if_le (tgt := 21) hx hb dX6_above_14 (by decide) (by omega) (fun c_14 => ?_) (fun c_14 => ?_)
  · skip
    refine mk_iconst hx hb (0) dX6_above_21 ?_
    exact mk_retI hx hb hr hlocks hW ⟨hM2, h292, by unfold yA; rw [← hg]; omega⟩ dX6_above_22
  · skip
    refine lv_iload_n hx hb dX6_above_17 rfl (lv_at hl 0 rfl) ?_
    refine lv_goto (tgt := 22) hx hb dX6_above_18 (by decide) ?_
    exact mk_retI hx hb hr hlocks hW ⟨hM2, h292, by unfold yA; rw [← hg]; omega⟩ dX6_above_22

set_option maxHeartbeats 4000000 in
set_option maxRecDepth 100000 in
theorem c_X6_into (l : Launch) (cg : Nat → ClassId) (D : va_G) (ad : Nat → Nat) (st : Nat → Nat → Int) (y : Nat) (hB : BV st) (RR : Nat → Nat) (DD : Nat → Nat → Int) (hI : bRows st RR DD) (hy : y ≤ 5) : MI l yX6_into wsX6_into ({ frames := 6, cells := 0, slots := 0, locals := 153 }) D vwCl (TY cg) 26 (celM cg) ad st [.ref (ad 0), .int (iI ((y : Nat) : Int))] (fun z st1 => MW st st1 ∧ st1 0 29 = st 0 29 ∧ z = yL st RR DD y) := by
  refine mk_open (cc := cX6_into) (maxL := 6) (ret := (some .int)) (by decide) rfl (Nat.le_of_ble_eq_true rfl) ?_
  intro p e s m args below meth c hx hb hml hr hown hts hlocks hK hN hargs ls hl hW
  have hown : s.vm.findClass RX6 = some m.cls := hown
  have hl : lv_has ls 6 [(0, .ref (ad 0)), (1, .int (iI ((y : Nat) : Int)))] := hl
  refine mk_iconst hx hb (0) dX6_into_0 ?_
  refine lv_istore_n (lv' := [(2, .int (iI 0)), (0, .ref (ad 0)), (1, .int (iI ((y : Nat) : Int)))]) hx hb dX6_into_1 rfl hl (by decide) rfl (fun ls hl => ?_)
  refine mk_iconst hx hb (0) dX6_into_2 ?_
  refine lv_istore_n (lv' := [(3, .int (iI 0)), (2, .int (iI 0)), (0, .ref (ad 0)), (1, .int (iI ((y : Nat) : Int)))]) hx hb dX6_into_3 rfl hl (by decide) rfl (fun ls hl => ?_)
  have loop4 : ∀ (fuel : Nat) (q0 : Nat → Nat → Int) (k : Nat) (acc : Int), (k ≤ y) → (MW st q0) → (q0 0 29 = st 0 29) → (acc = yL st RR DD k) → y - k < fuel → ∀ (H : Heap) (locs : List Loc) (ls : Array Slot), GW D vwCl 26 (celM cg) ad (wA 26 ad) s.heap q0 H locs → lv_has ls 6 [(0, .ref (ad 0)), (1, .int (iI ((y : Nat) : Int))), (2, .int (iI acc)), (3, .int (iI ((k : Nat) : Int)))] → W p l e (headSpec wsX6_into ({ frames := 6, cells := 0, slots := 0, locals := 153 })).room s m args below meth c H locs 0 0 (MQ below (va_Qi (fun (r : Int32) (u : Nat → Nat → Int) => ∃ z : Int, r = iI z ∧ (fun z st1 => MW st st1 ∧ st1 0 29 = st 0 29 ∧ z = yL st RR DD y) z u) (mB D vwCl 26 (celM cg) ad) (wA 26 ad)) args s 0 0 (wA 26 ad)) (F0 m 4 ls []) := by
    intro fuel
    induction fuel with
    | zero => intro q0 k acc hk hA0 hT0 hacc hmu; omega
    | succ fuel ih4 =>
      intro q0 k acc hk hA0 hT0 hacc hmu H locs ls hW hl
      have hlb := yL_bd hB hI k
      rw [← hacc] at hlb
      refine lv_iload_n hx hb dX6_into_4 rfl (lv_at hl 3 rfl) ?_
      refine lv_iload_n hx hb dX6_into_5 rfl (lv_at hl 1 rfl) ?_
      refine mk_icmp_ge (tgt := 59) hx hb dX6_into_6 (by decide) (by omega) (by omega) (fun c_6 => ?_) (fun c_6 => ?_)
      · skip
        refine lv_iload_n hx hb dX6_into_59 rfl (lv_at hl 2 rfl) ?_
        exact mk_retI hx hb hr hlocks hW ⟨hA0, hT0, by rw [hacc, show k = y by omega]⟩ dX6_into_60
      · skip
        refine lv_aload_n hx hb dX6_into_9 rfl (lv_at hl 0 rfl) ?_
        refine lv_iload_n hx hb dX6_into_10 rfl (lv_at hl 3 rfl) ?_
        refine mk_goI (va_runV (As := [.int (iI ((k : Nat) : Int))]) (rest := []) ⟨hx, hb, hml, hown, hts⟩ (c_X6_netOf l cg D ad q0 (k : Int) (hB.mw hA0) RR DD (hA0.rows hI) (by omega)) (cwV 1 hts gX6_into_X6_netOf rfl rfl rfl (by decide +kernel) ⟨Nat.le_of_ble_eq_true rfl, Nat.le_of_ble_eq_true rfl⟩) (mk_preV hK hN hW 0 (by decide) rfl rfl rfl) rfl rfl hl.1 rfl (lv_room (Nat.le_of_ble_eq_true rfl)) dX6_into_11 ⟨Nat.zero_le _, Nat.zero_le _⟩) hW (fun g1 st1 hp11 H locs hW => ?_)
        obtain ⟨hB1, hT1, hG1⟩ := hp11
        have hA1 := hA0.tr hB1
        rw [hA0.ny] at hG1
        have hnb := yN_bd hB hI (k : Int)
        rw [← hG1] at hnb
        refine lv_istore (lv' := [(4, .int (iI g1)), (0, .ref (ad 0)), (1, .int (iI ((y : Nat) : Int))), (2, .int (iI acc)), (3, .int (iI ((k : Nat) : Int)))]) hx hb dX6_into_14 hl (by decide) rfl (fun ls hl => ?_)
        refine lv_aload_n hx hb dX6_into_16 rfl (lv_at hl 1 rfl) ?_
        refine lv_iload_n hx hb dX6_into_17 rfl (lv_at hl 4 rfl) ?_
        refine mk_goI (va_runV (As := [.int (iI ((k : Nat) : Int))]) (rest := []) ⟨hx, hb, hml, hown, hts⟩ (c_X6_above l cg D ad st1 k (hB.mw hA1) RR DD (hA1.rows hI) (by omega)) (cwV 1 hts gX6_into_X6_above rfl rfl rfl (by decide +kernel) ⟨Nat.le_of_ble_eq_true rfl, Nat.le_of_ble_eq_true rfl⟩) (mk_preV hK hN hW 0 (by decide) rfl rfl rfl) rfl rfl hl.1 rfl (lv_room (Nat.le_of_ble_eq_true rfl)) dX6_into_18 ⟨Nat.zero_le _, Nat.zero_le _⟩) hW (fun g2 st2 hp18 H locs hW => ?_)
        obtain ⟨hB2, hT2, hG2⟩ := hp18
        have hA2 := hA1.tr hB2
        rw [hA1.A] at hG2
        have hab : 0 ≤ g2 ∧ g2 ≤ 180000000 := by have h1 := yN_bd hB hI (k : Int); have h2 := hB.2.2.2.2.2 k (by omega); rw [hG2]; unfold yA; omega
        refine lv_iload_n hx hb dX6_into_21 rfl (lv_at hl 3 rfl) ?_
        refine mk_icmp_ge (tgt := 33) hx hb dX6_into_22 (by decide) (by omega) (by omega) (fun c_22 => ?_) (fun c_22 => ?_)
        · skip
          refine lv_iload_n hx hb dX6_into_33 rfl (lv_at hl 3 rfl) ?_
          refine lv_istore (lv' := [(5, .int (iI acc)), (4, .int (iI g1)), (0, .ref (ad 0)), (1, .int (iI ((y : Nat) : Int))), (2, .int (iI acc)), (3, .int (iI ((k : Nat) : Int)))]) hx hb dX6_into_34 hl (by decide) rfl (fun ls hl => ?_)
          refine lv_iload hx hb dX6_into_36 (lv_at hl 1 rfl) ?_
          refine mk_if_ge (tgt := 48) hx hb dX6_into_38 (by decide) (by omega) (fun c_38 => ?_) (fun c_38 => ?_)
          · skip
            refine lv_iload_n hx hb dX6_into_48 rfl (lv_at hl 4 rfl) ?_
            refine lv_iload hx hb dX6_into_49 (lv_at hl 0 rfl) ?_
            refine mk_isub hx hb dX6_into_51 ?_
            refine lv_istore_n (lv' := [(2, .int (iI (acc - acc))), (5, .int (iI acc)), (4, .int (iI g1)), (0, .ref (ad 0)), (1, .int (iI ((y : Nat) : Int))), (3, .int (iI ((k : Nat) : Int)))]) hx hb dX6_into_52 rfl hl (by decide) rfl (fun ls hl => ?_)
            refine mk_iinc (w := ((k + 1 : Nat) : Int)) (lv' := [(3, .int (iI ((k + 1 : Nat) : Int))), (2, .int (iI (acc - acc))), (5, .int (iI acc)), (4, .int (iI g1)), (0, .ref (ad 0)), (1, .int (iI ((y : Nat) : Int)))]) hx hb dX6_into_53 hl (k := 5) rfl (by omega) (by decide) rfl (fun ls hl => ?_)
            refine lv_goto (tgt := 4) hx hb dX6_into_56 (by decide) ?_
            exact ih4 st2 (k + 1) (acc - acc) (by omega) hA2 (by omega) (by rw [yL, if_neg (show ¬ yN st RR DD k < 0 by omega)]; omega) (by omega) _ _ _ hW (lv_sub hl [4, 5, 1, 0] rfl)
          · skip
            refine lv_iload_n hx hb dX6_into_41 rfl (lv_at hl 4 rfl) ?_
            refine lv_iload hx hb dX6_into_42 (lv_at hl 1 rfl) ?_
            refine mk_isub hx hb dX6_into_44 ?_
            refine lv_goto (tgt := 52) hx hb dX6_into_45 (by decide) ?_
            refine lv_istore_n (lv' := [(2, .int (iI (acc - g1))), (5, .int (iI acc)), (4, .int (iI g1)), (0, .ref (ad 0)), (1, .int (iI ((y : Nat) : Int))), (3, .int (iI ((k : Nat) : Int)))]) hx hb dX6_into_52 rfl hl (by decide) rfl (fun ls hl => ?_)
            refine mk_iinc (w := ((k + 1 : Nat) : Int)) (lv' := [(3, .int (iI ((k + 1 : Nat) : Int))), (2, .int (iI (acc - g1))), (5, .int (iI acc)), (4, .int (iI g1)), (0, .ref (ad 0)), (1, .int (iI ((y : Nat) : Int)))]) hx hb dX6_into_53 hl (k := 5) rfl (by omega) (by decide) rfl (fun ls hl => ?_)
            refine lv_goto (tgt := 4) hx hb dX6_into_56 (by decide) ?_
            exact ih4 st2 (k + 1) (acc - g1) (by omega) hA2 (by omega) (by rw [yL, if_pos (show yN st RR DD k < 0 by omega)]; omega) (by omega) _ _ _ hW (lv_sub hl [4, 5, 1, 0] rfl)
        · skip
          refine lv_aload_n hx hb dX6_into_25 rfl (lv_at hl 1 rfl) ?_
          refine lv_iload_n hx hb dX6_into_26 rfl (lv_at hl 4 rfl) ?_
          refine mk_goI (va_runV (As := [.int (iI ((k : Nat) : Int))]) (rest := []) ⟨hx, hb, hml, hown, hts⟩ (c_X6_above l cg D ad st2 k (hB.mw hA2) RR DD (hA2.rows hI) (by omega)) (cwV 1 hts gX6_into_X6_above rfl rfl rfl (by decide +kernel) ⟨Nat.le_of_ble_eq_true rfl, Nat.le_of_ble_eq_true rfl⟩) (mk_preV hK hN hW 0 (by decide) rfl rfl rfl) rfl rfl hl.1 rfl (lv_room (Nat.le_of_ble_eq_true rfl)) dX6_into_27 ⟨Nat.zero_le _, Nat.zero_le _⟩) hW (fun g3 st3 hp27 H locs hW => ?_)
          obtain ⟨hB3, hT3, hG3⟩ := hp27
          have hA3 := hA2.tr hB3
          rw [hA2.A] at hG3
          refine lv_goto (tgt := 34) hx hb dX6_into_30 (by decide) ?_
          refine lv_istore (lv' := [(5, .int (iI g3)), (4, .int (iI g1)), (0, .ref (ad 0)), (1, .int (iI ((y : Nat) : Int))), (2, .int (iI acc)), (3, .int (iI ((k : Nat) : Int)))]) hx hb dX6_into_34 hl (by decide) rfl (fun ls hl => ?_)
          refine lv_iload hx hb dX6_into_36 (lv_at hl 1 rfl) ?_
          refine mk_if_ge (tgt := 48) hx hb dX6_into_38 (by decide) (by omega) (fun c_38 => ?_) (fun c_38 => ?_)
          · skip
            refine lv_iload_n hx hb dX6_into_48 rfl (lv_at hl 4 rfl) ?_
            refine lv_iload hx hb dX6_into_49 (lv_at hl 0 rfl) ?_
            refine mk_isub hx hb dX6_into_51 ?_
            refine lv_istore_n (lv' := [(2, .int (iI (acc - g3))), (5, .int (iI g3)), (4, .int (iI g1)), (0, .ref (ad 0)), (1, .int (iI ((y : Nat) : Int))), (3, .int (iI ((k : Nat) : Int)))]) hx hb dX6_into_52 rfl hl (by decide) rfl (fun ls hl => ?_)
            refine mk_iinc (w := ((k + 1 : Nat) : Int)) (lv' := [(3, .int (iI ((k + 1 : Nat) : Int))), (2, .int (iI (acc - g3))), (5, .int (iI g3)), (4, .int (iI g1)), (0, .ref (ad 0)), (1, .int (iI ((y : Nat) : Int)))]) hx hb dX6_into_53 hl (k := 5) rfl (by omega) (by decide) rfl (fun ls hl => ?_)
            refine lv_goto (tgt := 4) hx hb dX6_into_56 (by decide) ?_
            exact ih4 st3 (k + 1) (acc - g3) (by omega) hA3 (by omega) (by rw [yL, if_neg (show ¬ yN st RR DD k < 0 by omega)]; omega) (by omega) _ _ _ hW (lv_sub hl [4, 5, 1, 0] rfl)
          · skip
            refine lv_iload_n hx hb dX6_into_41 rfl (lv_at hl 4 rfl) ?_
            refine lv_iload hx hb dX6_into_42 (lv_at hl 1 rfl) ?_
            refine mk_isub hx hb dX6_into_44 ?_
            refine lv_goto (tgt := 52) hx hb dX6_into_45 (by decide) ?_
            refine lv_istore_n (lv' := [(2, .int (iI (acc - g1))), (5, .int (iI g3)), (4, .int (iI g1)), (0, .ref (ad 0)), (1, .int (iI ((y : Nat) : Int))), (3, .int (iI ((k : Nat) : Int)))]) hx hb dX6_into_52 rfl hl (by decide) rfl (fun ls hl => ?_)
            refine mk_iinc (w := ((k + 1 : Nat) : Int)) (lv' := [(3, .int (iI ((k + 1 : Nat) : Int))), (2, .int (iI (acc - g1))), (5, .int (iI g3)), (4, .int (iI g1)), (0, .ref (ad 0)), (1, .int (iI ((y : Nat) : Int)))]) hx hb dX6_into_53 hl (k := 5) rfl (by omega) (by decide) rfl (fun ls hl => ?_)
            refine lv_goto (tgt := 4) hx hb dX6_into_56 (by decide) ?_
            exact ih4 st3 (k + 1) (acc - g1) (by omega) hA3 (by omega) (by rw [yL, if_pos (show yN st RR DD k < 0 by omega)]; omega) (by omega) _ _ _ hW (lv_sub hl [4, 5, 1, 0] rfl)
  exact loop4 _ st 0 0 (Nat.zero_le _) MW.rf rfl rfl (Nat.lt_succ_self _) _ _ _ hW (lv_sub hl [2, 3, 1, 0] rfl)

set_option maxHeartbeats 4000000 in
set_option maxRecDepth 100000 in
theorem c_X6_carried (l : Launch) (cg : Nat → ClassId) (D : va_G) (ad : Nat → Nat) (st : Nat → Nat → Int) (y : Nat) (hB : BV st) (RR : Nat → Nat) (DD : Nat → Nat → Int) (hI : bRows st RR DD) (hy : y < 5) : MI l yX6_carried wsX6_carried ({ frames := 7, cells := 0, slots := 0, locals := 180 }) D vwCl (TY cg) 26 (celM cg) ad st [.ref (ad 0), .int (iI ((y : Nat) : Int))] (fun z st1 => MW st st1 ∧ st1 0 29 = 0 ∧ z = yL st RR DD (y + 1)) := by
  refine mk_open (cc := cX6_carried) (maxL := 2) (ret := (some .int)) (by decide) rfl (Nat.le_of_ble_eq_true rfl) ?_
  intro p e s m args below meth c hx hb hml hr hown hts hlocks hK hN hargs ls hl hW
  have hown : s.vm.findClass RX6 = some m.cls := hown
  have hl : lv_has ls 2 [(0, .ref (ad 0)), (1, .int (iI ((y : Nat) : Int)))] := hl
  refine lv_aload_n hx hb dX6_carried_0 rfl (lv_at hl 0 rfl) ?_
  refine lv_iload_n hx hb dX6_carried_1 rfl (lv_at hl 1 rfl) ?_
  refine mk_goI (va_runV (As := [.int (iI ((y : Nat) : Int))]) (rest := []) ⟨hx, hb, hml, hown, hts⟩ (c_X6_isYear l cg D ad st (y : Int) (by omega)) (cwV 1 hts gX6_carried_X6_isYear rfl rfl rfl (by decide +kernel) ⟨Nat.le_of_ble_eq_true rfl, Nat.le_of_ble_eq_true rfl⟩) (mk_preV hK hN hW 0 (by decide) rfl rfl rfl) rfl rfl hl.1 rfl (lv_room (Nat.le_of_ble_eq_true rfl)) dX6_carried_2 ⟨Nat.zero_le _, Nat.zero_le _⟩) hW (fun z st1 hp2 H locs hW => ?_)
  obtain ⟨est1, hz⟩ := hp2
  have hM1 : MW st st1 := by rw [est1]; exact MW.thr st _
  have h29 : st1 0 29 = 1 - z := by rw [est1]; rfl
  have hB1 : BV st1 := hB.mw hM1
  refine mk_if_eq (tgt := 18) hx hb dX6_carried_5 (by decide) (by omega) (fun c_5 => ?_) (fun c_5 => ?_)
  · skip
    omega
  · skip
    refine lv_aload_n hx hb dX6_carried_8 rfl (lv_at hl 0 rfl) ?_
    refine lv_iload_n hx hb dX6_carried_9 rfl (lv_at hl 1 rfl) ?_
    refine mk_iconst hx hb (1) dX6_carried_10 ?_
    refine mk_iadd hx hb dX6_carried_11 ?_
    refine mk_sayi (y := ((y + 1 : Nat) : Int)) (by omega) ?_
    refine mk_goI (va_runV (As := [.int (iI ((y + 1 : Nat) : Int))]) (rest := []) ⟨hx, hb, hml, hown, hts⟩ (c_X6_into l cg D ad st1 (y + 1) hB1 RR DD (hM1.rows hI) (by omega)) (cwV 1 hts gX6_carried_X6_into rfl rfl rfl (by decide +kernel) ⟨Nat.le_of_ble_eq_true rfl, Nat.le_of_ble_eq_true rfl⟩) (mk_preV hK hN hW 0 (by decide) rfl rfl rfl) rfl rfl hl.1 rfl (lv_room (Nat.le_of_ble_eq_true rfl)) dX6_carried_12 ⟨Nat.zero_le _, Nat.zero_le _⟩) hW (fun g st2 hp12 H locs hW => ?_)
    obtain ⟨hM2, h292, hg⟩ := hp12
    rw [hM1.ly] at hg
    refine lv_goto (tgt := 19) hx hb dX6_carried_15 (by decide) ?_
    exact mk_retI hx hb hr hlocks hW ⟨hM1.tr hM2, by omega, hg⟩ dX6_carried_19

set_option maxHeartbeats 4000000 in
set_option maxRecDepth 100000 in
theorem c_X6_taxable (l : Launch) (cg : Nat → ClassId) (D : va_G) (ad : Nat → Nat) (st : Nat → Nat → Int) (y : Nat) (hB : BV st) (RR : Nat → Nat) (DD : Nat → Nat → Int) (hI : bRows st RR DD) (hy : y < 5) : MI l yX6_taxable wsX6_taxable ({ frames := 7, cells := 0, slots := 0, locals := 180 }) D vwCl (TY cg) 26 (celM cg) ad st [.ref (ad 0), .int (iI ((y : Nat) : Int))] (fun z st1 => MW st st1 ∧ st1 0 29 = 0 ∧ z = max 0 (yA st RR DD y - yL st RR DD y)) := by
  refine mk_open (cc := cX6_taxable) (maxL := 3) (ret := (some .int)) (by decide) rfl (Nat.le_of_ble_eq_true rfl) ?_
  intro p e s m args below meth c hx hb hml hr hown hts hlocks hK hN hargs ls hl hW
  have hown : s.vm.findClass RX6 = some m.cls := hown
  have hl : lv_has ls 3 [(0, .ref (ad 0)), (1, .int (iI ((y : Nat) : Int)))] := hl
  refine lv_aload_n hx hb dX6_taxable_0 rfl (lv_at hl 0 rfl) ?_
  refine lv_iload_n hx hb dX6_taxable_1 rfl (lv_at hl 1 rfl) ?_
  refine mk_goI (va_runV (As := [.int (iI ((y : Nat) : Int))]) (rest := []) ⟨hx, hb, hml, hown, hts⟩ (c_X6_isYear l cg D ad st (y : Int) (by omega)) (cwV 1 hts gX6_taxable_X6_isYear rfl rfl rfl (by decide +kernel) ⟨Nat.le_of_ble_eq_true rfl, Nat.le_of_ble_eq_true rfl⟩) (mk_preV hK hN hW 0 (by decide) rfl rfl rfl) rfl rfl hl.1 rfl (lv_room (Nat.le_of_ble_eq_true rfl)) dX6_taxable_2 ⟨Nat.zero_le _, Nat.zero_le _⟩) hW (fun z st1 hp2 H locs hW => ?_)
  obtain ⟨est1, hz⟩ := hp2
  have hM1 : MW st st1 := by rw [est1]; exact MW.thr st _
  have h29 : st1 0 29 = 1 - z := by rw [est1]; rfl
  have hB1 : BV st1 := hB.mw hM1
  refine mk_if_ne (tgt := 10) hx hb dX6_taxable_5 (by decide) (by omega) (fun c_5 => ?_) (fun c_5 => ?_)
  · skip
    refine lv_aload_n hx hb dX6_taxable_10 rfl (lv_at hl 0 rfl) ?_
    refine lv_iload_n hx hb dX6_taxable_11 rfl (lv_at hl 1 rfl) ?_
    refine mk_goI (va_runV (As := [.int (iI ((y : Nat) : Int))]) (rest := []) ⟨hx, hb, hml, hown, hts⟩ (c_X6_above l cg D ad st1 y hB1 RR DD (hM1.rows hI) (by omega)) (cwV 1 hts gX6_taxable_X6_above rfl rfl rfl (by decide +kernel) ⟨Nat.le_of_ble_eq_true rfl, Nat.le_of_ble_eq_true rfl⟩) (mk_preV hK hN hW 0 (by decide) rfl rfl rfl) rfl rfl hl.1 rfl (lv_room (Nat.le_of_ble_eq_true rfl)) dX6_taxable_12 ⟨Nat.zero_le _, Nat.zero_le _⟩) hW (fun g st2 hp12 H locs hW => ?_)
    obtain ⟨hM12, h292, hg⟩ := hp12
    rw [hM1.A] at hg
    have hM2 := hM1.tr hM12
    refine lv_aload_n hx hb dX6_taxable_15 rfl (lv_at hl 0 rfl) ?_
    refine lv_iload_n hx hb dX6_taxable_16 rfl (lv_at hl 1 rfl) ?_
    refine mk_goI (va_runV (As := [.int (iI ((y : Nat) : Int))]) (rest := [.int (iI g)]) ⟨hx, hb, hml, hown, hts⟩ (c_X6_into l cg D ad st2 y (hB.mw hM2) RR DD (hM2.rows hI) (by omega)) (cwV 1 hts gX6_taxable_X6_into rfl rfl rfl (by decide +kernel) ⟨Nat.le_of_ble_eq_true rfl, Nat.le_of_ble_eq_true rfl⟩) (mk_preV hK hN hW 0 (by decide) rfl rfl rfl) rfl rfl hl.1 rfl (lv_room (Nat.le_of_ble_eq_true rfl)) dX6_taxable_17 ⟨Nat.zero_le _, Nat.zero_le _⟩) hW (fun g2 st3 hp17 H locs hW => ?_)
    obtain ⟨hM23, h293, hg2⟩ := hp17
    rw [hM2.ly] at hg2
    have hlb := yL_bd hB hI y
    have hab : 0 ≤ g ∧ g ≤ 180000000 := by have h1 := yN_bd hB hI (y : Int); have h2 := hB.2.2.2.2.2 y (by omega); rw [hg]; unfold yA; omega
    refine mk_isub hx hb dX6_taxable_20 ?_
    refine mk_topi (fun x e_x => ?_)
    refine lv_istore_n (lv' := [(2, .int (iI x)), (0, .ref (ad 0)), (1, .int (iI ((y : Nat) : Int)))]) hx hb dX6_taxable_21 rfl hl (by decide) rfl (fun ls hl => ?_)
    refine lv_iload_n hx hb dX6_taxable_22 rfl (lv_at hl 0 rfl) ?_
    refine mk_if_le (tgt := 30) hx hb dX6_taxable_23 (by decide) (by omega) (fun c_23 => ?_) (fun c_23 => ?_)
    · skip
      refine mk_iconst hx hb (0) dX6_taxable_30 ?_
      exact mk_retI hx hb hr hlocks hW ⟨hM2.tr hM23, by omega, by omega⟩ dX6_taxable_31
    · skip
      refine lv_iload_n hx hb dX6_taxable_26 rfl (lv_at hl 0 rfl) ?_
      refine lv_goto (tgt := 31) hx hb dX6_taxable_27 (by decide) ?_
      exact mk_retI hx hb hr hlocks hW ⟨hM2.tr hM23, by omega, by omega⟩ dX6_taxable_31
  · skip
    omega

