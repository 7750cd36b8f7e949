theorem entM_undo {st q r : Nat → Nat → Int} {v d ct mo sa : Int} (hq : MW (entM st v d ct mo sa) q) (h : ∀ k, 1 ≤ k → k ≤ 10 → r k = q k) (h0 : r 0 0 = st 0 0) (h1 : r 0 11 = st 0 11) : BEq st r := by
  have e : ∀ k, 1 ≤ k → k ≤ 10 → r k = entM st v d ct mo sa k := fun k a b => (h k a b).trans (hq.1 k a b)
  refine ⟨h0.symm, h1.symm, fun k hk => ?_, fun u _ => ?_, fun y _ => ?_⟩
  · have x : k ≠ bN st := by omega
    rw [e 1 (by omega) (by omega), e 2 (by omega) (by omega), e 3 (by omega) (by omega), e 4 (by omega) (by omega), e 5 (by omega) (by omega), e 6 (by omega) (by omega)]
    exact ⟨(fnU_ne x).symm, (fnU_ne x).symm, (fnU_ne x).symm, (fnU_ne x).symm, (fnU_ne x).symm, (fnU_ne x).symm⟩
  · rw [e 7 (by omega) (by omega), e 8 (by omega) (by omega), e 9 (by omega) (by omega)]
    exact ⟨rfl, fun _ _ => ⟨rfl, rfl⟩⟩
  · rw [e 10 (by omega) (by omega)]; rfl
theorem canM_undo {st q r : Nat → Nat → Int} {t : Nat} (hg : st 6 t = 0) (hq : MW (canM st t) q) (h : ∀ k, 1 ≤ k → k ≤ 10 → k ≠ 6 → r k = q k) (h6 : r 6 = fnU (q 6) t 0) (h0 : r 0 0 = q 0 0) (h1 : r 0 11 = q 0 11) : BEq st r := by
  have e : ∀ k, 1 ≤ k → k ≤ 10 → k ≠ 6 → r k = st k := fun k a b c => (h k a b c).trans ((hq.1 k a b).trans (stC_ne c))
  refine ⟨(h0.trans hq.2.1).symm, (h1.trans hq.2.2).symm, fun k hk => ?_, fun u _ => ?_, fun y _ => ?_⟩
  · rw [e 1 (by omega) (by omega) (by omega), e 2 (by omega) (by omega) (by omega), e 3 (by omega) (by omega) (by omega), e 4 (by omega) (by omega) (by omega), e 5 (by omega) (by omega) (by omega), h6]
    refine ⟨rfl, rfl, rfl, rfl, rfl, ?_⟩
    by_cases x : k = t
    · rw [x, fnU_eq]; exact hg
    · rw [fnU_ne x, hq.1 6 (by omega) (by omega)]; exact (fnU_ne x).symm
  · rw [e 7 (by omega) (by omega) (by omega), e 8 (by omega) (by omega) (by omega), e 9 (by omega) (by omega) (by omega)]
    exact ⟨rfl, fun _ _ => ⟨rfl, rfl⟩⟩
  · rw [e 10 (by omega) (by omega) (by omega)]

set_option maxHeartbeats 4000000 in
set_option maxRecDepth 100000 in
theorem c_X6_enters_no (l : Launch) (cg : Nat → ClassId) (D : va_G) (ad : Nat → Nat) (st : Nat → Nat → Int) (a d ct mo sa : Int) (hB : BV st) (ha : -2147483648 ≤ a ∧ a < 2147483648) (hd : -2147483648 ≤ d ∧ d < 2147483648) (hc : -2147483648 ≤ ct ∧ ct < 2147483648) (hm : -2147483648 ≤ mo ∧ mo < 2147483648) (hs : sa = 0 ∨ sa = 1) (hno : ¬ (((0 ≤ a ∧ a ≤ 2) ∧ 0 ≤ d ∧ d ≤ 1824) ∧ (1 ≤ ct ∧ ct ≤ 1000) ∧ 0 ≤ mo ∧ mo ≤ 1000000)) : MI l yX6_enters wsX6_enters ({ frames := 2, cells := 0, slots := 0, locals := 80 }) D vwCl (TY cg) 26 (celM cg) ad st [.ref (ad 0), .int (iI a), .int (iI d), .int (iI ct), .int (iI mo), .int (iI sa)] (fun z st1 => MW st st1 ∧ ((¬ ((0 ≤ a ∧ a ≤ 2) ∧ 0 ≤ d ∧ d ≤ 1824) ∧ st1 0 29 = 1) ∨ (((0 ≤ a ∧ a ≤ 2) ∧ 0 ≤ d ∧ d ≤ 1824) ∧ st1 0 29 = 2))) := by
  refine mk_open (cc := cX6_enters) (maxL := 6) (ret := (some .int)) (by decide) rfl (Nat.le_of_ble_eq_true rfl) ?_
  intro p e s m args below meth c hx hb hml hr hown hts hlocks hK hN hargs ls hl hW
  have hown : s.vm.findClass RX6 = some m.cls := hown
  have hl : lv_has ls 6 [(0, .ref (ad 0)), (1, .int (iI a)), (2, .int (iI d)), (3, .int (iI ct)), (4, .int (iI mo)), (5, .int (iI sa))] := hl
  have inX6 : ∀ w ∈ wsX60, w ∈ wsX6_enters := by decide +kernel
  have fl91 := hts (.fieldLink RX6 91 "GainsReckonerModel" "thrown" "I") (by decide +kernel)
  have kc116 := hts (.constant RX6 116 (1000000)) (by decide +kernel)
  refine lv_aload_n hx hb dX6_enters_0 rfl (lv_at hl 0 rfl) ?_
  refine lv_iload_n hx hb dX6_enters_1 rfl (lv_at hl 1 rfl) ?_
  refine mk_goI (va_runS (As := [.int (iI a)]) (rest := [.ref (ad 0)]) ⟨hx, hb, hml, hown, hts⟩ (c_X6_isShare l cg D ad st a (by omega)) (cwS 1 hts gX6_enters_X6_isShare rfl rfl rfl (by decide +kernel) ⟨Nat.le_of_ble_eq_true rfl, Nat.le_of_ble_eq_true rfl⟩) (mk_preS hK hN hW) rfl rfl hl.1 rfl (lv_room (Nat.le_of_ble_eq_true rfl)) dX6_enters_2 ⟨Nat.zero_le _, Nat.zero_le _⟩) hW (fun z1 st1 hp2 H locs hW => ?_)
  obtain ⟨est1, hz1⟩ := hp2
  rw [est1] at hW
  refine mk_if_eq (tgt := 15) hx hb dX6_enters_5 (by decide) (by omega) (fun c_5 => ?_) (fun c_5 => ?_)
  · skip
    refine mk_iconst hx hb (1) dX6_enters_15 ?_
    refine lv_goto (tgt := 46) hx hb dX6_enters_16 (by decide) ?_
    refine mk_put (ci := 6) (C := RX6) (T := TX6) (N := 30) hx hb hts inX6 tyX6 tyX6_ok nmX6 hown hK hW 0 (by decide) rfl rfl 29 (by decide) fl91 (fun _ h9 => h9) rfl (by decide +kernel) (Nat.le_of_ble_eq_true rfl) rfl dX6_enters_46 (fun H locs hW => ?_)
    obtain ⟨st2, est2⟩ : ∃ z, z = stC st 0 (fnU (st 0) 29 1) := ⟨_, rfl⟩
    rw [← est2] at hW
    have hM1 : MW st st2 := by rw [est2]; exact MW.thr st _
    have hB1 : BV st2 := hB.mw hM1
    have h29 : st2 0 29 = 1 := by rw [est2]; rfl
    refine lv_aload_n hx hb dX6_enters_49 rfl (lv_at hl 0 rfl) ?_
    refine mk_get (ci := 6) (C := RX6) (T := TX6) (N := 30) hx hb hts inX6 hown hK hW 0 (by decide) rfl rfl 29 (by decide) fl91 (fun _ h9 => h9) rfl dX6_enters_50 ?_
    refine mk_sayi (y := 1) h29 ?_
    refine mk_if_le (tgt := 58) hx hb dX6_enters_53 (by decide) (by omega) (fun c_53 => ?_) (fun c_53 => ?_)
    · skip
      omega
    · skip
      refine mk_iconst hx hb (0) dX6_enters_56 ?_
      exact mk_retI hx hb hr hlocks hW ⟨hM1, by omega⟩ dX6_enters_57
  · skip
    refine lv_iload_n hx hb dX6_enters_8 rfl (lv_at hl 2 rfl) ?_
    refine mk_goI (va_runS (As := [.int (iI d)]) (rest := [.ref (ad 0)]) ⟨hx, hb, hml, hown, hts⟩ (c_X6_isDay l cg D ad st d (by omega)) (cwS 1 hts gX6_enters_X6_isDay rfl rfl rfl (by decide +kernel) ⟨Nat.le_of_ble_eq_true rfl, Nat.le_of_ble_eq_true rfl⟩) (mk_preS hK hN hW) rfl rfl hl.1 rfl (lv_room (Nat.le_of_ble_eq_true rfl)) dX6_enters_9 ⟨Nat.zero_le _, Nat.zero_le _⟩) hW (fun z2 st3 hp9 H locs hW => ?_)
    obtain ⟨est3, hz2⟩ := hp9
    rw [est3] at hW
    refine mk_if_ne (tgt := 19) hx hb dX6_enters_12 (by decide) (by omega) (fun c_12 => ?_) (fun c_12 => ?_)
    · skip
      refine lv_iload_n hx hb dX6_enters_19 rfl (lv_at hl 3 rfl) ?_
      refine mk_iconst hx hb (1) dX6_enters_20 ?_
      refine mk_sipush hx hb (1000) (by decide +kernel) dX6_enters_21 ?_
      refine mk_goI (va_runS (As := [.int (iI ct), .int (iI 1), .int (iI 1000)]) (rest := [.ref (ad 0)]) ⟨hx, hb, hml, hown, hts⟩ (c_X6_isIn l cg D ad st ct 1 1000 (by omega) (by omega) (by omega)) (cwS 3 hts gX6_enters_X6_isIn rfl rfl rfl (by decide +kernel) ⟨Nat.le_of_ble_eq_true rfl, Nat.le_of_ble_eq_true rfl⟩) (mk_preS hK hN hW) rfl rfl hl.1 rfl (lv_room (Nat.le_of_ble_eq_true rfl)) dX6_enters_24 ⟨Nat.zero_le _, Nat.zero_le _⟩) hW (fun z3 st4 hp24 H locs hW => ?_)
      obtain ⟨est4, hz3⟩ := hp24
      rw [est4] at hW
      refine mk_if_eq (tgt := 41) hx hb dX6_enters_27 (by decide) (by omega) (fun c_27 => ?_) (fun c_27 => ?_)
      · skip
        refine mk_iconst hx hb (2) dX6_enters_41 ?_
        refine lv_goto (tgt := 46) hx hb dX6_enters_42 (by decide) ?_
        refine mk_put (ci := 6) (C := RX6) (T := TX6) (N := 30) hx hb hts inX6 tyX6 tyX6_ok nmX6 hown hK hW 0 (by decide) rfl rfl 29 (by decide) fl91 (fun _ h9 => h9) rfl (by decide +kernel) (Nat.le_of_ble_eq_true rfl) rfl dX6_enters_46 (fun H locs hW => ?_)
        obtain ⟨st5, est5⟩ : ∃ z, z = stC st 0 (fnU (st 0) 29 2) := ⟨_, rfl⟩
        rw [← est5] at hW
        have hM1 : MW st st5 := by rw [est5]; exact MW.thr st _
        have hB1 : BV st5 := hB.mw hM1
        have h29 : st5 0 29 = 2 := by rw [est5]; rfl
        refine lv_aload_n hx hb dX6_enters_49 rfl (lv_at hl 0 rfl) ?_
        refine mk_get (ci := 6) (C := RX6) (T := TX6) (N := 30) hx hb hts inX6 hown hK hW 0 (by decide) rfl rfl 29 (by decide) fl91 (fun _ h9 => h9) rfl dX6_enters_50 ?_
        refine mk_sayi (y := 2) h29 ?_
        refine mk_if_le (tgt := 58) hx hb dX6_enters_53 (by decide) (by omega) (fun c_53 => ?_) (fun c_53 => ?_)
        · skip
          omega
        · skip
          refine mk_iconst hx hb (0) dX6_enters_56 ?_
          exact mk_retI hx hb hr hlocks hW ⟨hM1, by omega⟩ dX6_enters_57
      · skip
        refine lv_iload hx hb dX6_enters_30 (lv_at hl 4 rfl) ?_
        refine mk_iconst hx hb (0) dX6_enters_32 ?_
        refine mk_ldc hx hb (1000000) hown kc116 dX6_enters_33 ?_
        refine mk_goI (va_runS (As := [.int (iI mo), .int (iI 0), .int (iI 1000000)]) (rest := [.ref (ad 0)]) ⟨hx, hb, hml, hown, hts⟩ (c_X6_isIn l cg D ad st mo 0 1000000 (by omega) (by omega) (by omega)) (cwS 3 hts gX6_enters_X6_isIn rfl rfl rfl (by decide +kernel) ⟨Nat.le_of_ble_eq_true rfl, Nat.le_of_ble_eq_true rfl⟩) (mk_preS hK hN hW) rfl rfl hl.1 rfl (lv_room (Nat.le_of_ble_eq_true rfl)) dX6_enters_35 ⟨Nat.zero_le _, Nat.zero_le _⟩) hW (fun z4 st6 hp35 H locs hW => ?_)
        obtain ⟨est6, hz4⟩ := hp35
        rw [est6] at hW
        refine mk_if_ne (tgt := 45) hx hb dX6_enters_38 (by decide) (by omega) (fun c_38 => ?_) (fun c_38 => ?_)
        · skip
          refine mk_iconst hx hb (0) dX6_enters_45 ?_
          refine mk_put (ci := 6) (C := RX6) (T := TX6) (N := 30) hx hb hts inX6 tyX6 tyX6_ok nmX6 hown hK hW 0 (by decide) rfl rfl 29 (by decide) fl91 (fun _ h9 => h9) rfl (by decide +kernel) (Nat.le_of_ble_eq_true rfl) rfl dX6_enters_46 (fun H locs hW => ?_)
          obtain ⟨st7, est7⟩ : ∃ z, z = stC st 0 (fnU (st 0) 29 0) := ⟨_, rfl⟩
          rw [← est7] at hW
          have hM1 : MW st st7 := by rw [est7]; exact MW.thr st _
          have hB1 : BV st7 := hB.mw hM1
          have h29 : st7 0 29 = 0 := by rw [est7]; rfl
          refine lv_aload_n hx hb dX6_enters_49 rfl (lv_at hl 0 rfl) ?_
          refine mk_get (ci := 6) (C := RX6) (T := TX6) (N := 30) hx hb hts inX6 hown hK hW 0 (by decide) rfl rfl 29 (by decide) fl91 (fun _ h9 => h9) rfl dX6_enters_50 ?_
          refine mk_sayi (y := 0) h29 ?_
          refine mk_if_le (tgt := 58) hx hb dX6_enters_53 (by decide) (by omega) (fun c_53 => ?_) (fun c_53 => ?_)
          · skip
            omega
          · skip
            refine mk_iconst hx hb (0) dX6_enters_56 ?_
            exact mk_retI hx hb hr hlocks hW ⟨hM1, by omega⟩ dX6_enters_57
        · skip
          refine mk_iconst hx hb (2) dX6_enters_41 ?_
          refine lv_goto (tgt := 46) hx hb dX6_enters_42 (by decide) ?_
          refine mk_put (ci := 6) (C := RX6) (T := TX6) (N := 30) hx hb hts inX6 tyX6 tyX6_ok nmX6 hown hK hW 0 (by decide) rfl rfl 29 (by decide) fl91 (fun _ h9 => h9) rfl (by decide +kernel) (Nat.le_of_ble_eq_true rfl) rfl dX6_enters_46 (fun H locs hW => ?_)
          obtain ⟨st8, est8⟩ : ∃ z, z = stC st 0 (fnU (st 0) 29 2) := ⟨_, rfl⟩
          rw [← est8] at hW
          have hM1 : MW st st8 := by rw [est8]; exact MW.thr st _
          have hB1 : BV st8 := hB.mw hM1
          have h29 : st8 0 29 = 2 := by rw [est8]; rfl
          refine lv_aload_n hx hb dX6_enters_49 rfl (lv_at hl 0 rfl) ?_
          refine mk_get (ci := 6) (C := RX6) (T := TX6) (N := 30) hx hb hts inX6 hown hK hW 0 (by decide) rfl rfl 29 (by decide) fl91 (fun _ h9 => h9) rfl dX6_enters_50 ?_
          refine mk_sayi (y := 2) h29 ?_
          refine mk_if_le (tgt := 58) hx hb dX6_enters_53 (by decide) (by omega) (fun c_53 => ?_) (fun c_53 => ?_)
          · skip
            omega
          · skip
            refine mk_iconst hx hb (0) dX6_enters_56 ?_
            exact mk_retI hx hb hr hlocks hW ⟨hM1, by omega⟩ dX6_enters_57
    · skip
      refine mk_iconst hx hb (1) dX6_enters_15 ?_
      refine lv_goto (tgt := 46) hx hb dX6_enters_16 (by decide) ?_
      refine mk_put (ci := 6) (C := RX6) (T := TX6) (N := 30) hx hb hts inX6 tyX6 tyX6_ok nmX6 hown hK hW 0 (by decide) rfl rfl 29 (by decide) fl91 (fun _ h9 => h9) rfl (by decide +kernel) (Nat.le_of_ble_eq_true rfl) rfl dX6_enters_46 (fun H locs hW => ?_)
      obtain ⟨st9, est9⟩ : ∃ z, z = stC st 0 (fnU (st 0) 29 1) := ⟨_, rfl⟩
      rw [← est9] at hW
      have hM1 : MW st st9 := by rw [est9]; exact MW.thr st _
      have hB1 : BV st9 := hB.mw hM1
      have h29 : st9 0 29 = 1 := by rw [est9]; rfl
      refine lv_aload_n hx hb dX6_enters_49 rfl (lv_at hl 0 rfl) ?_
      refine mk_get (ci := 6) (C := RX6) (T := TX6) (N := 30) hx hb hts inX6 hown hK hW 0 (by decide) rfl rfl 29 (by decide) fl91 (fun _ h9 => h9) rfl dX6_enters_50 ?_
      refine mk_sayi (y := 1) h29 ?_
      refine mk_if_le (tgt := 58) hx hb dX6_enters_53 (by decide) (by omega) (fun c_53 => ?_) (fun c_53 => ?_)
      · skip
        omega
      · skip
        refine mk_iconst hx hb (0) dX6_enters_56 ?_
        exact mk_retI hx hb hr hlocks hW ⟨hM1, by omega⟩ dX6_enters_57

set_option maxHeartbeats 4000000 in
set_option maxRecDepth 100000 in
theorem c_X6_enters (l : Launch) (cg : Nat → ClassId) (D : va_G) (ad : Nat → Nat) (st : Nat → Nat → Int) (v : Nat) (d ct mo sa : Int) (hB : BV st) (hv : v < 3) (hd : 0 ≤ d ∧ d < 1825) (hc : 1 ≤ ct ∧ ct ≤ 1000) (hm : 0 ≤ mo ∧ mo ≤ 1000000) (hs : sa = 0 ∨ sa = 1) : MI l yX6_enters wsX6_enters ({ frames := 3, cells := 0, slots := 0, locals := 80 }) D vwCl (TY cg) 26 (celM cg) ad st [.ref (ad 0), .int (iI ((v : Nat) : Int)), .int (iI d), .int (iI ct), .int (iI mo), .int (iI sa)] (fun (z : Int) (st1 : Nat → Nat → Int) => (bN st = 60 ∧ MW st st1 ∧ st1 0 29 = 3) ∨ (bN st < 60 ∧ ((z = bN st ∧ MW (entM st (v : Int) d ct mo sa) st1 ∧ st1 0 29 = 0 ∧ ∀ k, k < bN st + 1 → (entM st (v : Int) d ct mo sa) 1 k = (v : Int) → 0 ≤ bH (entM st (v : Int) d ct mo sa) v ((entM st (v : Int) d ct mo sa) 2 k)) ∨ (BEq st st1 ∧ st1 0 29 = 3 ∧ ∃ k, k < bN st + 1 ∧ (entM st (v : Int) d ct mo sa) 1 k = (v : Int) ∧ bH (entM st (v : Int) d ct mo sa) v ((entM st (v : Int) d ct mo sa) 2 k) < 0)))) := by
  refine mk_open (cc := cX6_enters) (maxL := 6) (ret := (some .int)) (by decide) rfl (Nat.le_of_ble_eq_true rfl) ?_
  intro p e s m args below meth c hx hb hml hr hown hts hlocks hK hN hargs ls hl hW
  have hown : s.vm.findClass RX6 = some m.cls := hown
  have hl : lv_has ls 6 [(0, .ref (ad 0)), (1, .int (iI ((v : Nat) : Int))), (2, .int (iI d)), (3, .int (iI ct)), (4, .int (iI mo)), (5, .int (iI sa))] := hl
  have inX6 : ∀ w ∈ wsX60, w ∈ wsX6_enters := by decide +kernel
  have kc116 := hts (.constant RX6 116 (1000000)) (by decide +kernel)
  have fl91 := hts (.fieldLink RX6 91 "GainsReckonerModel" "thrown" "I") (by decide +kernel)
  have fl98 := hts (.fieldLink RX6 98 "GainsReckonerModel" "trades" "I") (by decide +kernel)
  have fl7 := hts (.fieldLink RX6 7 "GainsReckonerModel" "share" "[I") (by decide +kernel)
  have fl13 := hts (.fieldLink RX6 13 "GainsReckonerModel" "day" "[I") (by decide +kernel)
  have fl16 := hts (.fieldLink RX6 16 "GainsReckonerModel" "count" "[I") (by decide +kernel)
  have fl19 := hts (.fieldLink RX6 19 "GainsReckonerModel" "money" "[I") (by decide +kernel)
  have fl22 := hts (.fieldLink RX6 22 "GainsReckonerModel" "sale" "[Z") (by decide +kernel)
  have fl26 := hts (.fieldLink RX6 26 "GainsReckonerModel" "gone" "[Z") (by decide +kernel)
  have hn6 := hB.n60
  refine lv_aload_n hx hb dX6_enters_0 rfl (lv_at hl 0 rfl) ?_
  refine lv_iload_n hx hb dX6_enters_1 rfl (lv_at hl 1 rfl) ?_
  refine mk_goI (va_runS (As := [.int (iI ((v : Nat) : Int))]) (rest := [.ref (ad 0)]) ⟨hx, hb, hml, hown, hts⟩ (c_X6_isShare l cg D ad st (v : Int) (by omega)) (cwS 1 hts gX6_enters_X6_isShare rfl rfl rfl (by decide +kernel) ⟨Nat.le_of_ble_eq_true rfl, Nat.le_of_ble_eq_true rfl⟩) (mk_preS hK hN hW) rfl rfl hl.1 rfl (lv_room (Nat.le_of_ble_eq_true rfl)) dX6_enters_2 ⟨Nat.zero_le _, Nat.zero_le _⟩) hW (fun z1 st1 hp2 H locs hW => ?_)
  obtain ⟨est1, hz1⟩ := hp2
  rw [est1] at hW
  refine mk_if_eq (tgt := 15) hx hb dX6_enters_5 (by decide) (by omega) (fun c_5 => ?_) (fun c_5 => ?_)
  · skip
    omega
  · skip
    refine lv_iload_n hx hb dX6_enters_8 rfl (lv_at hl 2 rfl) ?_
    refine mk_goI (va_runS (As := [.int (iI d)]) (rest := [.ref (ad 0)]) ⟨hx, hb, hml, hown, hts⟩ (c_X6_isDay l cg D ad st d (by omega)) (cwS 1 hts gX6_enters_X6_isDay rfl rfl rfl (by decide +kernel) ⟨Nat.le_of_ble_eq_true rfl, Nat.le_of_ble_eq_true rfl⟩) (mk_preS hK hN hW) rfl rfl hl.1 rfl (lv_room (Nat.le_of_ble_eq_true rfl)) dX6_enters_9 ⟨Nat.zero_le _, Nat.zero_le _⟩) hW (fun z2 st2 hp9 H locs hW => ?_)
    obtain ⟨est2, hz2⟩ := hp9
    rw [est2] at hW
    refine mk_if_ne (tgt := 19) hx hb dX6_enters_12 (by decide) (by omega) (fun c_12 => ?_) (fun c_12 => ?_)
    · skip
      refine lv_iload_n hx hb dX6_enters_19 rfl (lv_at hl 3 rfl) ?_
      refine mk_iconst hx hb (1) dX6_enters_20 ?_
      refine mk_sipush hx hb (1000) (by decide +kernel) dX6_enters_21 ?_
      refine mk_goI (va_runS (As := [.int (iI ct), .int (iI 1), .int (iI 1000)]) (rest := [.ref (ad 0)]) ⟨hx, hb, hml, hown, hts⟩ (c_X6_isIn l cg D ad st ct 1 1000 (by omega) (by omega) (by omega)) (cwS 3 hts gX6_enters_X6_isIn rfl rfl rfl (by decide +kernel) ⟨Nat.le_of_ble_eq_true rfl, Nat.le_of_ble_eq_true rfl⟩) (mk_preS hK hN hW) rfl rfl hl.1 rfl (lv_room (Nat.le_of_ble_eq_true rfl)) dX6_enters_24 ⟨Nat.zero_le _, Nat.zero_le _⟩) hW (fun z3 st3 hp24 H locs hW => ?_)
      obtain ⟨est3, hz3⟩ := hp24
      rw [est3] at hW
      refine mk_if_eq (tgt := 41) hx hb dX6_enters_27 (by decide) (by omega) (fun c_27 => ?_) (fun c_27 => ?_)
      · skip
        omega
      · skip
        refine lv_iload hx hb dX6_enters_30 (lv_at hl 4 rfl) ?_
        refine mk_iconst hx hb (0) dX6_enters_32 ?_
        refine mk_ldc hx hb (1000000) hown kc116 dX6_enters_33 ?_
        refine mk_goI (va_runS (As := [.int (iI mo), .int (iI 0), .int (iI 1000000)]) (rest := [.ref (ad 0)]) ⟨hx, hb, hml, hown, hts⟩ (c_X6_isIn l cg D ad st mo 0 1000000 (by omega) (by omega) (by omega)) (cwS 3 hts gX6_enters_X6_isIn rfl rfl rfl (by decide +kernel) ⟨Nat.le_of_ble_eq_true rfl, Nat.le_of_ble_eq_true rfl⟩) (mk_preS hK hN hW) rfl rfl hl.1 rfl (lv_room (Nat.le_of_ble_eq_true rfl)) dX6_enters_35 ⟨Nat.zero_le _, Nat.zero_le _⟩) hW (fun z4 st4 hp35 H locs hW => ?_)
        obtain ⟨est4, hz4⟩ := hp35
        rw [est4] at hW
        refine mk_if_ne (tgt := 45) hx hb dX6_enters_38 (by decide) (by omega) (fun c_38 => ?_) (fun c_38 => ?_)
        · skip
          refine mk_iconst hx hb (0) dX6_enters_45 ?_
          refine mk_put (ci := 6) (C := RX6) (T := TX6) (N := 30) hx hb hts inX6 tyX6 tyX6_ok nmX6 hown hK hW 0 (by decide) rfl rfl 29 (by decide) fl91 (fun _ h9 => h9) rfl (by decide +kernel) (Nat.le_of_ble_eq_true rfl) rfl dX6_enters_46 (fun H locs hW => ?_)
          obtain ⟨st5, est5⟩ : ∃ z, z = stC st 0 (fnU (st 0) 29 0) := ⟨_, rfl⟩
          rw [← est5] at hW
          have h29 : st5 0 29 = 0 := by rw [est5]; rfl
          refine lv_aload_n hx hb dX6_enters_49 rfl (lv_at hl 0 rfl) ?_
          refine mk_get (ci := 6) (C := RX6) (T := TX6) (N := 30) hx hb hts inX6 hown hK hW 0 (by decide) rfl rfl 29 (by decide) fl91 (fun _ h9 => h9) rfl dX6_enters_50 ?_
          refine mk_sayi (y := 0) h29 ?_
          refine mk_if_le (tgt := 58) hx hb dX6_enters_53 (by decide) (by omega) (fun c_53 => ?_) (fun c_53 => ?_)
          · skip
            refine lv_aload_n hx hb dX6_enters_58 rfl (lv_at hl 0 rfl) ?_
            refine lv_aload_n hx hb dX6_enters_59 rfl (lv_at hl 0 rfl) ?_
            refine mk_get (ci := 6) (C := RX6) (T := TX6) (N := 30) hx hb hts inX6 hown hK hW 0 (by decide) rfl rfl 0 (by decide) fl98 (fun _ h9 => h9) rfl dX6_enters_60 ?_
            refine mk_sayi (y := (st 0 0)) (by rw [show st5 0 0 = st 0 0 from by rw [est5]; rfl]) ?_
            refine mk_sayi (y := (((bN st) : Nat) : Int)) hB.1 ?_
            refine mk_bipush hx hb (60) (by decide +kernel) dX6_enters_63 ?_
            refine mk_icmp_ne (tgt := 72) hx hb dX6_enters_65 (by decide) (by omega) (by omega) (fun c_65 => ?_) (fun c_65 => ?_)
            · skip
              refine mk_iconst hx hb (0) dX6_enters_72 ?_
              refine mk_put (ci := 6) (C := RX6) (T := TX6) (N := 30) hx hb hts inX6 tyX6 tyX6_ok nmX6 hown hK hW 0 (by decide) rfl rfl 29 (by decide) fl91 (fun _ h9 => h9) rfl (by decide +kernel) (Nat.le_of_ble_eq_true rfl) rfl dX6_enters_73 (fun H locs hW => ?_)
              obtain ⟨st6, est6⟩ : ∃ z, z = stC st5 0 (fnU (st5 0) 29 0) := ⟨_, rfl⟩
              rw [← est6] at hW
              have h29 : st6 0 29 = 0 := by rw [est6]; rfl
              refine lv_aload_n hx hb dX6_enters_76 rfl (lv_at hl 0 rfl) ?_
              refine mk_get (ci := 6) (C := RX6) (T := TX6) (N := 30) hx hb hts inX6 hown hK hW 0 (by decide) rfl rfl 29 (by decide) fl91 (fun _ h9 => h9) rfl dX6_enters_77 ?_
              refine mk_sayi (y := 0) h29 ?_
              refine mk_if_le (tgt := 85) hx hb dX6_enters_80 (by decide) (by omega) (fun c_80 => ?_) (fun c_80 => ?_)
              · skip
                refine lv_aload_n hx hb dX6_enters_85 rfl (lv_at hl 0 rfl) ?_
                refine mk_get (ci := 6) (C := RX6) (T := TX6) (N := 30) hx hb hts inX6 hown hK hW 0 (by decide) rfl rfl 1 (by decide) fl7 (fun _ h9 => h9) rfl dX6_enters_86 ?_
                refine lv_aload_n hx hb dX6_enters_89 rfl (lv_at hl 0 rfl) ?_
                refine mk_get (ci := 6) (C := RX6) (T := TX6) (N := 30) hx hb hts inX6 hown hK hW 0 (by decide) rfl rfl 0 (by decide) fl98 (fun _ h9 => h9) rfl dX6_enters_90 ?_
                refine mk_sayi (y := (st 0 0)) (by rw [show st6 0 0 = st5 0 0 from by rw [est6]; rfl, show st5 0 0 = st 0 0 from by rw [est5]; rfl]) ?_
                refine mk_sayi (y := (((bN st) : Nat) : Int)) hB.1 ?_
                refine lv_iload_n hx hb dX6_enters_93 rfl (lv_at hl 1 rfl) ?_
                refine mk_iast hx hb hK hW 1 (by decide) (fun _ => rfl) 0 rfl (j := (bN st)) rfl (by omega) (by decide) dX6_enters_94 (fun H locs hW => ?_)
                obtain ⟨st7, est7⟩ : ∃ z, z = stC st6 1 (fnU (st6 1) (bN st) ((v : Nat) : Int)) := ⟨_, rfl⟩
                rw [← est7] at hW
                refine lv_aload_n hx hb dX6_enters_95 rfl (lv_at hl 0 rfl) ?_
                refine mk_get (ci := 6) (C := RX6) (T := TX6) (N := 30) hx hb hts inX6 hown hK hW 0 (by decide) rfl rfl 2 (by decide) fl13 (fun _ h9 => h9) rfl dX6_enters_96 ?_
                refine lv_aload_n hx hb dX6_enters_99 rfl (lv_at hl 0 rfl) ?_
                refine mk_get (ci := 6) (C := RX6) (T := TX6) (N := 30) hx hb hts inX6 hown hK hW 0 (by decide) rfl rfl 0 (by decide) fl98 (fun _ h9 => h9) rfl dX6_enters_100 ?_
                refine mk_sayi (y := (st 0 0)) (by rw [show st7 0 = st6 0 from by rw [est7]; exact stC_ne (by decide), show st6 0 0 = st5 0 0 from by rw [est6]; rfl, show st5 0 0 = st 0 0 from by rw [est5]; rfl]) ?_
                refine mk_sayi (y := (((bN st) : Nat) : Int)) hB.1 ?_
                refine lv_iload_n hx hb dX6_enters_103 rfl (lv_at hl 2 rfl) ?_
                refine mk_iast hx hb hK hW 2 (by decide) (fun _ => rfl) 0 rfl (j := (bN st)) rfl (by omega) (by decide) dX6_enters_104 (fun H locs hW => ?_)
                obtain ⟨st8, est8⟩ : ∃ z, z = stC st7 2 (fnU (st7 2) (bN st) d) := ⟨_, rfl⟩
                rw [← est8] at hW
                refine lv_aload_n hx hb dX6_enters_105 rfl (lv_at hl 0 rfl) ?_
                refine mk_get (ci := 6) (C := RX6) (T := TX6) (N := 30) hx hb hts inX6 hown hK hW 0 (by decide) rfl rfl 3 (by decide) fl16 (fun _ h9 => h9) rfl dX6_enters_106 ?_
                refine lv_aload_n hx hb dX6_enters_109 rfl (lv_at hl 0 rfl) ?_
                refine mk_get (ci := 6) (C := RX6) (T := TX6) (N := 30) hx hb hts inX6 hown hK hW 0 (by decide) rfl rfl 0 (by decide) fl98 (fun _ h9 => h9) rfl dX6_enters_110 ?_
                refine mk_sayi (y := (st 0 0)) (by rw [show st8 0 = st7 0 from by rw [est8]; exact stC_ne (by decide), show st7 0 = st6 0 from by rw [est7]; exact stC_ne (by decide), show st6 0 0 = st5 0 0 from by rw [est6]; rfl, show st5 0 0 = st 0 0 from by rw [est5]; rfl]) ?_
                refine mk_sayi (y := (((bN st) : Nat) : Int)) hB.1 ?_
                refine lv_iload_n hx hb dX6_enters_113 rfl (lv_at hl 3 rfl) ?_
                refine mk_iast hx hb hK hW 3 (by decide) (fun _ => rfl) 0 rfl (j := (bN st)) rfl (by omega) (by decide) dX6_enters_114 (fun H locs hW => ?_)
                obtain ⟨st9, est9⟩ : ∃ z, z = stC st8 3 (fnU (st8 3) (bN st) ct) := ⟨_, rfl⟩
                rw [← est9] at hW
                refine lv_aload_n hx hb dX6_enters_115 rfl (lv_at hl 0 rfl) ?_
                refine mk_get (ci := 6) (C := RX6) (T := TX6) (N := 30) hx hb hts inX6 hown hK hW 0 (by decide) rfl rfl 4 (by decide) fl19 (fun _ h9 => h9) rfl dX6_enters_116 ?_
                refine lv_aload_n hx hb dX6_enters_119 rfl (lv_at hl 0 rfl) ?_
                refine mk_get (ci := 6) (C := RX6) (T := TX6) (N := 30) hx hb hts inX6 hown hK hW 0 (by decide) rfl rfl 0 (by decide) fl98 (fun _ h9 => h9) rfl dX6_enters_120 ?_
                refine mk_sayi (y := (st 0 0)) (by rw [show st9 0 = st8 0 from by rw [est9]; exact stC_ne (by decide), show st8 0 = st7 0 from by rw [est8]; exact stC_ne (by decide), show st7 0 = st6 0 from by rw [est7]; exact stC_ne (by decide), show st6 0 0 = st5 0 0 from by rw [est6]; rfl, show st5 0 0 = st 0 0 from by rw [est5]; rfl]) ?_
                refine mk_sayi (y := (((bN st) : Nat) : Int)) hB.1 ?_
                refine lv_iload hx hb dX6_enters_123 (lv_at hl 4 rfl) ?_
                refine mk_iast hx hb hK hW 4 (by decide) (fun _ => rfl) 0 rfl (j := (bN st)) rfl (by omega) (by decide) dX6_enters_125 (fun H locs hW => ?_)
                obtain ⟨st10, est10⟩ : ∃ z, z = stC st9 4 (fnU (st9 4) (bN st) mo) := ⟨_, rfl⟩
                rw [← est10] at hW
                refine lv_aload_n hx hb dX6_enters_126 rfl (lv_at hl 0 rfl) ?_
                refine mk_get (ci := 6) (C := RX6) (T := TX6) (N := 30) hx hb hts inX6 hown hK hW 0 (by decide) rfl rfl 5 (by decide) fl22 (fun _ h9 => h9) rfl dX6_enters_127 ?_
                refine lv_aload_n hx hb dX6_enters_130 rfl (lv_at hl 0 rfl) ?_
                refine mk_get (ci := 6) (C := RX6) (T := TX6) (N := 30) hx hb hts inX6 hown hK hW 0 (by decide) rfl rfl 0 (by decide) fl98 (fun _ h9 => h9) rfl dX6_enters_131 ?_
                refine mk_sayi (y := (st 0 0)) (by rw [show st10 0 = st9 0 from by rw [est10]; exact stC_ne (by decide), show st9 0 = st8 0 from by rw [est9]; exact stC_ne (by decide), show st8 0 = st7 0 from by rw [est8]; exact stC_ne (by decide), show st7 0 = st6 0 from by rw [est7]; exact stC_ne (by decide), show st6 0 0 = st5 0 0 from by rw [est6]; rfl, show st5 0 0 = st 0 0 from by rw [est5]; rfl]) ?_
                refine mk_sayi (y := (((bN st) : Nat) : Int)) hB.1 ?_
                refine lv_iload hx hb dX6_enters_134 (lv_at hl 5 rfl) ?_
                refine mk_zast hx hb hK hW 5 (by decide) (fun _ => rfl) 1 rfl (j := (bN st)) rfl (by omega) (by decide) (by omega) dX6_enters_136 (fun H locs hW => ?_)
                obtain ⟨st11, est11⟩ : ∃ z, z = stC st10 5 (fnU (st10 5) (bN st) sa) := ⟨_, rfl⟩
                rw [← est11] at hW
                refine lv_aload_n hx hb dX6_enters_137 rfl (lv_at hl 0 rfl) ?_
                refine mk_get (ci := 6) (C := RX6) (T := TX6) (N := 30) hx hb hts inX6 hown hK hW 0 (by decide) rfl rfl 6 (by decide) fl26 (fun _ h9 => h9) rfl dX6_enters_138 ?_
                refine lv_aload_n hx hb dX6_enters_141 rfl (lv_at hl 0 rfl) ?_
                refine mk_get (ci := 6) (C := RX6) (T := TX6) (N := 30) hx hb hts inX6 hown hK hW 0 (by decide) rfl rfl 0 (by decide) fl98 (fun _ h9 => h9) rfl dX6_enters_142 ?_
                refine mk_sayi (y := (st 0 0)) (by rw [show st11 0 = st10 0 from by rw [est11]; exact stC_ne (by decide), show st10 0 = st9 0 from by rw [est10]; exact stC_ne (by decide), show st9 0 = st8 0 from by rw [est9]; exact stC_ne (by decide), show st8 0 = st7 0 from by rw [est8]; exact stC_ne (by decide), show st7 0 = st6 0 from by rw [est7]; exact stC_ne (by decide), show st6 0 0 = st5 0 0 from by rw [est6]; rfl, show st5 0 0 = st 0 0 from by rw [est5]; rfl]) ?_
                refine mk_sayi (y := (((bN st) : Nat) : Int)) hB.1 ?_
                refine mk_iconst hx hb (0) dX6_enters_145 ?_
                refine mk_zast hx hb hK hW 6 (by decide) (fun _ => rfl) 1 rfl (j := (bN st)) rfl (by omega) (by decide) (by omega) dX6_enters_146 (fun H locs hW => ?_)
                obtain ⟨st12, est12⟩ : ∃ z, z = stC st11 6 (fnU (st11 6) (bN st) 0) := ⟨_, rfl⟩
                rw [← est12] at hW
                refine lv_aload_n hx hb dX6_enters_147 rfl (lv_at hl 0 rfl) ?_
                refine lv_dup hx hb dX6_enters_148 rfl ?_
                refine mk_get (ci := 6) (C := RX6) (T := TX6) (N := 30) hx hb hts inX6 hown hK hW 0 (by decide) rfl rfl 0 (by decide) fl98 (fun _ h9 => h9) rfl dX6_enters_149 ?_
                refine mk_sayi (y := (st 0 0)) (by rw [show st12 0 = st11 0 from by rw [est12]; exact stC_ne (by decide), show st11 0 = st10 0 from by rw [est11]; exact stC_ne (by decide), show st10 0 = st9 0 from by rw [est10]; exact stC_ne (by decide), show st9 0 = st8 0 from by rw [est9]; exact stC_ne (by decide), show st8 0 = st7 0 from by rw [est8]; exact stC_ne (by decide), show st7 0 = st6 0 from by rw [est7]; exact stC_ne (by decide), show st6 0 0 = st5 0 0 from by rw [est6]; rfl, show st5 0 0 = st 0 0 from by rw [est5]; rfl]) ?_
                refine mk_sayi (y := (((bN st) : Nat) : Int)) hB.1 ?_
                refine mk_iconst hx hb (1) dX6_enters_152 ?_
                refine mk_iadd hx hb dX6_enters_153 ?_
                refine mk_put (ci := 6) (C := RX6) (T := TX6) (N := 30) hx hb hts inX6 tyX6 tyX6_ok nmX6 hown hK hW 0 (by decide) rfl rfl 0 (by decide) fl98 (fun _ h9 => h9) rfl (by decide +kernel) (Nat.le_of_ble_eq_true rfl) rfl dX6_enters_154 (fun H locs hW => ?_)
                obtain ⟨st13, est13⟩ : ∃ z, z = stC st12 0 (fnU (st12 0) 0 ((((bN st) : Nat) : Int) + 1)) := ⟨_, rfl⟩
                rw [← est13] at hW
                have hn60 : bN st < 60 := by omega
                have hq : MW (entM st (v : Int) d ct mo sa) st13 := by
                  rw [est13, est12, est11, est10, est9, est8, est7, est6, est5]
                  refine ⟨fun k h1 h2 => ?_, rfl, rfl⟩
                  rcases (show k = 1 ∨ k = 2 ∨ k = 3 ∨ k = 4 ∨ k = 5 ∨ k = 6 ∨ k = 7 ∨ k = 8 ∨ k = 9 ∨ k = 10 by omega) with h | h | h | h | h | h | h | h | h | h <;> rw [h] <;> rfl
                have hq0 : st13 0 0 = ((bN st + 1 : Nat) : Int) := by rw [est13, est12, est11, est10, est9, est8, est7, est6, est5]; rfl
                have hq29 : st13 0 29 = 0 := by rw [est13, est12, est11, est10, est9, est8, est7, est6, est5]; rfl
                have hqB : BJ st13 := (entM_J hB.j hn60 (by omega) (by omega) hc hm hs).be hq.be
                refine lv_aload_n hx hb dX6_enters_157 rfl (lv_at hl 0 rfl) ?_
                refine lv_iload_n hx hb dX6_enters_158 rfl (lv_at hl 1 rfl) ?_
                refine mk_goI (va_runV (As := [.int (iI ((v : Nat) : Int))]) (rest := []) ⟨hx, hb, hml, hown, hts⟩ (c_X6_isBelow l cg D ad st13 v (bN st13) (bM st13 v) hv hqB.1 hqB.2.1 (hqB.2.2.1 v hv).1 (hqB.2.2.1 v hv).2) (cwV 1 hts gX6_enters_X6_isBelow rfl rfl rfl (by decide +kernel) ⟨Nat.le_of_ble_eq_true rfl, Nat.le_of_ble_eq_true rfl⟩) (mk_preV hK hN hW 0 (by decide) rfl rfl rfl) rfl rfl hl.1 rfl (lv_room (Nat.le_of_ble_eq_true rfl)) dX6_enters_159 ⟨Nat.zero_le _, Nat.zero_le _⟩) hW (fun z st14 hp159 H locs hW => ?_)
                obtain ⟨est14, hz⟩ := hp159
                rw [est14] at hW
                have hz : (z = 1 ∧ ∃ k, k < bN st13 ∧ st13 1 k = v ∧ bH st13 v (st13 2 k) < 0) ∨ (z = 0 ∧ ∀ k, k < bN st13 → st13 1 k = v → 0 ≤ bH st13 v (st13 2 k)) := hz
                simp only [hq.N, entM_N, hq.1 1 (Nat.le_refl 1) (by omega), hq.1 2 (by omega) (by omega), hq.H] at hz
                refine mk_if_eq (tgt := 182) hx hb dX6_enters_162 (by decide) (by omega) (fun c_162 => ?_) (fun c_162 => ?_)
                · skip
                  refine lv_aload_n hx hb dX6_enters_182 rfl (lv_at hl 0 rfl) ?_
                  refine mk_get (ci := 6) (C := RX6) (T := TX6) (N := 30) hx hb hts inX6 hown hK hW 0 (by decide) rfl rfl 0 (by decide) fl98 (fun _ h9 => h9) rfl dX6_enters_183 ?_
                  refine mk_sayi (y := (((bN st + 1) : Nat) : Int)) hq0 ?_
                  refine mk_iconst hx hb (1) dX6_enters_186 ?_
                  refine mk_isub hx hb dX6_enters_187 ?_
                  exact mk_retI hx hb hr hlocks hW (Or.inr ⟨hn60, Or.inl ⟨by omega, hq, hq29, by rcases hz with h | h; omega; exact h.2⟩⟩) dX6_enters_188
                · skip
                  refine lv_aload_n hx hb dX6_enters_165 rfl (lv_at hl 0 rfl) ?_
                  refine lv_dup hx hb dX6_enters_166 rfl ?_
                  refine mk_get (ci := 6) (C := RX6) (T := TX6) (N := 30) hx hb hts inX6 hown hK hW 0 (by decide) rfl rfl 0 (by decide) fl98 (fun _ h9 => h9) rfl dX6_enters_167 ?_
                  refine mk_sayi (y := (((bN st + 1) : Nat) : Int)) hq0 ?_
                  refine mk_iconst hx hb (1) dX6_enters_170 ?_
                  refine mk_isub hx hb dX6_enters_171 ?_
                  refine mk_put (ci := 6) (C := RX6) (T := TX6) (N := 30) hx hb hts inX6 tyX6 tyX6_ok nmX6 hown hK hW 0 (by decide) rfl rfl 0 (by decide) fl98 (fun _ h9 => h9) rfl (by decide +kernel) (Nat.le_of_ble_eq_true rfl) rfl dX6_enters_172 (fun H locs hW => ?_)
                  obtain ⟨st15, est15⟩ : ∃ z, z = stC st13 0 (fnU (st13 0) 0 ((((bN st + 1) : Nat) : Int) - 1)) := ⟨_, rfl⟩
                  rw [← est15] at hW
                  refine lv_aload_n hx hb dX6_enters_175 rfl (lv_at hl 0 rfl) ?_
                  refine mk_iconst hx hb (3) dX6_enters_176 ?_
                  refine mk_put (ci := 6) (C := RX6) (T := TX6) (N := 30) hx hb hts inX6 tyX6 tyX6_ok nmX6 hown hK hW 0 (by decide) rfl rfl 29 (by decide) fl91 (fun _ h9 => h9) rfl (by decide +kernel) (Nat.le_of_ble_eq_true rfl) rfl dX6_enters_177 (fun H locs hW => ?_)
                  obtain ⟨st16, est16⟩ : ∃ z, z = stC st15 0 (fnU (st15 0) 29 3) := ⟨_, rfl⟩
                  rw [← est16] at hW
                  have h29 : st16 0 29 = 3 := by rw [est16]; rfl
                  refine mk_iconst hx hb (0) dX6_enters_180 ?_
                  exact mk_retI hx hb hr hlocks hW (Or.inr ⟨hn60, Or.inr ⟨entM_undo (q := st13) hq (fun k h1 h2 => by rw [est16, est15]; rw [stC_ne (by omega), stC_ne (by omega)]) (by rw [est16, est15, hB.1]; show ((bN st + 1 : Nat) : Int) - 1 = _; omega) (by rw [est16, est15]; exact hq.2.2), h29, by rcases hz with h | h; exact h.2; omega⟩⟩) dX6_enters_181
              · skip
                omega
            · skip
              refine mk_iconst hx hb (3) dX6_enters_68 ?_
              refine lv_goto (tgt := 73) hx hb dX6_enters_69 (by decide) ?_
              refine mk_put (ci := 6) (C := RX6) (T := TX6) (N := 30) hx hb hts inX6 tyX6 tyX6_ok nmX6 hown hK hW 0 (by decide) rfl rfl 29 (by decide) fl91 (fun _ h9 => h9) rfl (by decide +kernel) (Nat.le_of_ble_eq_true rfl) rfl dX6_enters_73 (fun H locs hW => ?_)
              obtain ⟨st17, est17⟩ : ∃ z, z = stC st5 0 (fnU (st5 0) 29 3) := ⟨_, rfl⟩
              rw [← est17] at hW
              have h29 : st17 0 29 = 3 := by rw [est17]; rfl
              refine lv_aload_n hx hb dX6_enters_76 rfl (lv_at hl 0 rfl) ?_
              refine mk_get (ci := 6) (C := RX6) (T := TX6) (N := 30) hx hb hts inX6 hown hK hW 0 (by decide) rfl rfl 29 (by decide) fl91 (fun _ h9 => h9) rfl dX6_enters_77 ?_
              refine mk_sayi (y := 3) h29 ?_
              refine mk_if_le (tgt := 85) hx hb dX6_enters_80 (by decide) (by omega) (fun c_80 => ?_) (fun c_80 => ?_)
              · skip
                omega
              · skip
                refine mk_iconst hx hb (0) dX6_enters_83 ?_
                exact mk_retI hx hb hr hlocks hW (Or.inl ⟨by omega, by rw [est17, est5]; exact (MW.thr _ _).tr (MW.thr _ _), h29⟩) dX6_enters_84
          · skip
            omega
        · skip
          omega
    · skip
      omega

set_option maxHeartbeats 4000000 in
set_option maxRecDepth 100000 in
theorem c_X6_buy_no (l : Launch) (cg : Nat → ClassId) (D : va_G) (ad : Nat → Nat) (st : Nat → Nat → Int) (a d ct mo : Int) (hB : BV st) (ha : -2147483648 ≤ a ∧ a < 2147483648) (hd : -2147483648 ≤ d ∧ d < 2147483648) (hc : -2147483648 ≤ ct ∧ ct < 2147483648) (hm : -2147483648 ≤ mo ∧ mo < 2147483648) (hno : ¬ (((0 ≤ a ∧ a ≤ 2) ∧ 0 ≤ d ∧ d ≤ 1824) ∧ (1 ≤ ct ∧ ct ≤ 1000) ∧ 0 ≤ mo ∧ mo ≤ 1000000)) : MI l yX6_buy wsX6_buy ({ frames := 3, cells := 0, slots := 0, locals := 120 }) D vwCl (TY cg) 26 (celM cg) ad st [.ref (ad 0), .int (iI a), .int (iI d), .int (iI ct), .int (iI mo)] (fun z st1 => MW st st1 ∧ ((¬ ((0 ≤ a ∧ a ≤ 2) ∧ 0 ≤ d ∧ d ≤ 1824) ∧ st1 0 29 = 1) ∨ (((0 ≤ a ∧ a ≤ 2) ∧ 0 ≤ d ∧ d ≤ 1824) ∧ st1 0 29 = 2))) := by
  refine mk_open (cc := cX6_buy) (maxL := 5) (ret := (some .int)) (by decide) rfl (Nat.le_of_ble_eq_true rfl) ?_
  intro p e s m args below meth c hx hb hml hr hown hts hlocks hK hN hargs ls hl hW
  have hown : s.vm.findClass RX6 = some m.cls := hown
  have hl : lv_has ls 5 [(0, .ref (ad 0)), (1, .int (iI a)), (2, .int (iI d)), (3, .int (iI ct)), (4, .int (iI mo))] := hl
  refine lv_aload_n hx hb dX6_buy_0 rfl (lv_at hl 0 rfl) ?_
  refine lv_iload_n hx hb dX6_buy_1 rfl (lv_at hl 1 rfl) ?_
  refine lv_iload_n hx hb dX6_buy_2 rfl (lv_at hl 2 rfl) ?_
  refine lv_iload_n hx hb dX6_buy_3 rfl (lv_at hl 3 rfl) ?_
  refine lv_iload hx hb dX6_buy_4 (lv_at hl 4 rfl) ?_
  refine mk_iconst hx hb (0) dX6_buy_6 ?_
  refine mk_goI (va_runV (As := [.int (iI a), .int (iI d), .int (iI ct), .int (iI mo), .int (iI 0)]) (rest := []) ⟨hx, hb, hml, hown, hts⟩ (c_X6_enters_no l cg D ad st a d ct mo 0 hB ha hd hc hm (by omega) hno) (cwV 5 hts gX6_buy_X6_enters rfl rfl rfl (by decide +kernel) ⟨Nat.le_of_ble_eq_true rfl, Nat.le_of_ble_eq_true rfl⟩) (mk_preV hK hN hW 0 (by decide) rfl rfl rfl) rfl rfl hl.1 rfl (lv_room (Nat.le_of_ble_eq_true rfl)) dX6_buy_7 ⟨Nat.zero_le _, Nat.zero_le _⟩) hW (fun z st1 hp7 H locs hW => ?_)
  exact mk_retI hx hb hr hlocks hW hp7 dX6_buy_10

set_option maxHeartbeats 4000000 in
set_option maxRecDepth 100000 in
theorem c_X6_buy (l : Launch) (cg : Nat → ClassId) (D : va_G) (ad : Nat → Nat) (st : Nat → Nat → Int) (v : Nat) (d ct mo : Int) (hB : BV st) (hv : v < 3) (hd : 0 ≤ d ∧ d < 1825) (hc : 1 ≤ ct ∧ ct ≤ 1000) (hm : 0 ≤ mo ∧ mo ≤ 1000000) : MI l yX6_buy wsX6_buy ({ frames := 4, cells := 0, slots := 0, locals := 120 }) D vwCl (TY cg) 26 (celM cg) ad st [.ref (ad 0), .int (iI ((v : Nat) : Int)), .int (iI d), .int (iI ct), .int (iI mo)] (fun (z : Int) (st1 : Nat → Nat → Int) => (bN st = 60 ∧ MW st st1 ∧ st1 0 29 = 3) ∨ (bN st < 60 ∧ ((z = bN st ∧ MW (entM st (v : Int) d ct mo 0) st1 ∧ st1 0 29 = 0 ∧ ∀ k, k < bN st + 1 → (entM st (v : Int) d ct mo 0) 1 k = (v : Int) → 0 ≤ bH (entM st (v : Int) d ct mo 0) v ((entM st (v : Int) d ct mo 0) 2 k)) ∨ (BEq st st1 ∧ st1 0 29 = 3 ∧ ∃ k, k < bN st + 1 ∧ (entM st (v : Int) d ct mo 0) 1 k = (v : Int) ∧ bH (entM st (v : Int) d ct mo 0) v ((entM st (v : Int) d ct mo 0) 2 k) < 0)))) := by
  refine mk_open (cc := cX6_buy) (maxL := 5) (ret := (some .int)) (by decide) rfl (Nat.le_of_ble_eq_true rfl) ?_
  intro p e s m args below meth c hx hb hml hr hown hts hlocks hK hN hargs ls hl hW
  have hown : s.vm.findClass RX6 = some m.cls := hown
  have hl : lv_has ls 5 [(0, .ref (ad 0)), (1, .int (iI ((v : Nat) : Int))), (2, .int (iI d)), (3, .int (iI ct)), (4, .int (iI mo))] := hl
  refine lv_aload_n hx hb dX6_buy_0 rfl (lv_at hl 0 rfl) ?_
  refine lv_iload_n hx hb dX6_buy_1 rfl (lv_at hl 1 rfl) ?_
  refine lv_iload_n hx hb dX6_buy_2 rfl (lv_at hl 2 rfl) ?_
  refine lv_iload_n hx hb dX6_buy_3 rfl (lv_at hl 3 rfl) ?_
  refine lv_iload hx hb dX6_buy_4 (lv_at hl 4 rfl) ?_
  refine mk_iconst hx hb (0) dX6_buy_6 ?_
  refine mk_goI (va_runV (As := [.int (iI ((v : Nat) : Int)), .int (iI d), .int (iI ct), .int (iI mo), .int (iI 0)]) (rest := []) ⟨hx, hb, hml, hown, hts⟩ (c_X6_enters l cg D ad st v d ct mo 0 hB hv hd hc hm (by omega)) (cwV 5 hts gX6_buy_X6_enters rfl rfl rfl (by decide +kernel) ⟨Nat.le_of_ble_eq_true rfl, Nat.le_of_ble_eq_true rfl⟩) (mk_preV hK hN hW 0 (by decide) rfl rfl rfl) rfl rfl hl.1 rfl (lv_room (Nat.le_of_ble_eq_true rfl)) dX6_buy_7 ⟨Nat.zero_le _, Nat.zero_le _⟩) hW (fun z st1 hp7 H locs hW => ?_)
  exact mk_retI hx hb hr hlocks hW hp7 dX6_buy_10

set_option maxHeartbeats 4000000 in
set_option maxRecDepth 100000 in
theorem c_X6_sell_no (l : Launch) (cg : Nat → ClassId) (D : va_G) (ad : Nat → Nat) (st : Nat → Nat → Int) (a d ct mo : Int) (hB : BV st) (ha : -2147483648 ≤ a ∧ a < 2147483648) (hd : -2147483648 ≤ d ∧ d < 2147483648) (hc : -2147483648 ≤ ct ∧ ct < 2147483648) (hm : -2147483648 ≤ mo ∧ mo < 2147483648) (hno : ¬ (((0 ≤ a ∧ a ≤ 2) ∧ 0 ≤ d ∧ d ≤ 1824) ∧ (1 ≤ ct ∧ ct ≤ 1000) ∧ 0 ≤ mo ∧ mo ≤ 1000000)) : MI l yX6_sell wsX6_sell ({ frames := 3, cells := 0, slots := 0, locals := 120 }) D vwCl (TY cg) 26 (celM cg) ad st [.ref (ad 0), .int (iI a), .int (iI d), .int (iI ct), .int (iI mo)] (fun z st1 => MW st st1 ∧ ((¬ ((0 ≤ a ∧ a ≤ 2) ∧ 0 ≤ d ∧ d ≤ 1824) ∧ st1 0 29 = 1) ∨ (((0 ≤ a ∧ a ≤ 2) ∧ 0 ≤ d ∧ d ≤ 1824) ∧ st1 0 29 = 2))) := by
  refine mk_open (cc := cX6_sell) (maxL := 5) (ret := (some .int)) (by decide) rfl (Nat.le_of_ble_eq_true rfl) ?_
  intro p e s m args below meth c hx hb hml hr hown hts hlocks hK hN hargs ls hl hW
  have hown : s.vm.findClass RX6 = some m.cls := hown
  have hl : lv_has ls 5 [(0, .ref (ad 0)), (1, .int (iI a)), (2, .int (iI d)), (3, .int (iI ct)), (4, .int (iI mo))] := hl
  refine lv_aload_n hx hb dX6_sell_0 rfl (lv_at hl 0 rfl) ?_
  refine lv_iload_n hx hb dX6_sell_1 rfl (lv_at hl 1 rfl) ?_
  refine lv_iload_n hx hb dX6_sell_2 rfl (lv_at hl 2 rfl) ?_
  refine lv_iload_n hx hb dX6_sell_3 rfl (lv_at hl 3 rfl) ?_
  refine lv_iload hx hb dX6_sell_4 (lv_at hl 4 rfl) ?_
  refine mk_iconst hx hb (1) dX6_sell_6 ?_
  refine mk_goI (va_runV (As := [.int (iI a), .int (iI d), .int (iI ct), .int (iI mo), .int (iI 1)]) (rest := []) ⟨hx, hb, hml, hown, hts⟩ (c_X6_enters_no l cg D ad st a d ct mo 1 hB ha hd hc hm (by omega) hno) (cwV 5 hts gX6_sell_X6_enters rfl rfl rfl (by decide +kernel) ⟨Nat.le_of_ble_eq_true rfl, Nat.le_of_ble_eq_true rfl⟩) (mk_preV hK hN hW 0 (by decide) rfl rfl rfl) rfl rfl hl.1 rfl (lv_room (Nat.le_of_ble_eq_true rfl)) dX6_sell_7 ⟨Nat.zero_le _, Nat.zero_le _⟩) hW (fun z st1 hp7 H locs hW => ?_)
  exact mk_retI hx hb hr hlocks hW hp7 dX6_sell_10

set_option maxHeartbeats 4000000 in
set_option maxRecDepth 100000 in
theorem c_X6_sell (l : Launch) (cg : Nat → ClassId) (D : va_G) (ad : Nat → Nat) (st : Nat → Nat → Int) (v : Nat) (d ct mo : Int) (hB : BV st) (hv : v < 3) (hd : 0 ≤ d ∧ d < 1825) (hc : 1 ≤ ct ∧ ct ≤ 1000) (hm : 0 ≤ mo ∧ mo ≤ 1000000) : MI l yX6_sell wsX6_sell ({ frames := 4, cells := 0, slots := 0, locals := 120 }) D vwCl (TY cg) 26 (celM cg) ad st [.ref (ad 0), .int (iI ((v : Nat) : Int)), .int (iI d), .int (iI ct), .int (iI mo)] (fun (z : Int) (st1 : Nat → Nat → Int) => (bN st = 60 ∧ MW st st1 ∧ st1 0 29 = 3) ∨ (bN st < 60 ∧ ((z = bN st ∧ MW (entM st (v : Int) d ct mo 1) st1 ∧ st1 0 29 = 0 ∧ ∀ k, k < bN st + 1 → (entM st (v : Int) d ct mo 1) 1 k = (v : Int) → 0 ≤ bH (entM st (v : Int) d ct mo 1) v ((entM st (v : Int) d ct mo 1) 2 k)) ∨ (BEq st st1 ∧ st1 0 29 = 3 ∧ ∃ k, k < bN st + 1 ∧ (entM st (v : Int) d ct mo 1) 1 k = (v : Int) ∧ bH (entM st (v : Int) d ct mo 1) v ((entM st (v : Int) d ct mo 1) 2 k) < 0)))) := by
  refine mk_open (cc := cX6_sell) (maxL := 5) (ret := (some .int)) (by decide) rfl (Nat.le_of_ble_eq_true rfl) ?_
  intro p e s m args below meth c hx hb hml hr hown hts hlocks hK hN hargs ls hl hW
  have hown : s.vm.findClass RX6 = some m.cls := hown
  have hl : lv_has ls 5 [(0, .ref (ad 0)), (1, .int (iI ((v : Nat) : Int))), (2, .int (iI d)), (3, .int (iI ct)), (4, .int (iI mo))] := hl
  refine lv_aload_n hx hb dX6_sell_0 rfl (lv_at hl 0 rfl) ?_
  refine lv_iload_n hx hb dX6_sell_1 rfl (lv_at hl 1 rfl) ?_
  refine lv_iload_n hx hb dX6_sell_2 rfl (lv_at hl 2 rfl) ?_
  refine lv_iload_n hx hb dX6_sell_3 rfl (lv_at hl 3 rfl) ?_
  refine lv_iload hx hb dX6_sell_4 (lv_at hl 4 rfl) ?_
  refine mk_iconst hx hb (1) dX6_sell_6 ?_
  refine mk_goI (va_runV (As := [.int (iI ((v : Nat) : Int)), .int (iI d), .int (iI ct), .int (iI mo), .int (iI 1)]) (rest := []) ⟨hx, hb, hml, hown, hts⟩ (c_X6_enters l cg D ad st v d ct mo 1 hB hv hd hc hm (by omega)) (cwV 5 hts gX6_sell_X6_enters rfl rfl rfl (by decide +kernel) ⟨Nat.le_of_ble_eq_true rfl, Nat.le_of_ble_eq_true rfl⟩) (mk_preV hK hN hW 0 (by decide) rfl rfl rfl) rfl rfl hl.1 rfl (lv_room (Nat.le_of_ble_eq_true rfl)) dX6_sell_7 ⟨Nat.zero_le _, Nat.zero_le _⟩) hW (fun z st1 hp7 H locs hW => ?_)
  exact mk_retI hx hb hr hlocks hW hp7 dX6_sell_10

set_option maxHeartbeats 4000000 in
set_option maxRecDepth 100000 in
theorem c_X6_split_no (l : Launch) (cg : Nat → ClassId) (D : va_G) (ad : Nat → Nat) (st : Nat → Nat → Int) (a d f : Int) (hB : BV st) (ha : -2147483648 ≤ a ∧ a < 2147483648) (hd : -2147483648 ≤ d ∧ d < 2147483648) (hf9 : -2147483648 ≤ f ∧ f < 2147483648) (hno : ¬ (((0 ≤ a ∧ a ≤ 2) ∧ 0 ≤ d ∧ d ≤ 1824) ∧ 2 ≤ f ∧ f ≤ 5)) : MI l yX6_split wsX6_split ({ frames := 2, cells := 0, slots := 0, locals := 80 }) D vwCl (TY cg) 26 (celM cg) ad st [.ref (ad 0), .int (iI a), .int (iI d), .int (iI f)] (fun z st1 => MW st st1 ∧ ((¬ ((0 ≤ a ∧ a ≤ 2) ∧ 0 ≤ d ∧ d ≤ 1824) ∧ st1 0 29 = 1) ∨ (((0 ≤ a ∧ a ≤ 2) ∧ 0 ≤ d ∧ d ≤ 1824) ∧ st1 0 29 = 2))) := by
  refine mk_open (cc := cX6_split) (maxL := 6) (ret := (some .int)) (by decide) rfl (Nat.le_of_ble_eq_true rfl) ?_
  intro p e s m args below meth c hx hb hml hr hown hts hlocks hK hN hargs ls hl hW
  have hown : s.vm.findClass RX6 = some m.cls := hown
  have hl : lv_has ls 6 [(0, .ref (ad 0)), (1, .int (iI a)), (2, .int (iI d)), (3, .int (iI f))] := hl
  have inX6 : ∀ w ∈ wsX60, w ∈ wsX6_split := by decide +kernel
  have fl91 := hts (.fieldLink RX6 91 "GainsReckonerModel" "thrown" "I") (by decide +kernel)
  refine lv_aload_n hx hb dX6_split_0 rfl (lv_at hl 0 rfl) ?_
  refine lv_iload_n hx hb dX6_split_1 rfl (lv_at hl 1 rfl) ?_
  refine mk_goI (va_runS (As := [.int (iI a)]) (rest := [.ref (ad 0)]) ⟨hx, hb, hml, hown, hts⟩ (c_X6_isShare l cg D ad st a (by omega)) (cwS 1 hts gX6_split_X6_isShare rfl rfl rfl (by decide +kernel) ⟨Nat.le_of_ble_eq_true rfl, Nat.le_of_ble_eq_true rfl⟩) (mk_preS hK hN hW) rfl rfl hl.1 rfl (lv_room (Nat.le_of_ble_eq_true rfl)) dX6_split_2 ⟨Nat.zero_le _, Nat.zero_le _⟩) hW (fun z1 st1 hp2 H locs hW => ?_)
  obtain ⟨est1, hz1⟩ := hp2
  rw [est1] at hW
  refine mk_if_eq (tgt := 15) hx hb dX6_split_5 (by decide) (by omega) (fun c_5 => ?_) (fun c_5 => ?_)
  · skip
    refine mk_iconst hx hb (1) dX6_split_15 ?_
    refine lv_goto (tgt := 33) hx hb dX6_split_16 (by decide) ?_
    refine mk_put (ci := 6) (C := RX6) (T := TX6) (N := 30) hx hb hts inX6 tyX6 tyX6_ok nmX6 hown hK hW 0 (by decide) rfl rfl 29 (by decide) fl91 (fun _ h9 => h9) rfl (by decide +kernel) (Nat.le_of_ble_eq_true rfl) rfl dX6_split_33 (fun H locs hW => ?_)
    obtain ⟨st2, est2⟩ : ∃ z, z = stC st 0 (fnU (st 0) 29 1) := ⟨_, rfl⟩
    rw [← est2] at hW
    have hM1 : MW st st2 := by rw [est2]; exact MW.thr st _
    have hB1 : BV st2 := hB.mw hM1
    have h29 : st2 0 29 = 1 := by rw [est2]; rfl
    refine lv_aload_n hx hb dX6_split_36 rfl (lv_at hl 0 rfl) ?_
    refine mk_get (ci := 6) (C := RX6) (T := TX6) (N := 30) hx hb hts inX6 hown hK hW 0 (by decide) rfl rfl 29 (by decide) fl91 (fun _ h9 => h9) rfl dX6_split_37 ?_
    refine mk_sayi (y := 1) h29 ?_
    refine mk_if_le (tgt := 45) hx hb dX6_split_40 (by decide) (by omega) (fun c_40 => ?_) (fun c_40 => ?_)
    · skip
      omega
    · skip
      refine mk_iconst hx hb (0) dX6_split_43 ?_
      exact mk_retI hx hb hr hlocks hW ⟨hM1, by omega⟩ dX6_split_44
  · skip
    refine lv_iload_n hx hb dX6_split_8 rfl (lv_at hl 2 rfl) ?_
    refine mk_goI (va_runS (As := [.int (iI d)]) (rest := [.ref (ad 0)]) ⟨hx, hb, hml, hown, hts⟩ (c_X6_isDay l cg D ad st d (by omega)) (cwS 1 hts gX6_split_X6_isDay rfl rfl rfl (by decide +kernel) ⟨Nat.le_of_ble_eq_true rfl, Nat.le_of_ble_eq_true rfl⟩) (mk_preS hK hN hW) rfl rfl hl.1 rfl (lv_room (Nat.le_of_ble_eq_true rfl)) dX6_split_9 ⟨Nat.zero_le _, Nat.zero_le _⟩) hW (fun z2 st3 hp9 H locs hW => ?_)
    obtain ⟨est3, hz2⟩ := hp9
    rw [est3] at hW
    refine mk_if_ne (tgt := 19) hx hb dX6_split_12 (by decide) (by omega) (fun c_12 => ?_) (fun c_12 => ?_)
    · skip
      refine lv_iload_n hx hb dX6_split_19 rfl (lv_at hl 3 rfl) ?_
      refine mk_iconst hx hb (2) dX6_split_20 ?_
      refine mk_iconst hx hb (5) dX6_split_21 ?_
      refine mk_goI (va_runS (As := [.int (iI f), .int (iI 2), .int (iI 5)]) (rest := [.ref (ad 0)]) ⟨hx, hb, hml, hown, hts⟩ (c_X6_isIn l cg D ad st f 2 5 (by omega) (by omega) (by omega)) (cwS 3 hts gX6_split_X6_isIn rfl rfl rfl (by decide +kernel) ⟨Nat.le_of_ble_eq_true rfl, Nat.le_of_ble_eq_true rfl⟩) (mk_preS hK hN hW) rfl rfl hl.1 rfl (lv_room (Nat.le_of_ble_eq_true rfl)) dX6_split_22 ⟨Nat.zero_le _, Nat.zero_le _⟩) hW (fun z3 st4 hp22 H locs hW => ?_)
      obtain ⟨est4, hz3⟩ := hp22
      rw [est4] at hW
      refine mk_if_eq (tgt := 32) hx hb dX6_split_25 (by decide) (by omega) (fun c_25 => ?_) (fun c_25 => ?_)
      · skip
        refine mk_iconst hx hb (2) dX6_split_32 ?_
        refine mk_put (ci := 6) (C := RX6) (T := TX6) (N := 30) hx hb hts inX6 tyX6 tyX6_ok nmX6 hown hK hW 0 (by decide) rfl rfl 29 (by decide) fl91 (fun _ h9 => h9) rfl (by decide +kernel) (Nat.le_of_ble_eq_true rfl) rfl dX6_split_33 (fun H locs hW => ?_)
        obtain ⟨st5, est5⟩ : ∃ z, z = stC st 0 (fnU (st 0) 29 2) := ⟨_, rfl⟩
        rw [← est5] at hW
        have hM1 : MW st st5 := by rw [est5]; exact MW.thr st _
        have hB1 : BV st5 := hB.mw hM1
        have h29 : st5 0 29 = 2 := by rw [est5]; rfl
        refine lv_aload_n hx hb dX6_split_36 rfl (lv_at hl 0 rfl) ?_
        refine mk_get (ci := 6) (C := RX6) (T := TX6) (N := 30) hx hb hts inX6 hown hK hW 0 (by decide) rfl rfl 29 (by decide) fl91 (fun _ h9 => h9) rfl dX6_split_37 ?_
        refine mk_sayi (y := 2) h29 ?_
        refine mk_if_le (tgt := 45) hx hb dX6_split_40 (by decide) (by omega) (fun c_40 => ?_) (fun c_40 => ?_)
        · skip
          omega
        · skip
          refine mk_iconst hx hb (0) dX6_split_43 ?_
          exact mk_retI hx hb hr hlocks hW ⟨hM1, by omega⟩ dX6_split_44
      · skip
        refine mk_iconst hx hb (0) dX6_split_28 ?_
        refine lv_goto (tgt := 33) hx hb dX6_split_29 (by decide) ?_
        refine mk_put (ci := 6) (C := RX6) (T := TX6) (N := 30) hx hb hts inX6 tyX6 tyX6_ok nmX6 hown hK hW 0 (by decide) rfl rfl 29 (by decide) fl91 (fun _ h9 => h9) rfl (by decide +kernel) (Nat.le_of_ble_eq_true rfl) rfl dX6_split_33 (fun H locs hW => ?_)
        obtain ⟨st6, est6⟩ : ∃ z, z = stC st 0 (fnU (st 0) 29 0) := ⟨_, rfl⟩
        rw [← est6] at hW
        have hM1 : MW st st6 := by rw [est6]; exact MW.thr st _
        have hB1 : BV st6 := hB.mw hM1
        have h29 : st6 0 29 = 0 := by rw [est6]; rfl
        refine lv_aload_n hx hb dX6_split_36 rfl (lv_at hl 0 rfl) ?_
        refine mk_get (ci := 6) (C := RX6) (T := TX6) (N := 30) hx hb hts inX6 hown hK hW 0 (by decide) rfl rfl 29 (by decide) fl91 (fun _ h9 => h9) rfl dX6_split_37 ?_
        refine mk_sayi (y := 0) h29 ?_
        refine mk_if_le (tgt := 45) hx hb dX6_split_40 (by decide) (by omega) (fun c_40 => ?_) (fun c_40 => ?_)
        · skip
          omega
        · skip
          refine mk_iconst hx hb (0) dX6_split_43 ?_
          exact mk_retI hx hb hr hlocks hW ⟨hM1, by omega⟩ dX6_split_44
    · skip
      refine mk_iconst hx hb (1) dX6_split_15 ?_
      refine lv_goto (tgt := 33) hx hb dX6_split_16 (by decide) ?_
      refine mk_put (ci := 6) (C := RX6) (T := TX6) (N := 30) hx hb hts inX6 tyX6 tyX6_ok nmX6 hown hK hW 0 (by decide) rfl rfl 29 (by decide) fl91 (fun _ h9 => h9) rfl (by decide +kernel) (Nat.le_of_ble_eq_true rfl) rfl dX6_split_33 (fun H locs hW => ?_)
      obtain ⟨st7, est7⟩ : ∃ z, z = stC st 0 (fnU (st 0) 29 1) := ⟨_, rfl⟩
      rw [← est7] at hW
      have hM1 : MW st st7 := by rw [est7]; exact MW.thr st _
      have hB1 : BV st7 := hB.mw hM1
      have h29 : st7 0 29 = 1 := by rw [est7]; rfl
      refine lv_aload_n hx hb dX6_split_36 rfl (lv_at hl 0 rfl) ?_
      refine mk_get (ci := 6) (C := RX6) (T := TX6) (N := 30) hx hb hts inX6 hown hK hW 0 (by decide) rfl rfl 29 (by decide) fl91 (fun _ h9 => h9) rfl dX6_split_37 ?_
      refine mk_sayi (y := 1) h29 ?_
      refine mk_if_le (tgt := 45) hx hb dX6_split_40 (by decide) (by omega) (fun c_40 => ?_) (fun c_40 => ?_)
      · skip
        omega
      · skip
        refine mk_iconst hx hb (0) dX6_split_43 ?_
        exact mk_retI hx hb hr hlocks hW ⟨hM1, by omega⟩ dX6_split_44

set_option maxHeartbeats 4000000 in
set_option maxRecDepth 100000 in
theorem c_X6_split (l : Launch) (cg : Nat → ClassId) (D : va_G) (ad : Nat → Nat) (st : Nat → Nat → Int) (v : Nat) (d f : Int) (hB : BV st) (hv : v < 3) (hd : 0 ≤ d ∧ d < 1825) (hf9 : 2 ≤ f ∧ f ≤ 5) : MI l yX6_split wsX6_split ({ frames := 2, cells := 0, slots := 0, locals := 80 }) D vwCl (TY cg) 26 (celM cg) ad st [.ref (ad 0), .int (iI ((v : Nat) : Int)), .int (iI d), .int (iI f)] (fun z st1 => (st1 0 29 = 3 ∧ MW st st1 ∧ (bM st v = 4 ∨ ∃ j, j < bM st v ∧ bSD st v j = d)) ∨ (MW (splM st v d f) st1 ∧ st1 0 29 = 0 ∧ z = (bM st v : Int) + 1 ∧ bM st v < 4 ∧ ∀ j, j < bM st v → bSD st v j ≠ d)) := by
  refine mk_open (cc := cX6_split) (maxL := 6) (ret := (some .int)) (by decide) rfl (Nat.le_of_ble_eq_true rfl) ?_
  intro p e s m args below meth c hx hb hml hr hown hts hlocks hK hN hargs ls hl hW
  have hown : s.vm.findClass RX6 = some m.cls := hown
  have hl : lv_has ls 6 [(0, .ref (ad 0)), (1, .int (iI ((v : Nat) : Int))), (2, .int (iI d)), (3, .int (iI f))] := hl
  have inX6 : ∀ w ∈ wsX60, w ∈ wsX6_split := by decide +kernel
  have fl91 := hts (.fieldLink RX6 91 "GainsReckonerModel" "thrown" "I") (by decide +kernel)
  have fl29 := hts (.fieldLink RX6 29 "GainsReckonerModel" "splits" "[I") (by decide +kernel)
  have fl32 := hts (.fieldLink RX6 32 "GainsReckonerModel" "splitDay" "[I") (by decide +kernel)
  have fl35 := hts (.fieldLink RX6 35 "GainsReckonerModel" "factor" "[I") (by decide +kernel)
  have hm4 := (hB.2.2.1 v hv).2.1
  refine lv_aload_n hx hb dX6_split_0 rfl (lv_at hl 0 rfl) ?_
  refine lv_iload_n hx hb dX6_split_1 rfl (lv_at hl 1 rfl) ?_
  refine mk_goI (va_runS (As := [.int (iI ((v : Nat) : Int))]) (rest := [.ref (ad 0)]) ⟨hx, hb, hml, hown, hts⟩ (c_X6_isShare l cg D ad st (v : Int) (by omega)) (cwS 1 hts gX6_split_X6_isShare rfl rfl rfl (by decide +kernel) ⟨Nat.le_of_ble_eq_true rfl, Nat.le_of_ble_eq_true rfl⟩) (mk_preS hK hN hW) rfl rfl hl.1 rfl (lv_room (Nat.le_of_ble_eq_true rfl)) dX6_split_2 ⟨Nat.zero_le _, Nat.zero_le _⟩) hW (fun z1 st1 hp2 H locs hW => ?_)
  obtain ⟨est1, hz1⟩ := hp2
  rw [est1] at hW
  refine mk_if_eq (tgt := 15) hx hb dX6_split_5 (by decide) (by omega) (fun c_5 => ?_) (fun c_5 => ?_)
  · skip
    omega
  · skip
    refine lv_iload_n hx hb dX6_split_8 rfl (lv_at hl 2 rfl) ?_
    refine mk_goI (va_runS (As := [.int (iI d)]) (rest := [.ref (ad 0)]) ⟨hx, hb, hml, hown, hts⟩ (c_X6_isDay l cg D ad st d (by omega)) (cwS 1 hts gX6_split_X6_isDay rfl rfl rfl (by decide +kernel) ⟨Nat.le_of_ble_eq_true rfl, Nat.le_of_ble_eq_true rfl⟩) (mk_preS hK hN hW) rfl rfl hl.1 rfl (lv_room (Nat.le_of_ble_eq_true rfl)) dX6_split_9 ⟨Nat.zero_le _, Nat.zero_le _⟩) hW (fun z2 st2 hp9 H locs hW => ?_)
    obtain ⟨est2, hz2⟩ := hp9
    rw [est2] at hW
    refine mk_if_ne (tgt := 19) hx hb dX6_split_12 (by decide) (by omega) (fun c_12 => ?_) (fun c_12 => ?_)
    · skip
      refine lv_iload_n hx hb dX6_split_19 rfl (lv_at hl 3 rfl) ?_
      refine mk_iconst hx hb (2) dX6_split_20 ?_
      refine mk_iconst hx hb (5) dX6_split_21 ?_
      refine mk_goI (va_runS (As := [.int (iI f), .int (iI 2), .int (iI 5)]) (rest := [.ref (ad 0)]) ⟨hx, hb, hml, hown, hts⟩ (c_X6_isIn l cg D ad st f 2 5 (by omega) (by omega) (by omega)) (cwS 3 hts gX6_split_X6_isIn rfl rfl rfl (by decide +kernel) ⟨Nat.le_of_ble_eq_true rfl, Nat.le_of_ble_eq_true rfl⟩) (mk_preS hK hN hW) rfl rfl hl.1 rfl (lv_room (Nat.le_of_ble_eq_true rfl)) dX6_split_22 ⟨Nat.zero_le _, Nat.zero_le _⟩) hW (fun z3 st3 hp22 H locs hW => ?_)
      obtain ⟨est3, hz3⟩ := hp22
      rw [est3] at hW
      refine mk_if_eq (tgt := 32) hx hb dX6_split_25 (by decide) (by omega) (fun c_25 => ?_) (fun c_25 => ?_)
      · skip
        omega
      · skip
        refine mk_iconst hx hb (0) dX6_split_28 ?_
        refine lv_goto (tgt := 33) hx hb dX6_split_29 (by decide) ?_
        refine mk_put (ci := 6) (C := RX6) (T := TX6) (N := 30) hx hb hts inX6 tyX6 tyX6_ok nmX6 hown hK hW 0 (by decide) rfl rfl 29 (by decide) fl91 (fun _ h9 => h9) rfl (by decide +kernel) (Nat.le_of_ble_eq_true rfl) rfl dX6_split_33 (fun H locs hW => ?_)
        obtain ⟨st4, est4⟩ : ∃ z, z = stC st 0 (fnU (st 0) 29 0) := ⟨_, rfl⟩
        rw [← est4] at hW
        have h29 : st4 0 29 = 0 := by rw [est4]; rfl
        refine lv_aload_n hx hb dX6_split_36 rfl (lv_at hl 0 rfl) ?_
        refine mk_get (ci := 6) (C := RX6) (T := TX6) (N := 30) hx hb hts inX6 hown hK hW 0 (by decide) rfl rfl 29 (by decide) fl91 (fun _ h9 => h9) rfl dX6_split_37 ?_
        refine mk_sayi (y := 0) h29 ?_
        refine mk_if_le (tgt := 45) hx hb dX6_split_40 (by decide) (by omega) (fun c_40 => ?_) (fun c_40 => ?_)
        · skip
          refine mk_iconst hx hb (4) dX6_split_45 ?_
          refine lv_iload_n hx hb dX6_split_46 rfl (lv_at hl 1 rfl) ?_
          refine mk_imul hx hb dX6_split_47 ?_
          refine mk_sayi (y := ((4 * v : Nat) : Int)) (by omega) ?_
          refine lv_aload_n hx hb dX6_split_48 rfl (lv_at hl 0 rfl) ?_
          refine mk_get (ci := 6) (C := RX6) (T := TX6) (N := 30) hx hb hts inX6 hown hK hW 0 (by decide) rfl rfl 7 (by decide) fl29 (fun _ h9 => h9) rfl dX6_split_49 ?_
          refine lv_iload_n hx hb dX6_split_52 rfl (lv_at hl 1 rfl) ?_
          refine mk_iald hx hb hK hW 7 (by decide) rfl 0 rfl (j := v) rfl (by omega) (by decide) dX6_split_53 ?_
          refine mk_sayi (y := (st 7 v)) (by rw [show st4 7 = st 7 from by rw [est4]; exact stC_ne (by decide)]) ?_
          refine mk_sayi (y := (((bM st v) : Nat) : Int)) (hB.2.2.1 v hv).1 ?_
          refine mk_iadd hx hb dX6_split_54 ?_
          refine mk_sayi (y := ((4 * v + bM st v : Nat) : Int)) (by push_cast; omega) ?_
          refine lv_istore (lv' := [(4, .int (iI ((4 * v + bM st v : Nat) : Int))), (0, .ref (ad 0)), (1, .int (iI ((v : Nat) : Int))), (2, .int (iI d)), (3, .int (iI f))]) hx hb dX6_split_55 hl (by decide) rfl (fun ls hl => ?_)
          refine lv_aload_n hx hb dX6_split_57 rfl (lv_at hl 1 rfl) ?_
          refine lv_aload_n hx hb dX6_split_58 rfl (lv_at hl 1 rfl) ?_
          refine mk_get (ci := 6) (C := RX6) (T := TX6) (N := 30) hx hb hts inX6 hown hK hW 0 (by decide) rfl rfl 7 (by decide) fl29 (fun _ h9 => h9) rfl dX6_split_59 ?_
          refine lv_iload_n hx hb dX6_split_62 rfl (lv_at hl 2 rfl) ?_
          refine mk_iald hx hb hK hW 7 (by decide) rfl 0 rfl (j := v) rfl (by omega) (by decide) dX6_split_63 ?_
          refine mk_sayi (y := (st 7 v)) (by rw [show st4 7 = st 7 from by rw [est4]; exact stC_ne (by decide)]) ?_
          refine mk_sayi (y := (((bM st v) : Nat) : Int)) (hB.2.2.1 v hv).1 ?_
          refine mk_iconst hx hb (4) dX6_split_64 ?_
          refine mk_icmp_ne (tgt := 72) hx hb dX6_split_65 (by decide) (by omega) (by omega) (fun c_65 => ?_) (fun c_65 => ?_)
          · skip
            refine mk_iconst hx hb (0) dX6_split_72 ?_
            refine mk_put (ci := 6) (C := RX6) (T := TX6) (N := 30) hx hb hts inX6 tyX6 tyX6_ok nmX6 hown hK hW 0 (by decide) rfl rfl 29 (by decide) fl91 (fun _ h9 => h9) rfl (by decide +kernel) (Nat.le_of_ble_eq_true rfl) rfl dX6_split_73 (fun H locs hW => ?_)
            obtain ⟨st5, est5⟩ : ∃ z, z = stC st4 0 (fnU (st4 0) 29 0) := ⟨_, rfl⟩
            rw [← est5] at hW
            have h29 : st5 0 29 = 0 := by rw [est5]; rfl
            refine mk_iconst hx hb (4) dX6_split_76 ?_
            refine lv_iload_n hx hb dX6_split_77 rfl (lv_at hl 2 rfl) ?_
            refine mk_imul hx hb dX6_split_78 ?_
            refine mk_sayi (y := ((4 * v : Nat) : Int)) (by omega) ?_
            refine lv_istore (lv' := [(5, .int (iI ((4 * v : Nat) : Int))), (4, .int (iI ((4 * v + bM st v : Nat) : Int))), (0, .ref (ad 0)), (1, .int (iI ((v : Nat) : Int))), (2, .int (iI d)), (3, .int (iI f))]) hx hb dX6_split_79 hl (by decide) rfl (fun ls hl => ?_)
            have loop81 : ∀ (fuel : Nat) (q9 : Nat → Nat → Int) (i : Nat), (i ≤ bM st v) → (Fr [0] st q9) → (q9 0 0 = st 0 0) → (q9 0 11 = st 0 11) → ((q9 0 29 = 3 ∧ (bM st v = 4 ∨ ∃ j, j < i ∧ bSD st v j = d)) ∨ (q9 0 29 = 0 ∧ bM st v ≠ 4 ∧ ∀ j, j < i → bSD st v j ≠ d)) → bM st v - i < fuel → ∀ (H : Heap) (locs : List Loc) (ls : Array Slot), GW D vwCl 26 (celM cg) ad (wA 26 ad) s.heap q9 H locs → lv_has ls 6 [(0, .ref (ad 0)), (1, .int (iI ((v : Nat) : Int))), (2, .int (iI d)), (3, .int (iI f)), (4, .int (iI ((4 * v + bM st v : Nat) : Int))), (5, .int (iI ((4 * v + i : Nat) : Int)))] → W p l e (headSpec wsX6_split ({ frames := 2, cells := 0, slots := 0, locals := 80 })).room s m args below meth c H locs 0 0 (MQ below (va_Qi (fun (r : Int32) (u : Nat → Nat → Int) => ∃ z : Int, r = iI z ∧ (fun z st1 => (st1 0 29 = 3 ∧ MW st st1 ∧ (bM st v = 4 ∨ ∃ j, j < bM st v ∧ bSD st v j = d)) ∨ (MW (splM st v d f) st1 ∧ st1 0 29 = 0 ∧ z = (bM st v : Int) + 1 ∧ bM st v < 4 ∧ ∀ j, j < bM st v → bSD st v j ≠ d)) z u) (mB D vwCl 26 (celM cg) ad) (wA 26 ad)) args s 0 0 (wA 26 ad)) (F0 m 81 ls []) := by
              intro fuel
              induction fuel with
              | zero => intro q9 i hi hf hq0 hq11 hT hmu; omega
              | succ fuel ih81 =>
                intro q9 i hi hf hq0 hq11 hT hmu H locs ls hW hl
                refine lv_iload hx hb dX6_split_81 (lv_at hl 5 rfl) ?_
                refine lv_iload hx hb dX6_split_83 (lv_at hl 4 rfl) ?_
                refine mk_icmp_ge (tgt := 117) hx hb dX6_split_85 (by decide) (by omega) (by omega) (fun c_85 => ?_) (fun c_85 => ?_)
                · skip
                  have hqM : MW st q9 := MW.of hf (by decide) hq0 hq11
                  have ei : i = bM st v := by omega
                  rw [ei] at hT
                  have hTr : q9 0 29 = 0 ∨ q9 0 29 = 3 := by rcases hT with h | h <;> omega
                  refine lv_aload_n hx hb dX6_split_117 rfl (lv_at hl 0 rfl) ?_
                  refine mk_get (ci := 6) (C := RX6) (T := TX6) (N := 30) hx hb hts inX6 hown hK hW 0 (by decide) rfl rfl 29 (by decide) fl91 (fun _ h9 => h9) rfl dX6_split_118 ?_
                  refine mk_if_le (tgt := 126) hx hb dX6_split_121 (by decide) (by omega) (fun c_121 => ?_) (fun c_121 => ?_)
                  · skip
                    refine lv_aload_n hx hb dX6_split_126 rfl (lv_at hl 0 rfl) ?_
                    refine mk_get (ci := 6) (C := RX6) (T := TX6) (N := 30) hx hb hts inX6 hown hK hW 0 (by decide) rfl rfl 8 (by decide) fl32 (fun _ h9 => h9) rfl dX6_split_127 ?_
                    refine lv_iload hx hb dX6_split_130 (lv_at hl 4 rfl) ?_
                    refine lv_iload_n hx hb dX6_split_132 rfl (lv_at hl 2 rfl) ?_
                    refine mk_iast hx hb hK hW 8 (by decide) (fun _ => rfl) 0 rfl (j := (4 * v + bM st v)) rfl (by omega) (by decide) dX6_split_133 (fun H locs hW => ?_)
                    obtain ⟨st6, est6⟩ : ∃ z, z = stC q9 8 (fnU (q9 8) (4 * v + bM st v) d) := ⟨_, rfl⟩
                    rw [← est6] at hW
                    refine lv_aload_n hx hb dX6_split_134 rfl (lv_at hl 0 rfl) ?_
                    refine mk_get (ci := 6) (C := RX6) (T := TX6) (N := 30) hx hb hts inX6 hown hK hW 0 (by decide) rfl rfl 9 (by decide) fl35 (fun _ h9 => h9) rfl dX6_split_135 ?_
                    refine lv_iload hx hb dX6_split_138 (lv_at hl 4 rfl) ?_
                    refine lv_iload_n hx hb dX6_split_140 rfl (lv_at hl 3 rfl) ?_
                    refine mk_iast hx hb hK hW 9 (by decide) (fun _ => rfl) 0 rfl (j := (4 * v + bM st v)) rfl (by omega) (by decide) dX6_split_141 (fun H locs hW => ?_)
                    obtain ⟨st7, est7⟩ : ∃ z, z = stC st6 9 (fnU (st6 9) (4 * v + bM st v) f) := ⟨_, rfl⟩
                    rw [← est7] at hW
                    refine lv_aload_n hx hb dX6_split_142 rfl (lv_at hl 0 rfl) ?_
                    refine mk_get (ci := 6) (C := RX6) (T := TX6) (N := 30) hx hb hts inX6 hown hK hW 0 (by decide) rfl rfl 7 (by decide) fl29 (fun _ h9 => h9) rfl dX6_split_143 ?_
                    refine lv_iload_n hx hb dX6_split_146 rfl (lv_at hl 1 rfl) ?_
                    refine lv_dup2_11 hx hb dX6_split_147 rfl rfl ?_
                    refine mk_iald hx hb hK hW 7 (by decide) rfl 0 rfl (j := v) rfl (by omega) (by decide) dX6_split_148 ?_
                    refine mk_sayi (y := (st 7 v)) (by rw [show st7 7 = st6 7 from by rw [est7]; exact stC_ne (by decide), show st6 7 = q9 7 from by rw [est6]; exact stC_ne (by decide), hf 7 (by decide)]) ?_
                    refine mk_sayi (y := (((bM st v) : Nat) : Int)) (hB.2.2.1 v hv).1 ?_
                    refine mk_iconst hx hb (1) dX6_split_149 ?_
                    refine mk_iadd hx hb dX6_split_150 ?_
                    refine mk_iast hx hb hK hW 7 (by decide) (fun _ => rfl) 0 rfl (j := v) rfl (by omega) (by decide) dX6_split_151 (fun H locs hW => ?_)
                    obtain ⟨st8, est8⟩ : ∃ z, z = stC st7 7 (fnU (st7 7) v ((((bM st v) : Nat) : Int) + 1)) := ⟨_, rfl⟩
                    rw [← est8] at hW
                    refine lv_aload_n hx hb dX6_split_152 rfl (lv_at hl 0 rfl) ?_
                    refine mk_get (ci := 6) (C := RX6) (T := TX6) (N := 30) hx hb hts inX6 hown hK hW 0 (by decide) rfl rfl 7 (by decide) fl29 (fun _ h9 => h9) rfl dX6_split_153 ?_
                    refine lv_iload_n hx hb dX6_split_156 rfl (lv_at hl 1 rfl) ?_
                    refine mk_iald hx hb hK hW 7 (by decide) rfl 0 rfl (j := v) rfl (by omega) (by decide) dX6_split_157 ?_
                    refine mk_sayi (y := ((bM st v : Int) + 1)) (by rw [est8]; exact fnU_eq _ _ _) ?_
                    exact mk_retI hx hb hr hlocks hW (Or.inr (by
                      have h3 : q9 0 29 = 0 ∧ bM st v ≠ 4 ∧ ∀ j, j < bM st v → bSD st v j ≠ d := by rcases hT with h | h; omega; exact h
                      refine ⟨?_, by rw [est8, est7, est6]; exact h3.1, rfl, by omega, h3.2.2⟩
                      rw [est8, est7, est6]
                      refine ⟨fun k h1 h2 => ?_, hq0, hq11⟩
                      have z7 := hqM.1 7 (by omega) (by omega)
                      have z8 := hqM.1 8 (by omega) (by omega)
                      have z9 := hqM.1 9 (by omega) (by omega)
                      rcases (show k = 7 ∨ k = 8 ∨ k = 9 ∨ (k ≠ 7 ∧ k ≠ 8 ∧ k ≠ 9) by omega) with h | h | h | ⟨n7, n8, n9⟩
                      · rw [h]; show fnU (q9 7) v _ = fnU (st 7) v _; rw [z7]
                      · rw [h]; show fnU (q9 8) _ _ = fnU (st 8) _ _; rw [z8]
                      · rw [h]; show fnU (q9 9) _ _ = fnU (st 9) _ _; rw [z9]
                      · unfold splM
                        rw [stC_ne n7, stC_ne n9, stC_ne n8, stC_ne n7, stC_ne n9, stC_ne n8]
                        exact hqM.1 k h1 h2)) dX6_split_158
                  · skip
                    refine mk_iconst hx hb (0) dX6_split_124 ?_
                    exact mk_retI hx hb hr hlocks hW (Or.inl ⟨by omega, hqM, by rcases hT with h | h; exact h.2; omega⟩) dX6_split_125
                · skip
                  have hTr : q9 0 29 = 0 ∨ q9 0 29 = 3 := by rcases hT with h | h <;> omega
                  refine lv_aload_n hx hb dX6_split_88 rfl (lv_at hl 0 rfl) ?_
                  refine lv_aload_n hx hb dX6_split_89 rfl (lv_at hl 0 rfl) ?_
                  refine mk_get (ci := 6) (C := RX6) (T := TX6) (N := 30) hx hb hts inX6 hown hK hW 0 (by decide) rfl rfl 8 (by decide) fl32 (fun _ h9 => h9) rfl dX6_split_90 ?_
                  refine lv_iload hx hb dX6_split_93 (lv_at hl 5 rfl) ?_
                  refine mk_iald hx hb hK hW 8 (by decide) rfl 0 rfl (j := (4 * v + i)) rfl (by omega) (by decide) dX6_split_95 ?_
                  refine mk_sayi (y := (st 8 (4 * v + i))) (by rw [hf 8 (by decide)]) ?_
                  have hS9 := (hB.2.2.1 v hv).2.2 i (by omega)
                  have hS8 : bSD st v i = st 8 (4 * v + i) := rfl
                  refine lv_iload_n hx hb dX6_split_96 rfl (lv_at hl 2 rfl) ?_
                  refine mk_icmp_ne (tgt := 104) hx hb dX6_split_97 (by decide) (by omega) (by omega) (fun c_97 => ?_) (fun c_97 => ?_)
                  · skip
                    refine lv_aload_n hx hb dX6_split_104 rfl (lv_at hl 0 rfl) ?_
                    refine mk_get (ci := 6) (C := RX6) (T := TX6) (N := 30) hx hb hts inX6 hown hK hW 0 (by decide) rfl rfl 29 (by decide) fl91 (fun _ h9 => h9) rfl dX6_split_105 ?_
                    refine mk_put (ci := 6) (C := RX6) (T := TX6) (N := 30) hx hb hts inX6 tyX6 tyX6_ok nmX6 hown hK hW 0 (by decide) rfl rfl 29 (by decide) fl91 (fun _ h9 => h9) rfl (by decide +kernel) (Nat.le_of_ble_eq_true rfl) rfl dX6_split_108 (fun H locs hW => ?_)
                    obtain ⟨st9, est9⟩ : ∃ z, z = stC q9 0 (fnU (q9 0) 29 (q9 0 29)) := ⟨_, rfl⟩
                    rw [← est9] at hW
                    have h29 : st9 0 29 = (q9 0 29) := by rw [est9]; rfl
                    have hg : Fr [0] st st9 := by rw [est9]; exact hf.st (by decide)
                    refine mk_iinc (w := ((4 * v + i + 1 : Nat) : Int)) (lv' := [(5, .int (iI ((4 * v + i + 1 : Nat) : Int))), (0, .ref (ad 0)), (1, .int (iI ((v : Nat) : Int))), (2, .int (iI d)), (3, .int (iI f)), (4, .int (iI ((4 * v + bM st v : Nat) : Int)))]) hx hb dX6_split_111 hl (k := 5) rfl (by omega) (by decide) rfl (fun ls hl => ?_)
                    refine lv_goto (tgt := 81) hx hb dX6_split_114 (by decide) ?_
                    exact ih81 st9 (i + 1) (by omega) hg (by rw [est9]; exact hq0) (by rw [est9]; exact hq11) (by
                      rcases hT with ⟨h1, h2⟩ | ⟨h1, h2, h3⟩
                      · exact Or.inl ⟨by omega, by rcases h2 with h2 | ⟨j, h3, h4⟩; exact Or.inl h2; exact Or.inr ⟨j, by omega, h4⟩⟩
                      · refine Or.inr ⟨by omega, h2, fun j hj => ?_⟩
                        rcases Nat.lt_or_ge j i with y | y
                        · exact h3 j y
                        · rw [show j = i by omega, hS8]; exact c_97) (by omega) _ _ _ hW (lv_sub hl [1, 2, 3, 4, 5, 0] rfl)
                  · skip
                    refine mk_iconst hx hb (3) dX6_split_100 ?_
                    refine lv_goto (tgt := 108) hx hb dX6_split_101 (by decide) ?_
                    refine mk_put (ci := 6) (C := RX6) (T := TX6) (N := 30) hx hb hts inX6 tyX6 tyX6_ok nmX6 hown hK hW 0 (by decide) rfl rfl 29 (by decide) fl91 (fun _ h9 => h9) rfl (by decide +kernel) (Nat.le_of_ble_eq_true rfl) rfl dX6_split_108 (fun H locs hW => ?_)
                    obtain ⟨st10, est10⟩ : ∃ z, z = stC q9 0 (fnU (q9 0) 29 3) := ⟨_, rfl⟩
                    rw [← est10] at hW
                    have h29 : st10 0 29 = 3 := by rw [est10]; rfl
                    have hg : Fr [0] st st10 := by rw [est10]; exact hf.st (by decide)
                    refine mk_iinc (w := ((4 * v + i + 1 : Nat) : Int)) (lv' := [(5, .int (iI ((4 * v + i + 1 : Nat) : Int))), (0, .ref (ad 0)), (1, .int (iI ((v : Nat) : Int))), (2, .int (iI d)), (3, .int (iI f)), (4, .int (iI ((4 * v + bM st v : Nat) : Int)))]) hx hb dX6_split_111 hl (k := 5) rfl (by omega) (by decide) rfl (fun ls hl => ?_)
                    refine lv_goto (tgt := 81) hx hb dX6_split_114 (by decide) ?_
                    exact ih81 st10 (i + 1) (by omega) hg (by rw [est10]; exact hq0) (by rw [est10]; exact hq11) (Or.inl ⟨by omega, Or.inr ⟨i, by omega, by omega⟩⟩) (by omega) _ _ _ hW (lv_sub hl [1, 2, 3, 4, 5, 0] rfl)
            exact loop81 _ st5 0 (Nat.zero_le _) (by rw [est5, est4]; exact (Fr.rf.st (by decide)).st (by decide)) (by rw [est5, est4]; rfl) (by rw [est5, est4]; rfl) (Or.inr ⟨h29, by omega, fun j hj => absurd hj (Nat.not_lt_zero j)⟩) (Nat.lt_succ_self _) _ _ _ hW (lv_sub hl [2, 3, 4, 5, 1, 0] rfl)
          · skip
            refine mk_iconst hx hb (3) dX6_split_68 ?_
            refine lv_goto (tgt := 73) hx hb dX6_split_69 (by decide) ?_
            refine mk_put (ci := 6) (C := RX6) (T := TX6) (N := 30) hx hb hts inX6 tyX6 tyX6_ok nmX6 hown hK hW 0 (by decide) rfl rfl 29 (by decide) fl91 (fun _ h9 => h9) rfl (by decide +kernel) (Nat.le_of_ble_eq_true rfl) rfl dX6_split_73 (fun H locs hW => ?_)
            obtain ⟨st11, est11⟩ : ∃ z, z = stC st4 0 (fnU (st4 0) 29 3) := ⟨_, rfl⟩
            rw [← est11] at hW
            have h29 : st11 0 29 = 3 := by rw [est11]; rfl
            refine mk_iconst hx hb (4) dX6_split_76 ?_
            refine lv_iload_n hx hb dX6_split_77 rfl (lv_at hl 2 rfl) ?_
            refine mk_imul hx hb dX6_split_78 ?_
            refine mk_sayi (y := ((4 * v : Nat) : Int)) (by omega) ?_
            refine lv_istore (lv' := [(5, .int (iI ((4 * v : Nat) : Int))), (4, .int (iI ((4 * v + bM st v : Nat) : Int))), (0, .ref (ad 0)), (1, .int (iI ((v : Nat) : Int))), (2, .int (iI d)), (3, .int (iI f))]) hx hb dX6_split_79 hl (by decide) rfl (fun ls hl => ?_)
            have loop81 : ∀ (fuel : Nat) (q9 : Nat → Nat → Int) (i : Nat), (i ≤ bM st v) → (Fr [0] st q9) → (q9 0 0 = st 0 0) → (q9 0 11 = st 0 11) → ((q9 0 29 = 3 ∧ (bM st v = 4 ∨ ∃ j, j < i ∧ bSD st v j = d)) ∨ (q9 0 29 = 0 ∧ bM st v ≠ 4 ∧ ∀ j, j < i → bSD st v j ≠ d)) → bM st v - i < fuel → ∀ (H : Heap) (locs : List Loc) (ls : Array Slot), GW D vwCl 26 (celM cg) ad (wA 26 ad) s.heap q9 H locs → lv_has ls 6 [(0, .ref (ad 0)), (1, .int (iI ((v : Nat) : Int))), (2, .int (iI d)), (3, .int (iI f)), (4, .int (iI ((4 * v + bM st v : Nat) : Int))), (5, .int (iI ((4 * v + i : Nat) : Int)))] → W p l e (headSpec wsX6_split ({ frames := 2, cells := 0, slots := 0, locals := 80 })).room s m args below meth c H locs 0 0 (MQ below (va_Qi (fun (r : Int32) (u : Nat → Nat → Int) => ∃ z : Int, r = iI z ∧ (fun z st1 => (st1 0 29 = 3 ∧ MW st st1 ∧ (bM st v = 4 ∨ ∃ j, j < bM st v ∧ bSD st v j = d)) ∨ (MW (splM st v d f) st1 ∧ st1 0 29 = 0 ∧ z = (bM st v : Int) + 1 ∧ bM st v < 4 ∧ ∀ j, j < bM st v → bSD st v j ≠ d)) z u) (mB D vwCl 26 (celM cg) ad) (wA 26 ad)) args s 0 0 (wA 26 ad)) (F0 m 81 ls []) := by
              intro fuel
              induction fuel with
              | zero => intro q9 i hi hf hq0 hq11 hT hmu; omega
              | succ fuel ih81 =>
                intro q9 i hi hf hq0 hq11 hT hmu H locs ls hW hl
                refine lv_iload hx hb dX6_split_81 (lv_at hl 5 rfl) ?_
                refine lv_iload hx hb dX6_split_83 (lv_at hl 4 rfl) ?_
                refine mk_icmp_ge (tgt := 117) hx hb dX6_split_85 (by decide) (by omega) (by omega) (fun c_85 => ?_) (fun c_85 => ?_)
                · skip
                  have hqM : MW st q9 := MW.of hf (by decide) hq0 hq11
                  have ei : i = bM st v := by omega
                  rw [ei] at hT
                  have hTr : q9 0 29 = 0 ∨ q9 0 29 = 3 := by rcases hT with h | h <;> omega
                  refine lv_aload_n hx hb dX6_split_117 rfl (lv_at hl 0 rfl) ?_
                  refine mk_get (ci := 6) (C := RX6) (T := TX6) (N := 30) hx hb hts inX6 hown hK hW 0 (by decide) rfl rfl 29 (by decide) fl91 (fun _ h9 => h9) rfl dX6_split_118 ?_
                  refine mk_if_le (tgt := 126) hx hb dX6_split_121 (by decide) (by omega) (fun c_121 => ?_) (fun c_121 => ?_)
                  · skip
                    refine lv_aload_n hx hb dX6_split_126 rfl (lv_at hl 0 rfl) ?_
                    refine mk_get (ci := 6) (C := RX6) (T := TX6) (N := 30) hx hb hts inX6 hown hK hW 0 (by decide) rfl rfl 8 (by decide) fl32 (fun _ h9 => h9) rfl dX6_split_127 ?_
                    refine lv_iload hx hb dX6_split_130 (lv_at hl 4 rfl) ?_
                    refine lv_iload_n hx hb dX6_split_132 rfl (lv_at hl 2 rfl) ?_
                    refine mk_iast hx hb hK hW 8 (by decide) (fun _ => rfl) 0 rfl (j := (4 * v + bM st v)) rfl (by omega) (by decide) dX6_split_133 (fun H locs hW => ?_)
                    obtain ⟨st12, est12⟩ : ∃ z, z = stC q9 8 (fnU (q9 8) (4 * v + bM st v) d) := ⟨_, rfl⟩
                    rw [← est12] at hW
                    refine lv_aload_n hx hb dX6_split_134 rfl (lv_at hl 0 rfl) ?_
                    refine mk_get (ci := 6) (C := RX6) (T := TX6) (N := 30) hx hb hts inX6 hown hK hW 0 (by decide) rfl rfl 9 (by decide) fl35 (fun _ h9 => h9) rfl dX6_split_135 ?_
                    refine lv_iload hx hb dX6_split_138 (lv_at hl 4 rfl) ?_
                    refine lv_iload_n hx hb dX6_split_140 rfl (lv_at hl 3 rfl) ?_
                    refine mk_iast hx hb hK hW 9 (by decide) (fun _ => rfl) 0 rfl (j := (4 * v + bM st v)) rfl (by omega) (by decide) dX6_split_141 (fun H locs hW => ?_)
                    obtain ⟨st13, est13⟩ : ∃ z, z = stC st12 9 (fnU (st12 9) (4 * v + bM st v) f) := ⟨_, rfl⟩
                    rw [← est13] at hW
                    refine lv_aload_n hx hb dX6_split_142 rfl (lv_at hl 0 rfl) ?_
                    refine mk_get (ci := 6) (C := RX6) (T := TX6) (N := 30) hx hb hts inX6 hown hK hW 0 (by decide) rfl rfl 7 (by decide) fl29 (fun _ h9 => h9) rfl dX6_split_143 ?_
                    refine lv_iload_n hx hb dX6_split_146 rfl (lv_at hl 1 rfl) ?_
                    refine lv_dup2_11 hx hb dX6_split_147 rfl rfl ?_
                    refine mk_iald hx hb hK hW 7 (by decide) rfl 0 rfl (j := v) rfl (by omega) (by decide) dX6_split_148 ?_
                    refine mk_sayi (y := (st 7 v)) (by rw [show st13 7 = st12 7 from by rw [est13]; exact stC_ne (by decide), show st12 7 = q9 7 from by rw [est12]; exact stC_ne (by decide), hf 7 (by decide)]) ?_
                    refine mk_sayi (y := (((bM st v) : Nat) : Int)) (hB.2.2.1 v hv).1 ?_
                    refine mk_iconst hx hb (1) dX6_split_149 ?_
                    refine mk_iadd hx hb dX6_split_150 ?_
                    refine mk_iast hx hb hK hW 7 (by decide) (fun _ => rfl) 0 rfl (j := v) rfl (by omega) (by decide) dX6_split_151 (fun H locs hW => ?_)
                    obtain ⟨st14, est14⟩ : ∃ z, z = stC st13 7 (fnU (st13 7) v ((((bM st v) : Nat) : Int) + 1)) := ⟨_, rfl⟩
                    rw [← est14] at hW
                    refine lv_aload_n hx hb dX6_split_152 rfl (lv_at hl 0 rfl) ?_
                    refine mk_get (ci := 6) (C := RX6) (T := TX6) (N := 30) hx hb hts inX6 hown hK hW 0 (by decide) rfl rfl 7 (by decide) fl29 (fun _ h9 => h9) rfl dX6_split_153 ?_
                    refine lv_iload_n hx hb dX6_split_156 rfl (lv_at hl 1 rfl) ?_
                    refine mk_iald hx hb hK hW 7 (by decide) rfl 0 rfl (j := v) rfl (by omega) (by decide) dX6_split_157 ?_
                    refine mk_sayi (y := ((bM st v : Int) + 1)) (by rw [est14]; exact fnU_eq _ _ _) ?_
                    exact mk_retI hx hb hr hlocks hW (Or.inr (by
                      have h3 : q9 0 29 = 0 ∧ bM st v ≠ 4 ∧ ∀ j, j < bM st v → bSD st v j ≠ d := by rcases hT with h | h; omega; exact h
                      refine ⟨?_, by rw [est14, est13, est12]; exact h3.1, rfl, by omega, h3.2.2⟩
                      rw [est14, est13, est12]
                      refine ⟨fun k h1 h2 => ?_, hq0, hq11⟩
                      have z7 := hqM.1 7 (by omega) (by omega)
                      have z8 := hqM.1 8 (by omega) (by omega)
                      have z9 := hqM.1 9 (by omega) (by omega)
                      rcases (show k = 7 ∨ k = 8 ∨ k = 9 ∨ (k ≠ 7 ∧ k ≠ 8 ∧ k ≠ 9) by omega) with h | h | h | ⟨n7, n8, n9⟩
                      · rw [h]; show fnU (q9 7) v _ = fnU (st 7) v _; rw [z7]
                      · rw [h]; show fnU (q9 8) _ _ = fnU (st 8) _ _; rw [z8]
                      · rw [h]; show fnU (q9 9) _ _ = fnU (st 9) _ _; rw [z9]
                      · unfold splM
                        rw [stC_ne n7, stC_ne n9, stC_ne n8, stC_ne n7, stC_ne n9, stC_ne n8]
                        exact hqM.1 k h1 h2)) dX6_split_158
                  · skip
                    refine mk_iconst hx hb (0) dX6_split_124 ?_
                    exact mk_retI hx hb hr hlocks hW (Or.inl ⟨by omega, hqM, by rcases hT with h | h; exact h.2; omega⟩) dX6_split_125
                · skip
                  have hTr : q9 0 29 = 0 ∨ q9 0 29 = 3 := by rcases hT with h | h <;> omega
                  refine lv_aload_n hx hb dX6_split_88 rfl (lv_at hl 0 rfl) ?_
                  refine lv_aload_n hx hb dX6_split_89 rfl (lv_at hl 0 rfl) ?_
                  refine mk_get (ci := 6) (C := RX6) (T := TX6) (N := 30) hx hb hts inX6 hown hK hW 0 (by decide) rfl rfl 8 (by decide) fl32 (fun _ h9 => h9) rfl dX6_split_90 ?_
                  refine lv_iload hx hb dX6_split_93 (lv_at hl 5 rfl) ?_
                  refine mk_iald hx hb hK hW 8 (by decide) rfl 0 rfl (j := (4 * v + i)) rfl (by omega) (by decide) dX6_split_95 ?_
                  refine mk_sayi (y := (st 8 (4 * v + i))) (by rw [hf 8 (by decide)]) ?_
                  have hS9 := (hB.2.2.1 v hv).2.2 i (by omega)
                  have hS8 : bSD st v i = st 8 (4 * v + i) := rfl
                  refine lv_iload_n hx hb dX6_split_96 rfl (lv_at hl 2 rfl) ?_
                  refine mk_icmp_ne (tgt := 104) hx hb dX6_split_97 (by decide) (by omega) (by omega) (fun c_97 => ?_) (fun c_97 => ?_)
                  · skip
                    refine lv_aload_n hx hb dX6_split_104 rfl (lv_at hl 0 rfl) ?_
                    refine mk_get (ci := 6) (C := RX6) (T := TX6) (N := 30) hx hb hts inX6 hown hK hW 0 (by decide) rfl rfl 29 (by decide) fl91 (fun _ h9 => h9) rfl dX6_split_105 ?_
                    refine mk_put (ci := 6) (C := RX6) (T := TX6) (N := 30) hx hb hts inX6 tyX6 tyX6_ok nmX6 hown hK hW 0 (by decide) rfl rfl 29 (by decide) fl91 (fun _ h9 => h9) rfl (by decide +kernel) (Nat.le_of_ble_eq_true rfl) rfl dX6_split_108 (fun H locs hW => ?_)
                    obtain ⟨st15, est15⟩ : ∃ z, z = stC q9 0 (fnU (q9 0) 29 (q9 0 29)) := ⟨_, rfl⟩
                    rw [← est15] at hW
                    have h29 : st15 0 29 = (q9 0 29) := by rw [est15]; rfl
                    have hg : Fr [0] st st15 := by rw [est15]; exact hf.st (by decide)
                    refine mk_iinc (w := ((4 * v + i + 1 : Nat) : Int)) (lv' := [(5, .int (iI ((4 * v + i + 1 : Nat) : Int))), (0, .ref (ad 0)), (1, .int (iI ((v : Nat) : Int))), (2, .int (iI d)), (3, .int (iI f)), (4, .int (iI ((4 * v + bM st v : Nat) : Int)))]) hx hb dX6_split_111 hl (k := 5) rfl (by omega) (by decide) rfl (fun ls hl => ?_)
                    refine lv_goto (tgt := 81) hx hb dX6_split_114 (by decide) ?_
                    exact ih81 st15 (i + 1) (by omega) hg (by rw [est15]; exact hq0) (by rw [est15]; exact hq11) (by
                      rcases hT with ⟨h1, h2⟩ | ⟨h1, h2, h3⟩
                      · exact Or.inl ⟨by omega, by rcases h2 with h2 | ⟨j, h3, h4⟩; exact Or.inl h2; exact Or.inr ⟨j, by omega, h4⟩⟩
                      · refine Or.inr ⟨by omega, h2, fun j hj => ?_⟩
                        rcases Nat.lt_or_ge j i with y | y
                        · exact h3 j y
                        · rw [show j = i by omega, hS8]; exact c_97) (by omega) _ _ _ hW (lv_sub hl [1, 2, 3, 4, 5, 0] rfl)
                  · skip
                    refine mk_iconst hx hb (3) dX6_split_100 ?_
                    refine lv_goto (tgt := 108) hx hb dX6_split_101 (by decide) ?_
                    refine mk_put (ci := 6) (C := RX6) (T := TX6) (N := 30) hx hb hts inX6 tyX6 tyX6_ok nmX6 hown hK hW 0 (by decide) rfl rfl 29 (by decide) fl91 (fun _ h9 => h9) rfl (by decide +kernel) (Nat.le_of_ble_eq_true rfl) rfl dX6_split_108 (fun H locs hW => ?_)
                    obtain ⟨st16, est16⟩ : ∃ z, z = stC q9 0 (fnU (q9 0) 29 3) := ⟨_, rfl⟩
                    rw [← est16] at hW
                    have h29 : st16 0 29 = 3 := by rw [est16]; rfl
                    have hg : Fr [0] st st16 := by rw [est16]; exact hf.st (by decide)
                    refine mk_iinc (w := ((4 * v + i + 1 : Nat) : Int)) (lv' := [(5, .int (iI ((4 * v + i + 1 : Nat) : Int))), (0, .ref (ad 0)), (1, .int (iI ((v : Nat) : Int))), (2, .int (iI d)), (3, .int (iI f)), (4, .int (iI ((4 * v + bM st v : Nat) : Int)))]) hx hb dX6_split_111 hl (k := 5) rfl (by omega) (by decide) rfl (fun ls hl => ?_)
                    refine lv_goto (tgt := 81) hx hb dX6_split_114 (by decide) ?_
                    exact ih81 st16 (i + 1) (by omega) hg (by rw [est16]; exact hq0) (by rw [est16]; exact hq11) (Or.inl ⟨by omega, Or.inr ⟨i, by omega, by omega⟩⟩) (by omega) _ _ _ hW (lv_sub hl [1, 2, 3, 4, 5, 0] rfl)
            exact loop81 _ st11 0 (Nat.zero_le _) (by rw [est11, est4]; exact (Fr.rf.st (by decide)).st (by decide)) (by rw [est11, est4]; rfl) (by rw [est11, est4]; rfl) (Or.inl ⟨h29, Or.inl (by omega)⟩) (Nat.lt_succ_self _) _ _ _ hW (lv_sub hl [2, 3, 4, 5, 1, 0] rfl)
        · skip
          omega
    · skip
      omega

set_option maxHeartbeats 4000000 in
set_option maxRecDepth 100000 in
theorem c_X6_cancel_no (l : Launch) (cg : Nat → ClassId) (D : va_G) (ad : Nat → Nat) (st : Nat → Nat → Int) (a : Int) (hB : BV st) (ha : -2147483648 ≤ a ∧ a < 2147483648) (hno : ¬ (0 ≤ a ∧ a < bN st)) : MV l yX6_cancel wsX6_cancel ({ frames := 1, cells := 0, slots := 0, locals := 50 }) D vwCl (TY cg) 26 (celM cg) ad st [.ref (ad 0), .int (iI a)] (fun st1 => MW st st1 ∧ st1 0 29 = 1) := by
  refine mk_open (cc := cX6_cancel) (maxL := 2) (ret := none) (by decide) rfl (Nat.le_of_ble_eq_true rfl) ?_
  intro p e s m args below meth c hx hb hml hr hown hts hlocks hK hN hargs ls hl hW
  have hown : s.vm.findClass RX6 = some m.cls := hown
  have hl : lv_has ls 2 [(0, .ref (ad 0)), (1, .int (iI a))] := hl
  have inX6 : ∀ w ∈ wsX60, w ∈ wsX6_cancel := by decide +kernel
  have fl98 := hts (.fieldLink RX6 98 "GainsReckonerModel" "trades" "I") (by decide +kernel)
  have fl91 := hts (.fieldLink RX6 91 "GainsReckonerModel" "thrown" "I") (by decide +kernel)
  have hn6 := hB.n60
  refine lv_aload_n hx hb dX6_cancel_0 rfl (lv_at hl 0 rfl) ?_
  refine lv_iload_n hx hb dX6_cancel_1 rfl (lv_at hl 1 rfl) ?_
  refine mk_iconst hx hb (0) dX6_cancel_2 ?_
  refine lv_aload_n hx hb dX6_cancel_3 rfl (lv_at hl 0 rfl) ?_
  refine mk_get (ci := 6) (C := RX6) (T := TX6) (N := 30) hx hb hts inX6 hown hK hW 0 (by decide) rfl rfl 0 (by decide) fl98 (fun _ h9 => h9) rfl dX6_cancel_4 ?_
  refine mk_sayi (y := (((bN st) : Nat) : Int)) hB.1 ?_
  refine mk_iconst hx hb (1) dX6_cancel_7 ?_
  refine mk_isub hx hb dX6_cancel_8 ?_
  refine mk_goI (va_runS (As := [.int (iI a), .int (iI 0), .int (iI ((((bN st) : Nat) : Int) - 1))]) (rest := [.ref (ad 0)]) ⟨hx, hb, hml, hown, hts⟩ (c_X6_isIn l cg D ad st a 0 ((bN st : Int) - 1) (by omega) (by omega) (by omega)) (cwS 3 hts gX6_cancel_X6_isIn rfl rfl rfl (by decide +kernel) ⟨Nat.le_of_ble_eq_true rfl, Nat.le_of_ble_eq_true rfl⟩) (mk_preS hK hN hW) rfl rfl hl.1 rfl (lv_room (Nat.le_of_ble_eq_true rfl)) dX6_cancel_9 ⟨Nat.zero_le _, Nat.zero_le _⟩) hW (fun z1 st1 hp9 H locs hW => ?_)
  obtain ⟨est1, hz1⟩ := hp9
  rw [est1] at hW
  refine mk_if_ne (tgt := 19) hx hb dX6_cancel_12 (by decide) (by omega) (fun c_12 => ?_) (fun c_12 => ?_)
  · skip
    omega
  · skip
    refine mk_iconst hx hb (1) dX6_cancel_15 ?_
    refine lv_goto (tgt := 33) hx hb dX6_cancel_16 (by decide) ?_
    refine mk_put (ci := 6) (C := RX6) (T := TX6) (N := 30) hx hb hts inX6 tyX6 tyX6_ok nmX6 hown hK hW 0 (by decide) rfl rfl 29 (by decide) fl91 (fun _ h9 => h9) rfl (by decide +kernel) (Nat.le_of_ble_eq_true rfl) rfl dX6_cancel_33 (fun H locs hW => ?_)
    obtain ⟨st2, est2⟩ : ∃ z, z = stC st 0 (fnU (st 0) 29 1) := ⟨_, rfl⟩
    rw [← est2] at hW
    have hM1 : MW st st2 := by rw [est2]; exact MW.thr st _
    have hB1 : BV st2 := hB.mw hM1
    have h29 : st2 0 29 = 1 := by rw [est2]; rfl
    refine lv_aload_n hx hb dX6_cancel_36 rfl (lv_at hl 0 rfl) ?_
    refine mk_get (ci := 6) (C := RX6) (T := TX6) (N := 30) hx hb hts inX6 hown hK hW 0 (by decide) rfl rfl 29 (by decide) fl91 (fun _ h9 => h9) rfl dX6_cancel_37 ?_
    refine mk_sayi (y := 1) h29 ?_
    refine mk_if_le (tgt := 44) hx hb dX6_cancel_40 (by decide) (by omega) (fun c_40 => ?_) (fun c_40 => ?_)
    · skip
      omega
    · skip
      exact mk_retV hx hb hr hlocks hW ⟨hM1, h29⟩ dX6_cancel_43

set_option maxHeartbeats 4000000 in
set_option maxRecDepth 100000 in
theorem c_X6_cancel (l : Launch) (cg : Nat → ClassId) (D : va_G) (ad : Nat → Nat) (st : Nat → Nat → Int) (t v : Nat) (hB : BV st) (ht : t < bN st) (hv : v < 3) (ev : st 1 t = v) : MV l yX6_cancel wsX6_cancel ({ frames := 3, cells := 0, slots := 0, locals := 80 }) D vwCl (TY cg) 26 (celM cg) ad st [.ref (ad 0), .int (iI ((t : Nat) : Int))] (fun st1 => (st 6 t = 1 ∧ MW st st1 ∧ st1 0 29 = 2) ∨ (st 6 t = 0 ∧ ((MW (canM st t) st1 ∧ st1 0 29 = 0 ∧ ∀ k, k < bN st → st 1 k = (v : Int) → 0 ≤ bH (canM st t) v (st 2 k)) ∨ (BEq st st1 ∧ st1 0 29 = 2 ∧ ∃ k, k < bN st ∧ st 1 k = (v : Int) ∧ bH (canM st t) v (st 2 k) < 0)))) := by
  refine mk_open (cc := cX6_cancel) (maxL := 2) (ret := none) (by decide) rfl (Nat.le_of_ble_eq_true rfl) ?_
  intro p e s m args below meth c hx hb hml hr hown hts hlocks hK hN hargs ls hl hW
  have hown : s.vm.findClass RX6 = some m.cls := hown
  have hl : lv_has ls 2 [(0, .ref (ad 0)), (1, .int (iI ((t : Nat) : Int)))] := hl
  have inX6 : ∀ w ∈ wsX60, w ∈ wsX6_cancel := by decide +kernel
  have fl98 := hts (.fieldLink RX6 98 "GainsReckonerModel" "trades" "I") (by decide +kernel)
  have fl26 := hts (.fieldLink RX6 26 "GainsReckonerModel" "gone" "[Z") (by decide +kernel)
  have fl91 := hts (.fieldLink RX6 91 "GainsReckonerModel" "thrown" "I") (by decide +kernel)
  have fl7 := hts (.fieldLink RX6 7 "GainsReckonerModel" "share" "[I") (by decide +kernel)
  have hn6 := hB.n60
  refine lv_aload_n hx hb dX6_cancel_0 rfl (lv_at hl 0 rfl) ?_
  refine lv_iload_n hx hb dX6_cancel_1 rfl (lv_at hl 1 rfl) ?_
  refine mk_iconst hx hb (0) dX6_cancel_2 ?_
  refine lv_aload_n hx hb dX6_cancel_3 rfl (lv_at hl 0 rfl) ?_
  refine mk_get (ci := 6) (C := RX6) (T := TX6) (N := 30) hx hb hts inX6 hown hK hW 0 (by decide) rfl rfl 0 (by decide) fl98 (fun _ h9 => h9) rfl dX6_cancel_4 ?_
  refine mk_sayi (y := (((bN st) : Nat) : Int)) hB.1 ?_
  refine mk_iconst hx hb (1) dX6_cancel_7 ?_
  refine mk_isub hx hb dX6_cancel_8 ?_
  refine mk_goI (va_runS (As := [.int (iI ((t : Nat) : Int)), .int (iI 0), .int (iI ((((bN st) : Nat) : Int) - 1))]) (rest := [.ref (ad 0)]) ⟨hx, hb, hml, hown, hts⟩ (c_X6_isIn l cg D ad st (t : Int) 0 ((bN st : Int) - 1) (by omega) (by omega) (by omega)) (cwS 3 hts gX6_cancel_X6_isIn rfl rfl rfl (by decide +kernel) ⟨Nat.le_of_ble_eq_true rfl, Nat.le_of_ble_eq_true rfl⟩) (mk_preS hK hN hW) rfl rfl hl.1 rfl (lv_room (Nat.le_of_ble_eq_true rfl)) dX6_cancel_9 ⟨Nat.zero_le _, Nat.zero_le _⟩) hW (fun z1 st1 hp9 H locs hW => ?_)
  obtain ⟨est1, hz1⟩ := hp9
  rw [est1] at hW
  refine mk_if_ne (tgt := 19) hx hb dX6_cancel_12 (by decide) (by omega) (fun c_12 => ?_) (fun c_12 => ?_)
  · skip
    refine lv_aload_n hx hb dX6_cancel_19 rfl (lv_at hl 0 rfl) ?_
    refine mk_get (ci := 6) (C := RX6) (T := TX6) (N := 30) hx hb hts inX6 hown hK hW 0 (by decide) rfl rfl 6 (by decide) fl26 (fun _ h9 => h9) rfl dX6_cancel_20 ?_
    refine lv_iload_n hx hb dX6_cancel_23 rfl (lv_at hl 1 rfl) ?_
    refine mk_zald hx hb hK hW 6 (by decide) rfl 1 rfl (j := t) rfl (by omega) (by decide) dX6_cancel_24 ?_
    have hj := hB.2.1.2 t ht
    refine mk_if_eq (tgt := 32) hx hb dX6_cancel_25 (by decide) (by omega) (fun c_25 => ?_) (fun c_25 => ?_)
    · skip
      refine mk_iconst hx hb (0) dX6_cancel_32 ?_
      refine mk_put (ci := 6) (C := RX6) (T := TX6) (N := 30) hx hb hts inX6 tyX6 tyX6_ok nmX6 hown hK hW 0 (by decide) rfl rfl 29 (by decide) fl91 (fun _ h9 => h9) rfl (by decide +kernel) (Nat.le_of_ble_eq_true rfl) rfl dX6_cancel_33 (fun H locs hW => ?_)
      obtain ⟨st2, est2⟩ : ∃ z, z = stC st 0 (fnU (st 0) 29 0) := ⟨_, rfl⟩
      rw [← est2] at hW
      have h29 : st2 0 29 = 0 := by rw [est2]; rfl
      refine lv_aload_n hx hb dX6_cancel_36 rfl (lv_at hl 0 rfl) ?_
      refine mk_get (ci := 6) (C := RX6) (T := TX6) (N := 30) hx hb hts inX6 hown hK hW 0 (by decide) rfl rfl 29 (by decide) fl91 (fun _ h9 => h9) rfl dX6_cancel_37 ?_
      refine mk_sayi (y := 0) h29 ?_
      refine mk_if_le (tgt := 44) hx hb dX6_cancel_40 (by decide) (by omega) (fun c_40 => ?_) (fun c_40 => ?_)
      · skip
        refine lv_aload_n hx hb dX6_cancel_44 rfl (lv_at hl 0 rfl) ?_
        refine mk_get (ci := 6) (C := RX6) (T := TX6) (N := 30) hx hb hts inX6 hown hK hW 0 (by decide) rfl rfl 6 (by decide) fl26 (fun _ h9 => h9) rfl dX6_cancel_45 ?_
        refine lv_iload_n hx hb dX6_cancel_48 rfl (lv_at hl 1 rfl) ?_
        refine mk_iconst hx hb (1) dX6_cancel_49 ?_
        refine mk_zast hx hb hK hW 6 (by decide) (fun _ => rfl) 1 rfl (j := t) rfl (by omega) (by decide) (by omega) dX6_cancel_50 (fun H locs hW => ?_)
        obtain ⟨st3, est3⟩ : ∃ z, z = stC st2 6 (fnU (st2 6) t 1) := ⟨_, rfl⟩
        rw [← est3] at hW
        have hg0 : st 6 t = 0 := by omega
        have hq : MW (canM st t) st3 := by
          rw [est3, est2]
          refine ⟨fun k h1 h2 => ?_, rfl, rfl⟩
          by_cases h : k = 6
          · rw [h]; rfl
          · unfold canM; rw [stC_ne h, stC_ne h, stC_ne (by omega)]
        have hq29 : st3 0 29 = 0 := by rw [est3, est2]; rfl
        have hqB : BJ st3 := (canM_J hB.j).be hq.be
        refine lv_aload_n hx hb dX6_cancel_51 rfl (lv_at hl 0 rfl) ?_
        refine lv_aload_n hx hb dX6_cancel_52 rfl (lv_at hl 0 rfl) ?_
        refine mk_get (ci := 6) (C := RX6) (T := TX6) (N := 30) hx hb hts inX6 hown hK hW 0 (by decide) rfl rfl 1 (by decide) fl7 (fun _ h9 => h9) rfl dX6_cancel_53 ?_
        refine lv_iload_n hx hb dX6_cancel_56 rfl (lv_at hl 1 rfl) ?_
        refine mk_iald hx hb hK hW 1 (by decide) rfl 0 rfl (j := t) rfl (by omega) (by decide) dX6_cancel_57 ?_
        refine mk_sayi (y := (st 1 t)) (by rw [show st3 1 = st2 1 from by rw [est3]; exact stC_ne (by decide), show st2 1 = st 1 from by rw [est2]; exact stC_ne (by decide)]) ?_
        refine mk_sayi (y := ((v : Nat) : Int)) ev ?_
        refine mk_goI (va_runV (As := [.int (iI ((v : Nat) : Int))]) (rest := []) ⟨hx, hb, hml, hown, hts⟩ (c_X6_isBelow l cg D ad st3 v (bN st3) (bM st3 v) hv hqB.1 hqB.2.1 (hqB.2.2.1 v hv).1 (hqB.2.2.1 v hv).2) (cwV 1 hts gX6_cancel_X6_isBelow rfl rfl rfl (by decide +kernel) ⟨Nat.le_of_ble_eq_true rfl, Nat.le_of_ble_eq_true rfl⟩) (mk_preV hK hN hW 0 (by decide) rfl rfl rfl) rfl rfl hl.1 rfl (lv_room (Nat.le_of_ble_eq_true rfl)) dX6_cancel_58 ⟨Nat.zero_le _, Nat.zero_le _⟩) hW (fun z st4 hp58 H locs hW => ?_)
        obtain ⟨est4, hz⟩ := hp58
        rw [est4] at hW
        have hz : (z = 1 ∧ ∃ k, k < bN st3 ∧ st3 1 k = v ∧ bH st3 v (st3 2 k) < 0) ∨ (z = 0 ∧ ∀ k, k < bN st3 → st3 1 k = v → 0 ≤ bH st3 v (st3 2 k)) := hz
        simp only [hq.N, show bN (canM st t) = bN st from rfl, hq.1 1 (Nat.le_refl 1) (by omega), hq.1 2 (by omega) (by omega), show (canM st t) 1 = st 1 from rfl, show (canM st t) 2 = st 2 from rfl, hq.H] at hz
        refine mk_if_eq (tgt := 76) hx hb dX6_cancel_61 (by decide) (by omega) (fun c_61 => ?_) (fun c_61 => ?_)
        · skip
          exact mk_retV hx hb hr hlocks hW (Or.inr ⟨hg0, Or.inl ⟨hq, hq29, by rcases hz with h | h; omega; exact h.2⟩⟩) dX6_cancel_76
        · skip
          refine lv_aload_n hx hb dX6_cancel_64 rfl (lv_at hl 0 rfl) ?_
          refine mk_get (ci := 6) (C := RX6) (T := TX6) (N := 30) hx hb hts inX6 hown hK hW 0 (by decide) rfl rfl 6 (by decide) fl26 (fun _ h9 => h9) rfl dX6_cancel_65 ?_
          refine lv_iload_n hx hb dX6_cancel_68 rfl (lv_at hl 1 rfl) ?_
          refine mk_iconst hx hb (0) dX6_cancel_69 ?_
          refine mk_zast hx hb hK hW 6 (by decide) (fun _ => rfl) 1 rfl (j := t) rfl (by omega) (by decide) (by omega) dX6_cancel_70 (fun H locs hW => ?_)
          obtain ⟨st5, est5⟩ : ∃ z, z = stC st3 6 (fnU (st3 6) t 0) := ⟨_, rfl⟩
          rw [← est5] at hW
          refine lv_aload_n hx hb dX6_cancel_71 rfl (lv_at hl 0 rfl) ?_
          refine mk_iconst hx hb (2) dX6_cancel_72 ?_
          refine mk_put (ci := 6) (C := RX6) (T := TX6) (N := 30) hx hb hts inX6 tyX6 tyX6_ok nmX6 hown hK hW 0 (by decide) rfl rfl 29 (by decide) fl91 (fun _ h9 => h9) rfl (by decide +kernel) (Nat.le_of_ble_eq_true rfl) rfl dX6_cancel_73 (fun H locs hW => ?_)
          obtain ⟨st6, est6⟩ : ∃ z, z = stC st5 0 (fnU (st5 0) 29 2) := ⟨_, rfl⟩
          rw [← est6] at hW
          have h29 : st6 0 29 = 2 := by rw [est6]; rfl
          exact mk_retV hx hb hr hlocks hW (Or.inr ⟨hg0, Or.inr ⟨canM_undo (q := st3) hg0 hq (fun k h1 h2 h3 => by rw [est6, est5]; rw [stC_ne (by omega), stC_ne (by omega)]) (by rw [est6, est5]; rfl) (by rw [est6, est5]; rfl) (by rw [est6, est5]; rfl), h29, by rcases hz with h | h; exact h.2; omega⟩⟩) dX6_cancel_76
      · skip
        omega
    · skip
      refine mk_iconst hx hb (2) dX6_cancel_28 ?_
      refine lv_goto (tgt := 33) hx hb dX6_cancel_29 (by decide) ?_
      refine mk_put (ci := 6) (C := RX6) (T := TX6) (N := 30) hx hb hts inX6 tyX6 tyX6_ok nmX6 hown hK hW 0 (by decide) rfl rfl 29 (by decide) fl91 (fun _ h9 => h9) rfl (by decide +kernel) (Nat.le_of_ble_eq_true rfl) rfl dX6_cancel_33 (fun H locs hW => ?_)
      obtain ⟨st7, est7⟩ : ∃ z, z = stC st 0 (fnU (st 0) 29 2) := ⟨_, rfl⟩
      rw [← est7] at hW
      have h29 : st7 0 29 = 2 := by rw [est7]; rfl
      refine lv_aload_n hx hb dX6_cancel_36 rfl (lv_at hl 0 rfl) ?_
      refine mk_get (ci := 6) (C := RX6) (T := TX6) (N := 30) hx hb hts inX6 hown hK hW 0 (by decide) rfl rfl 29 (by decide) fl91 (fun _ h9 => h9) rfl dX6_cancel_37 ?_
      refine mk_sayi (y := 2) h29 ?_
      refine mk_if_le (tgt := 44) hx hb dX6_cancel_40 (by decide) (by omega) (fun c_40 => ?_) (fun c_40 => ?_)
      · skip
        omega
      · skip
        exact mk_retV hx hb hr hlocks hW (Or.inl ⟨by omega, by rw [est7]; exact MW.thr _ _, h29⟩) dX6_cancel_43
  · skip
    omega

set_option maxHeartbeats 4000000 in
set_option maxRecDepth 100000 in
theorem c_X6_setAllowance_no (l : Launch) (cg : Nat → ClassId) (D : va_G) (ad : Nat → Nat) (st : Nat → Nat → Int) (y x : Int) (hB : BV st) (hy : -2147483648 ≤ y ∧ y < 2147483648) (hx9 : -2147483648 ≤ x ∧ x < 2147483648) (hno : ¬ ((0 ≤ y ∧ y ≤ 4) ∧ 0 ≤ x ∧ x ≤ 1000000)) : MI l yX6_setAllowance wsX6_setAllowance ({ frames := 1, cells := 0, slots := 0, locals := 50 }) D vwCl (TY cg) 26 (celM cg) ad st [.ref (ad 0), .int (iI y), .int (iI x)] (fun z st1 => MW st st1 ∧ ((¬ (0 ≤ y ∧ y ≤ 4) ∧ st1 0 29 = 1) ∨ ((0 ≤ y ∧ y ≤ 4) ∧ st1 0 29 = 2))) := by
  refine mk_open (cc := cX6_setAllowance) (maxL := 4) (ret := (some .int)) (by decide) rfl (Nat.le_of_ble_eq_true rfl) ?_
  intro p e s m args below meth c hx hb hml hr hown hts hlocks hK hN hargs ls hl hW
  have hown : s.vm.findClass RX6 = some m.cls := hown
  have hl : lv_has ls 4 [(0, .ref (ad 0)), (1, .int (iI y)), (2, .int (iI x))] := hl
  have inX6 : ∀ w ∈ wsX60, w ∈ wsX6_setAllowance := by decide +kernel
  have kc116 := hts (.constant RX6 116 (1000000)) (by decide +kernel)
  have fl91 := hts (.fieldLink RX6 91 "GainsReckonerModel" "thrown" "I") (by decide +kernel)
  refine lv_aload_n hx hb dX6_setAllowance_0 rfl (lv_at hl 0 rfl) ?_
  refine lv_iload_n hx hb dX6_setAllowance_1 rfl (lv_at hl 1 rfl) ?_
  refine mk_iconst hx hb (0) dX6_setAllowance_2 ?_
  refine mk_iconst hx hb (4) dX6_setAllowance_3 ?_
  refine mk_goI (va_runS (As := [.int (iI y), .int (iI 0), .int (iI 4)]) (rest := [.ref (ad 0)]) ⟨hx, hb, hml, hown, hts⟩ (c_X6_isIn l cg D ad st y 0 4 (by omega) (by omega) (by omega)) (cwS 3 hts gX6_setAllowance_X6_isIn rfl rfl rfl (by decide +kernel) ⟨Nat.le_of_ble_eq_true rfl, Nat.le_of_ble_eq_true rfl⟩) (mk_preS hK hN hW) rfl rfl hl.1 rfl (lv_room (Nat.le_of_ble_eq_true rfl)) dX6_setAllowance_4 ⟨Nat.zero_le _, Nat.zero_le _⟩) hW (fun z1 st1 hp4 H locs hW => ?_)
  obtain ⟨est1, hz1⟩ := hp4
  rw [est1] at hW
  refine mk_if_ne (tgt := 14) hx hb dX6_setAllowance_7 (by decide) (by omega) (fun c_7 => ?_) (fun c_7 => ?_)
  · skip
    refine lv_iload_n hx hb dX6_setAllowance_14 rfl (lv_at hl 2 rfl) ?_
    refine mk_iconst hx hb (0) dX6_setAllowance_15 ?_
    refine mk_ldc hx hb (1000000) hown kc116 dX6_setAllowance_16 ?_
    refine mk_goI (va_runS (As := [.int (iI x), .int (iI 0), .int (iI 1000000)]) (rest := [.ref (ad 0)]) ⟨hx, hb, hml, hown, hts⟩ (c_X6_isIn l cg D ad st x 0 1000000 (by omega) (by omega) (by omega)) (cwS 3 hts gX6_setAllowance_X6_isIn rfl rfl rfl (by decide +kernel) ⟨Nat.le_of_ble_eq_true rfl, Nat.le_of_ble_eq_true rfl⟩) (mk_preS hK hN hW) rfl rfl hl.1 rfl (lv_room (Nat.le_of_ble_eq_true rfl)) dX6_setAllowance_18 ⟨Nat.zero_le _, Nat.zero_le _⟩) hW (fun z2 st2 hp18 H locs hW => ?_)
    obtain ⟨est2, hz2⟩ := hp18
    rw [est2] at hW
    refine mk_if_eq (tgt := 28) hx hb dX6_setAllowance_21 (by decide) (by omega) (fun c_21 => ?_) (fun c_21 => ?_)
    · skip
      refine mk_iconst hx hb (2) dX6_setAllowance_28 ?_
      refine mk_put (ci := 6) (C := RX6) (T := TX6) (N := 30) hx hb hts inX6 tyX6 tyX6_ok nmX6 hown hK hW 0 (by decide) rfl rfl 29 (by decide) fl91 (fun _ h9 => h9) rfl (by decide +kernel) (Nat.le_of_ble_eq_true rfl) rfl dX6_setAllowance_29 (fun H locs hW => ?_)
      obtain ⟨st3, est3⟩ : ∃ z, z = stC st 0 (fnU (st 0) 29 2) := ⟨_, rfl⟩
      rw [← est3] at hW
      have hM1 : MW st st3 := by rw [est3]; exact MW.thr st _
      have hB1 : BV st3 := hB.mw hM1
      have h29 : st3 0 29 = 2 := by rw [est3]; rfl
      refine lv_aload_n hx hb dX6_setAllowance_32 rfl (lv_at hl 0 rfl) ?_
      refine mk_get (ci := 6) (C := RX6) (T := TX6) (N := 30) hx hb hts inX6 hown hK hW 0 (by decide) rfl rfl 29 (by decide) fl91 (fun _ h9 => h9) rfl dX6_setAllowance_33 ?_
      refine mk_sayi (y := 2) h29 ?_
      refine mk_if_le (tgt := 41) hx hb dX6_setAllowance_36 (by decide) (by omega) (fun c_36 => ?_) (fun c_36 => ?_)
      · skip
        omega
      · skip
        refine mk_iconst hx hb (0) dX6_setAllowance_39 ?_
        exact mk_retI hx hb hr hlocks hW ⟨hM1, by omega⟩ dX6_setAllowance_40
    · skip
      refine mk_iconst hx hb (0) dX6_setAllowance_24 ?_
      refine lv_goto (tgt := 29) hx hb dX6_setAllowance_25 (by decide) ?_
      refine mk_put (ci := 6) (C := RX6) (T := TX6) (N := 30) hx hb hts inX6 tyX6 tyX6_ok nmX6 hown hK hW 0 (by decide) rfl rfl 29 (by decide) fl91 (fun _ h9 => h9) rfl (by decide +kernel) (Nat.le_of_ble_eq_true rfl) rfl dX6_setAllowance_29 (fun H locs hW => ?_)
      obtain ⟨st4, est4⟩ : ∃ z, z = stC st 0 (fnU (st 0) 29 0) := ⟨_, rfl⟩
      rw [← est4] at hW
      have hM1 : MW st st4 := by rw [est4]; exact MW.thr st _
      have hB1 : BV st4 := hB.mw hM1
      have h29 : st4 0 29 = 0 := by rw [est4]; rfl
      refine lv_aload_n hx hb dX6_setAllowance_32 rfl (lv_at hl 0 rfl) ?_
      refine mk_get (ci := 6) (C := RX6) (T := TX6) (N := 30) hx hb hts inX6 hown hK hW 0 (by decide) rfl rfl 29 (by decide) fl91 (fun _ h9 => h9) rfl dX6_setAllowance_33 ?_
      refine mk_sayi (y := 0) h29 ?_
      refine mk_if_le (tgt := 41) hx hb dX6_setAllowance_36 (by decide) (by omega) (fun c_36 => ?_) (fun c_36 => ?_)
      · skip
        omega
      · skip
        refine mk_iconst hx hb (0) dX6_setAllowance_39 ?_
        exact mk_retI hx hb hr hlocks hW ⟨hM1, by omega⟩ dX6_setAllowance_40
  · skip
    refine mk_iconst hx hb (1) dX6_setAllowance_10 ?_
    refine lv_goto (tgt := 29) hx hb dX6_setAllowance_11 (by decide) ?_
    refine mk_put (ci := 6) (C := RX6) (T := TX6) (N := 30) hx hb hts inX6 tyX6 tyX6_ok nmX6 hown hK hW 0 (by decide) rfl rfl 29 (by decide) fl91 (fun _ h9 => h9) rfl (by decide +kernel) (Nat.le_of_ble_eq_true rfl) rfl dX6_setAllowance_29 (fun H locs hW => ?_)
    obtain ⟨st5, est5⟩ : ∃ z, z = stC st 0 (fnU (st 0) 29 1) := ⟨_, rfl⟩
    rw [← est5] at hW
    have hM1 : MW st st5 := by rw [est5]; exact MW.thr st _
    have hB1 : BV st5 := hB.mw hM1
    have h29 : st5 0 29 = 1 := by rw [est5]; rfl
    refine lv_aload_n hx hb dX6_setAllowance_32 rfl (lv_at hl 0 rfl) ?_
    refine mk_get (ci := 6) (C := RX6) (T := TX6) (N := 30) hx hb hts inX6 hown hK hW 0 (by decide) rfl rfl 29 (by decide) fl91 (fun _ h9 => h9) rfl dX6_setAllowance_33 ?_
    refine mk_sayi (y := 1) h29 ?_
    refine mk_if_le (tgt := 41) hx hb dX6_setAllowance_36 (by decide) (by omega) (fun c_36 => ?_) (fun c_36 => ?_)
    · skip
      omega
    · skip
      refine mk_iconst hx hb (0) dX6_setAllowance_39 ?_
      exact mk_retI hx hb hr hlocks hW ⟨hM1, by omega⟩ dX6_setAllowance_40

set_option maxHeartbeats 4000000 in
set_option maxRecDepth 100000 in
theorem c_X6_setAllowance (l : Launch) (cg : Nat → ClassId) (D : va_G) (ad : Nat → Nat) (st : Nat → Nat → Int) (y : Nat) (x : Int) (hB : BV st) (hy : y < 5) (hx9 : 0 ≤ x ∧ x ≤ 1000000) : MI l yX6_setAllowance wsX6_setAllowance ({ frames := 1, cells := 0, slots := 0, locals := 50 }) D vwCl (TY cg) 26 (celM cg) ad st [.ref (ad 0), .int (iI ((y : Nat) : Int)), .int (iI x)] (fun z st1 => MW (alwM st y x) st1 ∧ st1 0 29 = 0 ∧ z = st 10 y) := by
  refine mk_open (cc := cX6_setAllowance) (maxL := 4) (ret := (some .int)) (by decide) rfl (Nat.le_of_ble_eq_true rfl) ?_
  intro p e s m args below meth c hx hb hml hr hown hts hlocks hK hN hargs ls hl hW
  have hown : s.vm.findClass RX6 = some m.cls := hown
  have hl : lv_has ls 4 [(0, .ref (ad 0)), (1, .int (iI ((y : Nat) : Int))), (2, .int (iI x))] := hl
  have inX6 : ∀ w ∈ wsX60, w ∈ wsX6_setAllowance := by decide +kernel
  have kc116 := hts (.constant RX6 116 (1000000)) (by decide +kernel)
  have fl91 := hts (.fieldLink RX6 91 "GainsReckonerModel" "thrown" "I") (by decide +kernel)
  have fl38 := hts (.fieldLink RX6 38 "GainsReckonerModel" "allowance" "[I") (by decide +kernel)
  refine lv_aload_n hx hb dX6_setAllowance_0 rfl (lv_at hl 0 rfl) ?_
  refine lv_iload_n hx hb dX6_setAllowance_1 rfl (lv_at hl 1 rfl) ?_
  refine mk_iconst hx hb (0) dX6_setAllowance_2 ?_
  refine mk_iconst hx hb (4) dX6_setAllowance_3 ?_
  refine mk_goI (va_runS (As := [.int (iI ((y : Nat) : Int)), .int (iI 0), .int (iI 4)]) (rest := [.ref (ad 0)]) ⟨hx, hb, hml, hown, hts⟩ (c_X6_isIn l cg D ad st (y : Int) 0 4 (by omega) (by omega) (by omega)) (cwS 3 hts gX6_setAllowance_X6_isIn rfl rfl rfl (by decide +kernel) ⟨Nat.le_of_ble_eq_true rfl, Nat.le_of_ble_eq_true rfl⟩) (mk_preS hK hN hW) rfl rfl hl.1 rfl (lv_room (Nat.le_of_ble_eq_true rfl)) dX6_setAllowance_4 ⟨Nat.zero_le _, Nat.zero_le _⟩) hW (fun z1 st1 hp4 H locs hW => ?_)
  obtain ⟨est1, hz1⟩ := hp4
  rw [est1] at hW
  refine mk_if_ne (tgt := 14) hx hb dX6_setAllowance_7 (by decide) (by omega) (fun c_7 => ?_) (fun c_7 => ?_)
  · skip
    refine lv_iload_n hx hb dX6_setAllowance_14 rfl (lv_at hl 2 rfl) ?_
    refine mk_iconst hx hb (0) dX6_setAllowance_15 ?_
    refine mk_ldc hx hb (1000000) hown kc116 dX6_setAllowance_16 ?_
    refine mk_goI (va_runS (As := [.int (iI x), .int (iI 0), .int (iI 1000000)]) (rest := [.ref (ad 0)]) ⟨hx, hb, hml, hown, hts⟩ (c_X6_isIn l cg D ad st x 0 1000000 (by omega) (by omega) (by omega)) (cwS 3 hts gX6_setAllowance_X6_isIn rfl rfl rfl (by decide +kernel) ⟨Nat.le_of_ble_eq_true rfl, Nat.le_of_ble_eq_true rfl⟩) (mk_preS hK hN hW) rfl rfl hl.1 rfl (lv_room (Nat.le_of_ble_eq_true rfl)) dX6_setAllowance_18 ⟨Nat.zero_le _, Nat.zero_le _⟩) hW (fun z2 st2 hp18 H locs hW => ?_)
    obtain ⟨est2, hz2⟩ := hp18
    rw [est2] at hW
    refine mk_if_eq (tgt := 28) hx hb dX6_setAllowance_21 (by decide) (by omega) (fun c_21 => ?_) (fun c_21 => ?_)
    · skip
      omega
    · skip
      refine mk_iconst hx hb (0) dX6_setAllowance_24 ?_
      refine lv_goto (tgt := 29) hx hb dX6_setAllowance_25 (by decide) ?_
      refine mk_put (ci := 6) (C := RX6) (T := TX6) (N := 30) hx hb hts inX6 tyX6 tyX6_ok nmX6 hown hK hW 0 (by decide) rfl rfl 29 (by decide) fl91 (fun _ h9 => h9) rfl (by decide +kernel) (Nat.le_of_ble_eq_true rfl) rfl dX6_setAllowance_29 (fun H locs hW => ?_)
      obtain ⟨st3, est3⟩ : ∃ z, z = stC st 0 (fnU (st 0) 29 0) := ⟨_, rfl⟩
      rw [← est3] at hW
      have hM1 : MW st st3 := by rw [est3]; exact MW.thr st _
      have hB1 : BV st3 := hB.mw hM1
      have h29 : st3 0 29 = 0 := by rw [est3]; rfl
      refine lv_aload_n hx hb dX6_setAllowance_32 rfl (lv_at hl 0 rfl) ?_
      refine mk_get (ci := 6) (C := RX6) (T := TX6) (N := 30) hx hb hts inX6 hown hK hW 0 (by decide) rfl rfl 29 (by decide) fl91 (fun _ h9 => h9) rfl dX6_setAllowance_33 ?_
      refine mk_sayi (y := 0) h29 ?_
      refine mk_if_le (tgt := 41) hx hb dX6_setAllowance_36 (by decide) (by omega) (fun c_36 => ?_) (fun c_36 => ?_)
      · skip
        refine lv_aload_n hx hb dX6_setAllowance_41 rfl (lv_at hl 0 rfl) ?_
        refine mk_get (ci := 6) (C := RX6) (T := TX6) (N := 30) hx hb hts inX6 hown hK hW 0 (by decide) rfl rfl 10 (by decide) fl38 (fun _ h9 => h9) rfl dX6_setAllowance_42 ?_
        refine lv_iload_n hx hb dX6_setAllowance_45 rfl (lv_at hl 1 rfl) ?_
        refine mk_iald hx hb hK hW 10 (by decide) rfl 0 rfl (j := y) rfl (by omega) (by decide) dX6_setAllowance_46 ?_
        refine mk_sayi (y := (st 10 y)) (by rw [show st3 10 = st 10 from by rw [est3]; exact stC_ne (by decide)]) ?_
        refine lv_istore_n (lv' := [(3, .int (iI (st 10 y))), (0, .ref (ad 0)), (1, .int (iI ((y : Nat) : Int))), (2, .int (iI x))]) hx hb dX6_setAllowance_47 rfl hl (by decide) rfl (fun ls hl => ?_)
        refine lv_aload_n hx hb dX6_setAllowance_48 rfl (lv_at hl 1 rfl) ?_
        refine mk_get (ci := 6) (C := RX6) (T := TX6) (N := 30) hx hb hts inX6 hown hK hW 0 (by decide) rfl rfl 10 (by decide) fl38 (fun _ h9 => h9) rfl dX6_setAllowance_49 ?_
        refine lv_iload_n hx hb dX6_setAllowance_52 rfl (lv_at hl 2 rfl) ?_
        refine lv_iload_n hx hb dX6_setAllowance_53 rfl (lv_at hl 3 rfl) ?_
        refine mk_iast hx hb hK hW 10 (by decide) (fun _ => rfl) 0 rfl (j := y) rfl (by omega) (by decide) dX6_setAllowance_54 (fun H locs hW => ?_)
        obtain ⟨st4, est4⟩ : ∃ z, z = stC st3 10 (fnU (st3 10) y x) := ⟨_, rfl⟩
        rw [← est4] at hW
        refine lv_iload_n hx hb dX6_setAllowance_55 rfl (lv_at hl 0 rfl) ?_
        exact mk_retI hx hb hr hlocks hW ⟨by
          rw [est4, est3]
          refine ⟨fun k h1 h2 => ?_, rfl, rfl⟩
          by_cases h : k = 10
          · rw [h]; rfl
          · unfold alwM; rw [stC_ne h, stC_ne h, stC_ne (by omega)], by rw [est4, est3]; rfl, rfl⟩ dX6_setAllowance_56
      · skip
        omega
  · skip
    omega

set_option maxHeartbeats 4000000 in
set_option maxRecDepth 100000 in
theorem c_X6_setWindow_no (l : Launch) (cg : Nat → ClassId) (D : va_G) (ad : Nat → Nat) (st : Nat → Nat → Int) (x : Int) (hB : BV st) (hx9 : -2147483648 ≤ x ∧ x < 2147483648) (hno : ¬ (0 ≤ x ∧ x ≤ 60)) : MI l yX6_setWindow wsX6_setWindow ({ frames := 1, cells := 0, slots := 0, locals := 50 }) D vwCl (TY cg) 26 (celM cg) ad st [.ref (ad 0), .int (iI x)] (fun z st1 => MW st st1 ∧ st1 0 29 = 1) := by
  refine mk_open (cc := cX6_setWindow) (maxL := 3) (ret := (some .int)) (by decide) rfl (Nat.le_of_ble_eq_true rfl) ?_
  intro p e s m args below meth c hx hb hml hr hown hts hlocks hK hN hargs ls hl hW
  have hown : s.vm.findClass RX6 = some m.cls := hown
  have hl : lv_has ls 3 [(0, .ref (ad 0)), (1, .int (iI x))] := hl
  have inX6 : ∀ w ∈ wsX60, w ∈ wsX6_setWindow := by decide +kernel
  have fl91 := hts (.fieldLink RX6 91 "GainsReckonerModel" "thrown" "I") (by decide +kernel)
  refine lv_aload_n hx hb dX6_setWindow_0 rfl (lv_at hl 0 rfl) ?_
  refine lv_iload_n hx hb dX6_setWindow_1 rfl (lv_at hl 1 rfl) ?_
  refine mk_iconst hx hb (0) dX6_setWindow_2 ?_
  refine mk_bipush hx hb (60) (by decide +kernel) dX6_setWindow_3 ?_
  refine mk_goI (va_runS (As := [.int (iI x), .int (iI 0), .int (iI 60)]) (rest := [.ref (ad 0)]) ⟨hx, hb, hml, hown, hts⟩ (c_X6_isIn l cg D ad st x 0 60 (by omega) (by omega) (by omega)) (cwS 3 hts gX6_setWindow_X6_isIn rfl rfl rfl (by decide +kernel) ⟨Nat.le_of_ble_eq_true rfl, Nat.le_of_ble_eq_true rfl⟩) (mk_preS hK hN hW) rfl rfl hl.1 rfl (lv_room (Nat.le_of_ble_eq_true rfl)) dX6_setWindow_5 ⟨Nat.zero_le _, Nat.zero_le _⟩) hW (fun z1 st1 hp5 H locs hW => ?_)
  obtain ⟨est1, hz1⟩ := hp5
  rw [est1] at hW
  refine mk_if_eq (tgt := 15) hx hb dX6_setWindow_8 (by decide) (by omega) (fun c_8 => ?_) (fun c_8 => ?_)
  · skip
    refine mk_iconst hx hb (1) dX6_setWindow_15 ?_
    refine mk_put (ci := 6) (C := RX6) (T := TX6) (N := 30) hx hb hts inX6 tyX6 tyX6_ok nmX6 hown hK hW 0 (by decide) rfl rfl 29 (by decide) fl91 (fun _ h9 => h9) rfl (by decide +kernel) (Nat.le_of_ble_eq_true rfl) rfl dX6_setWindow_16 (fun H locs hW => ?_)
    obtain ⟨st2, est2⟩ : ∃ z, z = stC st 0 (fnU (st 0) 29 1) := ⟨_, rfl⟩
    rw [← est2] at hW
    have hM1 : MW st st2 := by rw [est2]; exact MW.thr st _
    have hB1 : BV st2 := hB.mw hM1
    have h29 : st2 0 29 = 1 := by rw [est2]; rfl
    refine lv_aload_n hx hb dX6_setWindow_19 rfl (lv_at hl 0 rfl) ?_
    refine mk_get (ci := 6) (C := RX6) (T := TX6) (N := 30) hx hb hts inX6 hown hK hW 0 (by decide) rfl rfl 29 (by decide) fl91 (fun _ h9 => h9) rfl dX6_setWindow_20 ?_
    refine mk_sayi (y := 1) h29 ?_
    refine mk_if_le (tgt := 28) hx hb dX6_setWindow_23 (by decide) (by omega) (fun c_23 => ?_) (fun c_23 => ?_)
    · skip
      omega
    · skip
      refine mk_iconst hx hb (0) dX6_setWindow_26 ?_
      exact mk_retI hx hb hr hlocks hW ⟨hM1, by omega⟩ dX6_setWindow_27
  · skip
    refine mk_iconst hx hb (0) dX6_setWindow_11 ?_
    refine lv_goto (tgt := 16) hx hb dX6_setWindow_12 (by decide) ?_
    refine mk_put (ci := 6) (C := RX6) (T := TX6) (N := 30) hx hb hts inX6 tyX6 tyX6_ok nmX6 hown hK hW 0 (by decide) rfl rfl 29 (by decide) fl91 (fun _ h9 => h9) rfl (by decide +kernel) (Nat.le_of_ble_eq_true rfl) rfl dX6_setWindow_16 (fun H locs hW => ?_)
    obtain ⟨st3, est3⟩ : ∃ z, z = stC st 0 (fnU (st 0) 29 0) := ⟨_, rfl⟩
    rw [← est3] at hW
    have hM1 : MW st st3 := by rw [est3]; exact MW.thr st _
    have hB1 : BV st3 := hB.mw hM1
    have h29 : st3 0 29 = 0 := by rw [est3]; rfl
    refine lv_aload_n hx hb dX6_setWindow_19 rfl (lv_at hl 0 rfl) ?_
    refine mk_get (ci := 6) (C := RX6) (T := TX6) (N := 30) hx hb hts inX6 hown hK hW 0 (by decide) rfl rfl 29 (by decide) fl91 (fun _ h9 => h9) rfl dX6_setWindow_20 ?_
    refine mk_sayi (y := 0) h29 ?_
    refine mk_if_le (tgt := 28) hx hb dX6_setWindow_23 (by decide) (by omega) (fun c_23 => ?_) (fun c_23 => ?_)
    · skip
      omega
    · skip
      refine mk_iconst hx hb (0) dX6_setWindow_26 ?_
      exact mk_retI hx hb hr hlocks hW ⟨hM1, by omega⟩ dX6_setWindow_27

set_option maxHeartbeats 4000000 in
set_option maxRecDepth 100000 in
theorem c_X6_setWindow (l : Launch) (cg : Nat → ClassId) (D : va_G) (ad : Nat → Nat) (st : Nat → Nat → Int) (x : Int) (hB : BV st) (hx9 : 0 ≤ x ∧ x ≤ 60) : MI l yX6_setWindow wsX6_setWindow ({ frames := 1, cells := 0, slots := 0, locals := 50 }) D vwCl (TY cg) 26 (celM cg) ad st [.ref (ad 0), .int (iI x)] (fun z st1 => MW (winM st x) st1 ∧ st1 0 29 = 0 ∧ z = st 0 11) := by
  refine mk_open (cc := cX6_setWindow) (maxL := 3) (ret := (some .int)) (by decide) rfl (Nat.le_of_ble_eq_true rfl) ?_
  intro p e s m args below meth c hx hb hml hr hown hts hlocks hK hN hargs ls hl hW
  have hown : s.vm.findClass RX6 = some m.cls := hown
  have hl : lv_has ls 3 [(0, .ref (ad 0)), (1, .int (iI x))] := hl
  have inX6 : ∀ w ∈ wsX60, w ∈ wsX6_setWindow := by decide +kernel
  have fl91 := hts (.fieldLink RX6 91 "GainsReckonerModel" "thrown" "I") (by decide +kernel)
  have fl41 := hts (.fieldLink RX6 41 "GainsReckonerModel" "window" "I") (by decide +kernel)
  refine lv_aload_n hx hb dX6_setWindow_0 rfl (lv_at hl 0 rfl) ?_
  refine lv_iload_n hx hb dX6_setWindow_1 rfl (lv_at hl 1 rfl) ?_
  refine mk_iconst hx hb (0) dX6_setWindow_2 ?_
  refine mk_bipush hx hb (60) (by decide +kernel) dX6_setWindow_3 ?_
  refine mk_goI (va_runS (As := [.int (iI x), .int (iI 0), .int (iI 60)]) (rest := [.ref (ad 0)]) ⟨hx, hb, hml, hown, hts⟩ (c_X6_isIn l cg D ad st x 0 60 (by omega) (by omega) (by omega)) (cwS 3 hts gX6_setWindow_X6_isIn rfl rfl rfl (by decide +kernel) ⟨Nat.le_of_ble_eq_true rfl, Nat.le_of_ble_eq_true rfl⟩) (mk_preS hK hN hW) rfl rfl hl.1 rfl (lv_room (Nat.le_of_ble_eq_true rfl)) dX6_setWindow_5 ⟨Nat.zero_le _, Nat.zero_le _⟩) hW (fun z1 st1 hp5 H locs hW => ?_)
  obtain ⟨est1, hz1⟩ := hp5
  rw [est1] at hW
  refine mk_if_eq (tgt := 15) hx hb dX6_setWindow_8 (by decide) (by omega) (fun c_8 => ?_) (fun c_8 => ?_)
  · skip
    omega
  · skip
    refine mk_iconst hx hb (0) dX6_setWindow_11 ?_
    refine lv_goto (tgt := 16) hx hb dX6_setWindow_12 (by decide) ?_
    refine mk_put (ci := 6) (C := RX6) (T := TX6) (N := 30) hx hb hts inX6 tyX6 tyX6_ok nmX6 hown hK hW 0 (by decide) rfl rfl 29 (by decide) fl91 (fun _ h9 => h9) rfl (by decide +kernel) (Nat.le_of_ble_eq_true rfl) rfl dX6_setWindow_16 (fun H locs hW => ?_)
    obtain ⟨st2, est2⟩ : ∃ z, z = stC st 0 (fnU (st 0) 29 0) := ⟨_, rfl⟩
    rw [← est2] at hW
    have hM1 : MW st st2 := by rw [est2]; exact MW.thr st _
    have hB1 : BV st2 := hB.mw hM1
    have h29 : st2 0 29 = 0 := by rw [est2]; rfl
    refine lv_aload_n hx hb dX6_setWindow_19 rfl (lv_at hl 0 rfl) ?_
    refine mk_get (ci := 6) (C := RX6) (T := TX6) (N := 30) hx hb hts inX6 hown hK hW 0 (by decide) rfl rfl 29 (by decide) fl91 (fun _ h9 => h9) rfl dX6_setWindow_20 ?_
    refine mk_sayi (y := 0) h29 ?_
    refine mk_if_le (tgt := 28) hx hb dX6_setWindow_23 (by decide) (by omega) (fun c_23 => ?_) (fun c_23 => ?_)
    · skip
      refine lv_aload_n hx hb dX6_setWindow_28 rfl (lv_at hl 0 rfl) ?_
      refine mk_get (ci := 6) (C := RX6) (T := TX6) (N := 30) hx hb hts inX6 hown hK hW 0 (by decide) rfl rfl 11 (by decide) fl41 (fun _ h9 => h9) rfl dX6_setWindow_29 ?_
      refine mk_sayi (y := (st 0 11)) (by rw [show st2 0 11 = st 0 11 from by rw [est2]; rfl]) ?_
      refine lv_istore_n (lv' := [(2, .int (iI (st 0 11))), (0, .ref (ad 0)), (1, .int (iI x))]) hx hb dX6_setWindow_32 rfl hl (by decide) rfl (fun ls hl => ?_)
      refine lv_aload_n hx hb dX6_setWindow_33 rfl (lv_at hl 1 rfl) ?_
      refine lv_iload_n hx hb dX6_setWindow_34 rfl (lv_at hl 2 rfl) ?_
      refine mk_put (ci := 6) (C := RX6) (T := TX6) (N := 30) hx hb hts inX6 tyX6 tyX6_ok nmX6 hown hK hW 0 (by decide) rfl rfl 11 (by decide) fl41 (fun _ h9 => h9) rfl (by decide +kernel) (Nat.le_of_ble_eq_true rfl) rfl dX6_setWindow_35 (fun H locs hW => ?_)
      obtain ⟨st3, est3⟩ : ∃ z, z = stC st2 0 (fnU (st2 0) 11 x) := ⟨_, rfl⟩
      rw [← est3] at hW
      refine lv_iload_n hx hb dX6_setWindow_38 rfl (lv_at hl 0 rfl) ?_
      exact mk_retI hx hb hr hlocks hW ⟨by rw [est3, est2]; exact ⟨fun k h1 h2 => by unfold winM; rw [stC_ne (by omega), stC_ne (by omega), stC_ne (by omega)], rfl, rfl⟩, by rw [est3, est2]; rfl, rfl⟩ dX6_setWindow_39
    · skip
      omega

