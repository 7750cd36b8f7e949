set_option maxHeartbeats 4000000 in
set_option maxRecDepth 100000 in
theorem c_X0_isFull (l : Launch) (cg : Nat → ClassId) (D : va_G) (ad : Nat → Nat) (st : Nat → Nat → Int) (n : Nat) (hn : st 1 6 = n) (hn6 : n ≤ 60) : MI l yX0_isFull wsX0_isFull ({ frames := 0, cells := 0, slots := 0, locals := 0 }) D vwCl (TY cg) 73 (celX cg) ad st [.ref (ad 1)] (fun z st1 => st1 = st ∧ ((z = 1 ∧ n = 60) ∨ (z = 0 ∧ n < 60))) := by
  refine mk_open (cc := cX0_isFull) (maxL := 1) (ret := (some .boolean)) (by decide) rfl (Nat.le_of_ble_eq_true rfl) ?_
  intro p e s m args below meth c hx hb hml hr hown hts hlocks hK hN hargs ls hl hW
  have hown : s.vm.findClass RX0 = some m.cls := hown
  have hl : lv_has ls 1 [(0, .ref (ad 1))] := hl
  have inX0 : ∀ w ∈ wsX00, w ∈ wsX0_isFull := by decide +kernel
  have fl31 := hts (.fieldLink RX0 31 "GainsReckoner$Journal" "size" "I") (by decide +kernel)
  refine lv_aload_n hx hb dX0_isFull_0 rfl (lv_at hl 0 rfl) ?_
  refine mk_get (ci := 0) (C := RX0) (T := TX0) (N := 7) hx hb hts inX0 hown hK hW 1 (by decide) rfl rfl 6 (by decide) fl31 (fun _ h9 => h9) rfl dX0_isFull_1 ?_
  refine mk_sayi (y := ((n : Nat) : Int)) hn ?_
  refine mk_bipush hx hb (60) (by decide +kernel) dX0_isFull_4 ?_
  refine mk_icmp_lt (tgt := 13) hx hb dX0_isFull_6 (by decide) (by omega) (by omega) (fun c_6 => ?_) (fun c_6 => ?_)
  · skip
    refine mk_iconst hx hb (0) dX0_isFull_13 ?_
    exact mk_retZ hx hb hr hlocks hW (by omega) ⟨rfl, Or.inr ⟨rfl, by omega⟩⟩ dX0_isFull_14
  · skip
    refine mk_iconst hx hb (1) dX0_isFull_9 ?_
    refine lv_goto (tgt := 14) hx hb dX0_isFull_10 (by decide) ?_
    exact mk_retZ hx hb hr hlocks hW (by omega) ⟨rfl, Or.inl ⟨rfl, by omega⟩⟩ dX0_isFull_14

set_option maxHeartbeats 4000000 in
set_option maxRecDepth 100000 in
theorem c_X0_enter (l : Launch) (cg : Nat → ClassId) (D : va_G) (ad : Nat → Nat) (st : Nat → Nat → Int) (sa v d ct mo : Int) (n : Nat) (hn : st 1 6 = n) (hn6 : n < 60) (hs : sa = 0 ∨ sa = 1) : MI l yX0_enter wsX0_enter ({ frames := 1, cells := 0, slots := 0, locals := 22 }) D vwCl (TY cg) 73 (celX cg) ad st [.ref (ad 1), .int (iI sa), .int (iI v), .int (iI d), .int (iI ct), .int (iI mo)] (fun z st1 => st1 = stC (stC (stC (stC (stC (stC st 2 (fnU (st 2) n sa)) 4 (fnU (st 4) n v)) 5 (fnU (st 5) n d)) 6 (fnU (st 6) n ct)) 7 (fnU (st 7) n mo)) 1 (fnU (st 1) 6 ((n : Int) + 1)) ∧ z = n) := by
  refine mk_open (cc := cX0_enter) (maxL := 7) (ret := (some .int)) (by decide) rfl (Nat.le_of_ble_eq_true rfl) ?_
  intro p e s m args below meth c hx hb hml hr hown hts hlocks hK hN hargs ls hl hW
  have hown : s.vm.findClass RX0 = some m.cls := hown
  have hl : lv_has ls 7 [(0, .ref (ad 1)), (1, .int (iI sa)), (2, .int (iI v)), (3, .int (iI d)), (4, .int (iI ct)), (5, .int (iI mo))] := hl
  have inX0 : ∀ w ∈ wsX00, w ∈ wsX0_enter := by decide +kernel
  have fl31 := hts (.fieldLink RX0 31 "GainsReckoner$Journal" "size" "I") (by decide +kernel)
  have fl9 := hts (.fieldLink RX0 9 "GainsReckoner$Journal" "sale" "[Z") (by decide +kernel)
  have fl18 := hts (.fieldLink RX0 18 "GainsReckoner$Journal" "share" "[I") (by decide +kernel)
  have fl22 := hts (.fieldLink RX0 22 "GainsReckoner$Journal" "day" "[I") (by decide +kernel)
  have fl25 := hts (.fieldLink RX0 25 "GainsReckoner$Journal" "count" "[I") (by decide +kernel)
  have fl28 := hts (.fieldLink RX0 28 "GainsReckoner$Journal" "money" "[I") (by decide +kernel)
  refine lv_aload_n hx hb dX0_enter_0 rfl (lv_at hl 0 rfl) ?_
  refine mk_goI (va_runV (As := []) (rest := []) ⟨hx, hb, hml, hown, hts⟩ (c_X0_isFull l cg D ad st n hn (by omega)) (cwV 0 hts gX0_enter_X0_isFull rfl rfl rfl (by decide +kernel) ⟨Nat.le_of_ble_eq_true rfl, Nat.le_of_ble_eq_true rfl⟩) (mk_preV hK hN hW 1 (by decide) rfl rfl rfl) rfl rfl hl.1 rfl (lv_room (Nat.le_of_ble_eq_true rfl)) dX0_enter_1 ⟨Nat.zero_le _, Nat.zero_le _⟩) hW (fun z st1 hp1 H locs hW => ?_)
  obtain ⟨est1, hz⟩ := hp1
  rw [est1] at hW
  refine mk_if_eq (tgt := 9) hx hb dX0_enter_4 (by decide) (by omega) (fun c_4 => ?_) (fun c_4 => ?_)
  · skip
    refine lv_aload_n hx hb dX0_enter_9 rfl (lv_at hl 0 rfl) ?_
    refine mk_get (ci := 0) (C := RX0) (T := TX0) (N := 7) hx hb hts inX0 hown hK hW 1 (by decide) rfl rfl 6 (by decide) fl31 (fun _ h9 => h9) rfl dX0_enter_10 ?_
    refine mk_sayi (y := ((n : Nat) : Int)) hn ?_
    refine lv_istore (lv' := [(6, .int (iI ((n : Nat) : Int))), (0, .ref (ad 1)), (1, .int (iI sa)), (2, .int (iI v)), (3, .int (iI d)), (4, .int (iI ct)), (5, .int (iI mo))]) hx hb dX0_enter_13 hl (by decide) rfl (fun ls hl => ?_)
    refine lv_aload_n hx hb dX0_enter_15 rfl (lv_at hl 1 rfl) ?_
    refine mk_get (ci := 0) (C := RX0) (T := TX0) (N := 7) hx hb hts inX0 hown hK hW 1 (by decide) rfl rfl 0 (by decide) fl9 (fun _ h9 => h9) rfl dX0_enter_16 ?_
    refine lv_iload hx hb dX0_enter_19 (lv_at hl 0 rfl) ?_
    refine lv_iload_n hx hb dX0_enter_21 rfl (lv_at hl 2 rfl) ?_
    refine mk_zast hx hb hK hW 2 (by decide) (fun _ => rfl) 1 rfl (j := n) rfl (by omega) (by decide) (by omega) dX0_enter_22 (fun H locs hW => ?_)
    obtain ⟨st2, est2⟩ : ∃ z, z = stC st 2 (fnU (st 2) n sa) := ⟨_, rfl⟩
    rw [← est2] at hW
    refine lv_aload_n hx hb dX0_enter_23 rfl (lv_at hl 1 rfl) ?_
    refine mk_get (ci := 0) (C := RX0) (T := TX0) (N := 7) hx hb hts inX0 hown hK hW 1 (by decide) rfl rfl 2 (by decide) fl18 (fun _ h9 => h9) rfl dX0_enter_24 ?_
    refine lv_iload hx hb dX0_enter_27 (lv_at hl 0 rfl) ?_
    refine lv_iload_n hx hb dX0_enter_29 rfl (lv_at hl 3 rfl) ?_
    refine mk_iast hx hb hK hW 4 (by decide) (fun _ => rfl) 0 rfl (j := n) rfl (by omega) (by decide) dX0_enter_30 (fun H locs hW => ?_)
    obtain ⟨st3, est3⟩ : ∃ z, z = stC st2 4 (fnU (st2 4) n v) := ⟨_, rfl⟩
    rw [← est3] at hW
    refine lv_aload_n hx hb dX0_enter_31 rfl (lv_at hl 1 rfl) ?_
    refine mk_get (ci := 0) (C := RX0) (T := TX0) (N := 7) hx hb hts inX0 hown hK hW 1 (by decide) rfl rfl 3 (by decide) fl22 (fun _ h9 => h9) rfl dX0_enter_32 ?_
    refine lv_iload hx hb dX0_enter_35 (lv_at hl 0 rfl) ?_
    refine lv_iload_n hx hb dX0_enter_37 rfl (lv_at hl 4 rfl) ?_
    refine mk_iast hx hb hK hW 5 (by decide) (fun _ => rfl) 0 rfl (j := n) rfl (by omega) (by decide) dX0_enter_38 (fun H locs hW => ?_)
    obtain ⟨st4, est4⟩ : ∃ z, z = stC st3 5 (fnU (st3 5) n d) := ⟨_, rfl⟩
    rw [← est4] at hW
    refine lv_aload_n hx hb dX0_enter_39 rfl (lv_at hl 1 rfl) ?_
    refine mk_get (ci := 0) (C := RX0) (T := TX0) (N := 7) hx hb hts inX0 hown hK hW 1 (by decide) rfl rfl 4 (by decide) fl25 (fun _ h9 => h9) rfl dX0_enter_40 ?_
    refine lv_iload hx hb dX0_enter_43 (lv_at hl 0 rfl) ?_
    refine lv_iload hx hb dX0_enter_45 (lv_at hl 5 rfl) ?_
    refine mk_iast hx hb hK hW 6 (by decide) (fun _ => rfl) 0 rfl (j := n) rfl (by omega) (by decide) dX0_enter_47 (fun H locs hW => ?_)
    obtain ⟨st5, est5⟩ : ∃ z, z = stC st4 6 (fnU (st4 6) n ct) := ⟨_, rfl⟩
    rw [← est5] at hW
    refine lv_aload_n hx hb dX0_enter_48 rfl (lv_at hl 1 rfl) ?_
    refine mk_get (ci := 0) (C := RX0) (T := TX0) (N := 7) hx hb hts inX0 hown hK hW 1 (by decide) rfl rfl 5 (by decide) fl28 (fun _ h9 => h9) rfl dX0_enter_49 ?_
    refine lv_iload hx hb dX0_enter_52 (lv_at hl 0 rfl) ?_
    refine lv_iload hx hb dX0_enter_54 (lv_at hl 6 rfl) ?_
    refine mk_iast hx hb hK hW 7 (by decide) (fun _ => rfl) 0 rfl (j := n) rfl (by omega) (by decide) dX0_enter_56 (fun H locs hW => ?_)
    obtain ⟨st6, est6⟩ : ∃ z, z = stC st5 7 (fnU (st5 7) n mo) := ⟨_, rfl⟩
    rw [← est6] at hW
    refine lv_aload_n hx hb dX0_enter_57 rfl (lv_at hl 1 rfl) ?_
    refine lv_dup hx hb dX0_enter_58 rfl ?_
    refine mk_get (ci := 0) (C := RX0) (T := TX0) (N := 7) hx hb hts inX0 hown hK hW 1 (by decide) rfl rfl 6 (by decide) fl31 (fun _ h9 => h9) rfl dX0_enter_59 ?_
    refine mk_sayi (y := (st 1 6)) (by rw [show st6 1 = st5 1 from by rw [est6]; exact stC_ne (by decide), show st5 1 = st4 1 from by rw [est5]; exact stC_ne (by decide), show st4 1 = st3 1 from by rw [est4]; exact stC_ne (by decide), show st3 1 = st2 1 from by rw [est3]; exact stC_ne (by decide), show st2 1 = st 1 from by rw [est2]; exact stC_ne (by decide)]) ?_
    refine mk_sayi (y := ((n : Nat) : Int)) hn ?_
    refine mk_iconst hx hb (1) dX0_enter_62 ?_
    refine mk_iadd hx hb dX0_enter_63 ?_
    refine mk_put (ci := 0) (C := RX0) (T := TX0) (N := 7) hx hb hts inX0 tyX0 tyX0_ok nmX0 hown hK hW 1 (by decide) rfl rfl 6 (by decide) fl31 (fun _ h9 => h9) rfl (by decide +kernel) (Nat.le_of_ble_eq_true rfl) rfl dX0_enter_64 (fun H locs hW => ?_)
    obtain ⟨st7, est7⟩ : ∃ z, z = stC st6 1 (fnU (st6 1) 6 (((n : Nat) : Int) + 1)) := ⟨_, rfl⟩
    rw [← est7] at hW
    refine lv_iload hx hb dX0_enter_67 (lv_at hl 0 rfl) ?_
    exact mk_retI hx hb hr hlocks hW ⟨by rw [est7, est6, est5, est4, est3, est2]; rfl, rfl⟩ dX0_enter_69
  · skip
    omega

set_option maxHeartbeats 4000000 in
set_option maxRecDepth 100000 in
theorem c_X5_ledgerOf_0 (l : Launch) (cg : Nat → ClassId) (D : va_G) (ad : Nat → Nat) (st : Nat → Nat → Int)  : MR l yX5_ledgerOf wsX5_ledgerOf ({ frames := 0, cells := 0, slots := 0, locals := 0 }) D vwCl (TY cg) 73 (celX cg) ad st [.ref (ad 0), .int (iI 0)] (9) := by
  refine mk_open (cc := cX5_ledgerOf) (maxL := 2) (ret := (some (.object "GainsReckoner$Ledger"))) (by decide) rfl (Nat.le_of_ble_eq_true rfl) ?_
  intro p e s m args below meth c hx hb hml hr hown hts hlocks hK hN hargs ls hl hW
  have hown : s.vm.findClass RX5 = some m.cls := hown
  have hl : lv_has ls 2 [(0, .ref (ad 0)), (1, .int (iI 0))] := hl
  have inX5 : ∀ w ∈ wsX50, w ∈ wsX5_ledgerOf := by decide +kernel
  have fl18 := hts (.fieldLink RX5 18 "GainsReckoner" "ledgers" "[LGainsReckoner$Ledger;") (by decide +kernel)
  refine lv_iload_n hx hb dX5_ledgerOf_0 rfl (lv_at hl 1 rfl) ?_
  refine mk_if_lt (tgt := 9) hx hb dX5_ledgerOf_1 (by decide) (by omega) (fun c_1 => ?_) (fun c_1 => ?_)
  · skip
    omega
  · skip
    refine lv_iload_n hx hb dX5_ledgerOf_4 rfl (lv_at hl 1 rfl) ?_
    refine mk_iconst hx hb (3) dX5_ledgerOf_5 ?_
    refine mk_icmp_lt (tgt := 19) hx hb dX5_ledgerOf_6 (by decide) (by omega) (by omega) (fun c_6 => ?_) (fun c_6 => ?_)
    · skip
      refine lv_aload_n hx hb dX5_ledgerOf_19 rfl (lv_at hl 0 rfl) ?_
      refine mk_get (ci := 5) (C := RX5) (T := TX5) (N := 4) hx hb hts inX5 hown hK hW 0 (by decide) rfl rfl 1 (by decide) fl18 (fun _ h9 => h9) rfl dX5_ledgerOf_20 ?_
      refine lv_iload_n hx hb dX5_ledgerOf_23 rfl (lv_at hl 1 rfl) ?_
      refine mk_aald hx hb hK hW 8 (by decide) rfl 3 rfl (j := 0) rfl (by omega) (by decide) rfl dX5_ledgerOf_24 ?_
      exact mk_retR hx hb hr hlocks hW rfl dX5_ledgerOf_25
    · skip
      omega

set_option maxHeartbeats 4000000 in
set_option maxRecDepth 100000 in
theorem c_X5_ledgerAt_0 (l : Launch) (cg : Nat → ClassId) (D : va_G) (ad : Nat → Nat) (st : Nat → Nat → Int) (d : Int) (hd : 0 ≤ d ∧ d < 1825) : MR l yX5_ledgerAt wsX5_ledgerAt ({ frames := 1, cells := 0, slots := 0, locals := 22 }) D vwCl (TY cg) 73 (celX cg) ad st [.ref (ad 0), .int (iI 0), .int (iI d)] (9) := by
  refine mk_open (cc := cX5_ledgerAt) (maxL := 4) (ret := (some (.object "GainsReckoner$Ledger"))) (by decide) rfl (Nat.le_of_ble_eq_true rfl) ?_
  intro p e s m args below meth c hx hb hml hr hown hts hlocks hK hN hargs ls hl hW
  have hown : s.vm.findClass RX5 = some m.cls := hown
  have hl : lv_has ls 4 [(0, .ref (ad 0)), (1, .int (iI 0)), (2, .int (iI d))] := hl
  refine lv_aload_n hx hb dX5_ledgerAt_0 rfl (lv_at hl 0 rfl) ?_
  refine lv_iload_n hx hb dX5_ledgerAt_1 rfl (lv_at hl 1 rfl) ?_
  refine mk_goR (st9 := st) (va_runV (As := [.int (iI 0)]) (rest := []) ⟨hx, hb, hml, hown, hts⟩ (c_X5_ledgerOf_0 l cg D ad st) (cwV 1 hts gX5_ledgerAt_X5_ledgerOf rfl rfl rfl (by decide +kernel) ⟨Nat.le_of_ble_eq_true rfl, Nat.le_of_ble_eq_true rfl⟩) (mk_preV hK hN hW 0 (by decide) rfl rfl rfl) rfl rfl hl.1 rfl (lv_room (Nat.le_of_ble_eq_true rfl)) dX5_ledgerAt_2 ⟨Nat.zero_le _, Nat.zero_le _⟩) hW (fun H locs hW => ?_)
  refine lv_astore_n (lv' := [(3, .ref (ad 9)), (0, .ref (ad 0)), (1, .int (iI 0)), (2, .int (iI d))]) hx hb dX5_ledgerAt_5 rfl hl (by decide) rfl (fun ls hl => ?_)
  refine lv_iload_n hx hb dX5_ledgerAt_6 rfl (lv_at hl 3 rfl) ?_
  refine mk_if_lt (tgt := 17) hx hb dX5_ledgerAt_7 (by decide) (by omega) (fun c_7 => ?_) (fun c_7 => ?_)
  · skip
    omega
  · skip
    refine lv_iload_n hx hb dX5_ledgerAt_10 rfl (lv_at hl 3 rfl) ?_
    refine mk_sipush hx hb (1825) (by decide +kernel) dX5_ledgerAt_11 ?_
    refine mk_icmp_lt (tgt := 27) hx hb dX5_ledgerAt_14 (by decide) (by omega) (by omega) (fun c_14 => ?_) (fun c_14 => ?_)
    · skip
      refine lv_aload_n hx hb dX5_ledgerAt_27 rfl (lv_at hl 0 rfl) ?_
      exact mk_retR hx hb hr hlocks hW rfl dX5_ledgerAt_28
    · skip
      omega

set_option maxHeartbeats 4000000 in
set_option maxRecDepth 100000 in
theorem c_X5_matchesWith_0 (l : Launch) (cg : Nat → ClassId) (D : va_G) (ad : Nat → Nat) (st : Nat → Nat → Int) (b : Nat → Nat → Int) (hX : XI st b) (pl : Int) (hpl : 0 ≤ pl ∧ pl < (bAA b 0 (xR st 0) (xD st 0)).length) : MR l yX5_matchesWith wsX5_matchesWith ({ frames := 1, cells := 0, slots := 0, locals := 22 }) D vwCl (TY cg) 73 (celX cg) ad st [.ref (ad 0), .int (iI 0), .int (iI pl)] (23) := by
  refine mk_open (cc := cX5_matchesWith) (maxL := 4) (ret := (some (.object "GainsReckoner$Matches"))) (by decide) rfl (Nat.le_of_ble_eq_true rfl) ?_
  intro p e s m args below meth c hx hb hml hr hown hts hlocks hK hN hargs ls hl hW
  have hown : s.vm.findClass RX5 = some m.cls := hown
  have hl : lv_has ls 4 [(0, .ref (ad 0)), (1, .int (iI 0)), (2, .int (iI pl))] := hl
  have inX1 : ∀ w ∈ wsX10, w ∈ wsX5_matchesWith := by decide +kernel
  have inX2 : ∀ w ∈ wsX20, w ∈ wsX5_matchesWith := by decide +kernel
  have fn147 := hN.f (args := args) "GainsReckoner" 147 "GainsReckoner$Ledger" "matched" "LGainsReckoner$Matches;" (by decide +kernel)
  have fn156 := hN.f (args := args) "GainsReckoner" 156 "GainsReckoner$Matches" "size" "I" (by decide +kernel)
  have hG := hX.2.2.1 0 (by omega)
  have hRN := hG.RN hX.1 (show 0 < 3 by omega)
  have hlen : (bAA b 0 (xR st 0) (xD st 0)).length ≤ 60 := hG.len hX.1 (show 0 < 3 by omega)
  have hR60 := hRN.1
  refine lv_aload_n hx hb dX5_matchesWith_0 rfl (lv_at hl 0 rfl) ?_
  refine lv_iload_n hx hb dX5_matchesWith_1 rfl (lv_at hl 1 rfl) ?_
  refine mk_goR (st9 := st) (va_runV (As := [.int (iI 0)]) (rest := []) ⟨hx, hb, hml, hown, hts⟩ (c_X5_ledgerOf_0 l cg D ad st) (cwV 1 hts gX5_matchesWith_X5_ledgerOf rfl rfl rfl (by decide +kernel) ⟨Nat.le_of_ble_eq_true rfl, Nat.le_of_ble_eq_true rfl⟩) (mk_preV hK hN hW 0 (by decide) rfl rfl rfl) rfl rfl hl.1 rfl (lv_room (Nat.le_of_ble_eq_true rfl)) dX5_matchesWith_2 ⟨Nat.zero_le _, Nat.zero_le _⟩) hW (fun H locs hW => ?_)
  refine mk_getN (ci := 1) (C := RX1) (T := TX1) (N := 4) hx hb hts inX1 hown hK hW 9 (by decide) rfl rfl 3 (by decide) fn147 (fun _ h9 => h9) rfl dX5_matchesWith_5 ?_
  refine lv_astore_n (lv' := [(3, .ref (ad 23)), (0, .ref (ad 0)), (1, .int (iI 0)), (2, .int (iI pl))]) hx hb dX5_matchesWith_8 rfl hl (by decide) rfl (fun ls hl => ?_)
  refine lv_iload_n hx hb dX5_matchesWith_9 rfl (lv_at hl 3 rfl) ?_
  refine mk_if_lt (tgt := 21) hx hb dX5_matchesWith_10 (by decide) (by omega) (fun c_10 => ?_) (fun c_10 => ?_)
  · skip
    omega
  · skip
    refine lv_iload_n hx hb dX5_matchesWith_13 rfl (lv_at hl 3 rfl) ?_
    refine lv_aload_n hx hb dX5_matchesWith_14 rfl (lv_at hl 0 rfl) ?_
    refine mk_getN (ci := 2) (C := RX2) (T := TX2) (N := 7) hx hb hts inX2 hown hK hW 23 (by decide) rfl rfl 6 (by decide) fn156 (fun _ h9 => h9) rfl dX5_matchesWith_15 ?_
    refine mk_sayi (y := ((bAA b 0 (xR st 0) (xD st 0)).length : Int)) hG.2.2.2.1.1 ?_
    refine mk_icmp_lt (tgt := 31) hx hb dX5_matchesWith_18 (by decide) (by omega) (by omega) (fun c_18 => ?_) (fun c_18 => ?_)
    · skip
      refine lv_aload_n hx hb dX5_matchesWith_31 rfl (lv_at hl 0 rfl) ?_
      exact mk_retR hx hb hr hlocks hW rfl dX5_matchesWith_32
    · skip
      omega

set_option maxHeartbeats 4000000 in
set_option maxRecDepth 100000 in
theorem c_X5_ledgerOf_1 (l : Launch) (cg : Nat → ClassId) (D : va_G) (ad : Nat → Nat) (st : Nat → Nat → Int)  : MR l yX5_ledgerOf wsX5_ledgerOf ({ frames := 0, cells := 0, slots := 0, locals := 0 }) D vwCl (TY cg) 73 (celX cg) ad st [.ref (ad 0), .int (iI 1)] (30) := by
  refine mk_open (cc := cX5_ledgerOf) (maxL := 2) (ret := (some (.object "GainsReckoner$Ledger"))) (by decide) rfl (Nat.le_of_ble_eq_true rfl) ?_
  intro p e s m args below meth c hx hb hml hr hown hts hlocks hK hN hargs ls hl hW
  have hown : s.vm.findClass RX5 = some m.cls := hown
  have hl : lv_has ls 2 [(0, .ref (ad 0)), (1, .int (iI 1))] := hl
  have inX5 : ∀ w ∈ wsX50, w ∈ wsX5_ledgerOf := by decide +kernel
  have fl18 := hts (.fieldLink RX5 18 "GainsReckoner" "ledgers" "[LGainsReckoner$Ledger;") (by decide +kernel)
  refine lv_iload_n hx hb dX5_ledgerOf_0 rfl (lv_at hl 1 rfl) ?_
  refine mk_if_lt (tgt := 9) hx hb dX5_ledgerOf_1 (by decide) (by omega) (fun c_1 => ?_) (fun c_1 => ?_)
  · skip
    omega
  · skip
    refine lv_iload_n hx hb dX5_ledgerOf_4 rfl (lv_at hl 1 rfl) ?_
    refine mk_iconst hx hb (3) dX5_ledgerOf_5 ?_
    refine mk_icmp_lt (tgt := 19) hx hb dX5_ledgerOf_6 (by decide) (by omega) (by omega) (fun c_6 => ?_) (fun c_6 => ?_)
    · skip
      refine lv_aload_n hx hb dX5_ledgerOf_19 rfl (lv_at hl 0 rfl) ?_
      refine mk_get (ci := 5) (C := RX5) (T := TX5) (N := 4) hx hb hts inX5 hown hK hW 0 (by decide) rfl rfl 1 (by decide) fl18 (fun _ h9 => h9) rfl dX5_ledgerOf_20 ?_
      refine lv_iload_n hx hb dX5_ledgerOf_23 rfl (lv_at hl 1 rfl) ?_
      refine mk_aald hx hb hK hW 8 (by decide) rfl 3 rfl (j := 1) rfl (by omega) (by decide) rfl dX5_ledgerOf_24 ?_
      exact mk_retR hx hb hr hlocks hW rfl dX5_ledgerOf_25
    · skip
      omega

set_option maxHeartbeats 4000000 in
set_option maxRecDepth 100000 in
theorem c_X5_ledgerAt_1 (l : Launch) (cg : Nat → ClassId) (D : va_G) (ad : Nat → Nat) (st : Nat → Nat → Int) (d : Int) (hd : 0 ≤ d ∧ d < 1825) : MR l yX5_ledgerAt wsX5_ledgerAt ({ frames := 1, cells := 0, slots := 0, locals := 22 }) D vwCl (TY cg) 73 (celX cg) ad st [.ref (ad 0), .int (iI 1), .int (iI d)] (30) := by
  refine mk_open (cc := cX5_ledgerAt) (maxL := 4) (ret := (some (.object "GainsReckoner$Ledger"))) (by decide) rfl (Nat.le_of_ble_eq_true rfl) ?_
  intro p e s m args below meth c hx hb hml hr hown hts hlocks hK hN hargs ls hl hW
  have hown : s.vm.findClass RX5 = some m.cls := hown
  have hl : lv_has ls 4 [(0, .ref (ad 0)), (1, .int (iI 1)), (2, .int (iI d))] := hl
  refine lv_aload_n hx hb dX5_ledgerAt_0 rfl (lv_at hl 0 rfl) ?_
  refine lv_iload_n hx hb dX5_ledgerAt_1 rfl (lv_at hl 1 rfl) ?_
  refine mk_goR (st9 := st) (va_runV (As := [.int (iI 1)]) (rest := []) ⟨hx, hb, hml, hown, hts⟩ (c_X5_ledgerOf_1 l cg D ad st) (cwV 1 hts gX5_ledgerAt_X5_ledgerOf rfl rfl rfl (by decide +kernel) ⟨Nat.le_of_ble_eq_true rfl, Nat.le_of_ble_eq_true rfl⟩) (mk_preV hK hN hW 0 (by decide) rfl rfl rfl) rfl rfl hl.1 rfl (lv_room (Nat.le_of_ble_eq_true rfl)) dX5_ledgerAt_2 ⟨Nat.zero_le _, Nat.zero_le _⟩) hW (fun H locs hW => ?_)
  refine lv_astore_n (lv' := [(3, .ref (ad 30)), (0, .ref (ad 0)), (1, .int (iI 1)), (2, .int (iI d))]) hx hb dX5_ledgerAt_5 rfl hl (by decide) rfl (fun ls hl => ?_)
  refine lv_iload_n hx hb dX5_ledgerAt_6 rfl (lv_at hl 3 rfl) ?_
  refine mk_if_lt (tgt := 17) hx hb dX5_ledgerAt_7 (by decide) (by omega) (fun c_7 => ?_) (fun c_7 => ?_)
  · skip
    omega
  · skip
    refine lv_iload_n hx hb dX5_ledgerAt_10 rfl (lv_at hl 3 rfl) ?_
    refine mk_sipush hx hb (1825) (by decide +kernel) dX5_ledgerAt_11 ?_
    refine mk_icmp_lt (tgt := 27) hx hb dX5_ledgerAt_14 (by decide) (by omega) (by omega) (fun c_14 => ?_) (fun c_14 => ?_)
    · skip
      refine lv_aload_n hx hb dX5_ledgerAt_27 rfl (lv_at hl 0 rfl) ?_
      exact mk_retR hx hb hr hlocks hW rfl dX5_ledgerAt_28
    · skip
      omega

set_option maxHeartbeats 4000000 in
set_option maxRecDepth 100000 in
theorem c_X5_matchesWith_1 (l : Launch) (cg : Nat → ClassId) (D : va_G) (ad : Nat → Nat) (st : Nat → Nat → Int) (b : Nat → Nat → Int) (hX : XI st b) (pl : Int) (hpl : 0 ≤ pl ∧ pl < (bAA b 1 (xR st 1) (xD st 1)).length) : MR l yX5_matchesWith wsX5_matchesWith ({ frames := 1, cells := 0, slots := 0, locals := 22 }) D vwCl (TY cg) 73 (celX cg) ad st [.ref (ad 0), .int (iI 1), .int (iI pl)] (44) := by
  refine mk_open (cc := cX5_matchesWith) (maxL := 4) (ret := (some (.object "GainsReckoner$Matches"))) (by decide) rfl (Nat.le_of_ble_eq_true rfl) ?_
  intro p e s m args below meth c hx hb hml hr hown hts hlocks hK hN hargs ls hl hW
  have hown : s.vm.findClass RX5 = some m.cls := hown
  have hl : lv_has ls 4 [(0, .ref (ad 0)), (1, .int (iI 1)), (2, .int (iI pl))] := hl
  have inX1 : ∀ w ∈ wsX10, w ∈ wsX5_matchesWith := by decide +kernel
  have inX2 : ∀ w ∈ wsX20, w ∈ wsX5_matchesWith := by decide +kernel
  have fn147 := hN.f (args := args) "GainsReckoner" 147 "GainsReckoner$Ledger" "matched" "LGainsReckoner$Matches;" (by decide +kernel)
  have fn156 := hN.f (args := args) "GainsReckoner" 156 "GainsReckoner$Matches" "size" "I" (by decide +kernel)
  have hG := hX.2.2.1 1 (by omega)
  have hRN := hG.RN hX.1 (show 1 < 3 by omega)
  have hlen : (bAA b 1 (xR st 1) (xD st 1)).length ≤ 60 := hG.len hX.1 (show 1 < 3 by omega)
  have hR60 := hRN.1
  refine lv_aload_n hx hb dX5_matchesWith_0 rfl (lv_at hl 0 rfl) ?_
  refine lv_iload_n hx hb dX5_matchesWith_1 rfl (lv_at hl 1 rfl) ?_
  refine mk_goR (st9 := st) (va_runV (As := [.int (iI 1)]) (rest := []) ⟨hx, hb, hml, hown, hts⟩ (c_X5_ledgerOf_1 l cg D ad st) (cwV 1 hts gX5_matchesWith_X5_ledgerOf rfl rfl rfl (by decide +kernel) ⟨Nat.le_of_ble_eq_true rfl, Nat.le_of_ble_eq_true rfl⟩) (mk_preV hK hN hW 0 (by decide) rfl rfl rfl) rfl rfl hl.1 rfl (lv_room (Nat.le_of_ble_eq_true rfl)) dX5_matchesWith_2 ⟨Nat.zero_le _, Nat.zero_le _⟩) hW (fun H locs hW => ?_)
  refine mk_getN (ci := 1) (C := RX1) (T := TX1) (N := 4) hx hb hts inX1 hown hK hW 30 (by decide) rfl rfl 3 (by decide) fn147 (fun _ h9 => h9) rfl dX5_matchesWith_5 ?_
  refine lv_astore_n (lv' := [(3, .ref (ad 44)), (0, .ref (ad 0)), (1, .int (iI 1)), (2, .int (iI pl))]) hx hb dX5_matchesWith_8 rfl hl (by decide) rfl (fun ls hl => ?_)
  refine lv_iload_n hx hb dX5_matchesWith_9 rfl (lv_at hl 3 rfl) ?_
  refine mk_if_lt (tgt := 21) hx hb dX5_matchesWith_10 (by decide) (by omega) (fun c_10 => ?_) (fun c_10 => ?_)
  · skip
    omega
  · skip
    refine lv_iload_n hx hb dX5_matchesWith_13 rfl (lv_at hl 3 rfl) ?_
    refine lv_aload_n hx hb dX5_matchesWith_14 rfl (lv_at hl 0 rfl) ?_
    refine mk_getN (ci := 2) (C := RX2) (T := TX2) (N := 7) hx hb hts inX2 hown hK hW 44 (by decide) rfl rfl 6 (by decide) fn156 (fun _ h9 => h9) rfl dX5_matchesWith_15 ?_
    refine mk_sayi (y := ((bAA b 1 (xR st 1) (xD st 1)).length : Int)) hG.2.2.2.1.1 ?_
    refine mk_icmp_lt (tgt := 31) hx hb dX5_matchesWith_18 (by decide) (by omega) (by omega) (fun c_18 => ?_) (fun c_18 => ?_)
    · skip
      refine lv_aload_n hx hb dX5_matchesWith_31 rfl (lv_at hl 0 rfl) ?_
      exact mk_retR hx hb hr hlocks hW rfl dX5_matchesWith_32
    · skip
      omega

set_option maxHeartbeats 4000000 in
set_option maxRecDepth 100000 in
theorem c_X5_ledgerOf_2 (l : Launch) (cg : Nat → ClassId) (D : va_G) (ad : Nat → Nat) (st : Nat → Nat → Int)  : MR l yX5_ledgerOf wsX5_ledgerOf ({ frames := 0, cells := 0, slots := 0, locals := 0 }) D vwCl (TY cg) 73 (celX cg) ad st [.ref (ad 0), .int (iI 2)] (51) := by
  refine mk_open (cc := cX5_ledgerOf) (maxL := 2) (ret := (some (.object "GainsReckoner$Ledger"))) (by decide) rfl (Nat.le_of_ble_eq_true rfl) ?_
  intro p e s m args below meth c hx hb hml hr hown hts hlocks hK hN hargs ls hl hW
  have hown : s.vm.findClass RX5 = some m.cls := hown
  have hl : lv_has ls 2 [(0, .ref (ad 0)), (1, .int (iI 2))] := hl
  have inX5 : ∀ w ∈ wsX50, w ∈ wsX5_ledgerOf := by decide +kernel
  have fl18 := hts (.fieldLink RX5 18 "GainsReckoner" "ledgers" "[LGainsReckoner$Ledger;") (by decide +kernel)
  refine lv_iload_n hx hb dX5_ledgerOf_0 rfl (lv_at hl 1 rfl) ?_
  refine mk_if_lt (tgt := 9) hx hb dX5_ledgerOf_1 (by decide) (by omega) (fun c_1 => ?_) (fun c_1 => ?_)
  · skip
    omega
  · skip
    refine lv_iload_n hx hb dX5_ledgerOf_4 rfl (lv_at hl 1 rfl) ?_
    refine mk_iconst hx hb (3) dX5_ledgerOf_5 ?_
    refine mk_icmp_lt (tgt := 19) hx hb dX5_ledgerOf_6 (by decide) (by omega) (by omega) (fun c_6 => ?_) (fun c_6 => ?_)
    · skip
      refine lv_aload_n hx hb dX5_ledgerOf_19 rfl (lv_at hl 0 rfl) ?_
      refine mk_get (ci := 5) (C := RX5) (T := TX5) (N := 4) hx hb hts inX5 hown hK hW 0 (by decide) rfl rfl 1 (by decide) fl18 (fun _ h9 => h9) rfl dX5_ledgerOf_20 ?_
      refine lv_iload_n hx hb dX5_ledgerOf_23 rfl (lv_at hl 1 rfl) ?_
      refine mk_aald hx hb hK hW 8 (by decide) rfl 3 rfl (j := 2) rfl (by omega) (by decide) rfl dX5_ledgerOf_24 ?_
      exact mk_retR hx hb hr hlocks hW rfl dX5_ledgerOf_25
    · skip
      omega

set_option maxHeartbeats 4000000 in
set_option maxRecDepth 100000 in
theorem c_X5_ledgerAt_2 (l : Launch) (cg : Nat → ClassId) (D : va_G) (ad : Nat → Nat) (st : Nat → Nat → Int) (d : Int) (hd : 0 ≤ d ∧ d < 1825) : MR l yX5_ledgerAt wsX5_ledgerAt ({ frames := 1, cells := 0, slots := 0, locals := 22 }) D vwCl (TY cg) 73 (celX cg) ad st [.ref (ad 0), .int (iI 2), .int (iI d)] (51) := by
  refine mk_open (cc := cX5_ledgerAt) (maxL := 4) (ret := (some (.object "GainsReckoner$Ledger"))) (by decide) rfl (Nat.le_of_ble_eq_true rfl) ?_
  intro p e s m args below meth c hx hb hml hr hown hts hlocks hK hN hargs ls hl hW
  have hown : s.vm.findClass RX5 = some m.cls := hown
  have hl : lv_has ls 4 [(0, .ref (ad 0)), (1, .int (iI 2)), (2, .int (iI d))] := hl
  refine lv_aload_n hx hb dX5_ledgerAt_0 rfl (lv_at hl 0 rfl) ?_
  refine lv_iload_n hx hb dX5_ledgerAt_1 rfl (lv_at hl 1 rfl) ?_
  refine mk_goR (st9 := st) (va_runV (As := [.int (iI 2)]) (rest := []) ⟨hx, hb, hml, hown, hts⟩ (c_X5_ledgerOf_2 l cg D ad st) (cwV 1 hts gX5_ledgerAt_X5_ledgerOf rfl rfl rfl (by decide +kernel) ⟨Nat.le_of_ble_eq_true rfl, Nat.le_of_ble_eq_true rfl⟩) (mk_preV hK hN hW 0 (by decide) rfl rfl rfl) rfl rfl hl.1 rfl (lv_room (Nat.le_of_ble_eq_true rfl)) dX5_ledgerAt_2 ⟨Nat.zero_le _, Nat.zero_le _⟩) hW (fun H locs hW => ?_)
  refine lv_astore_n (lv' := [(3, .ref (ad 51)), (0, .ref (ad 0)), (1, .int (iI 2)), (2, .int (iI d))]) hx hb dX5_ledgerAt_5 rfl hl (by decide) rfl (fun ls hl => ?_)
  refine lv_iload_n hx hb dX5_ledgerAt_6 rfl (lv_at hl 3 rfl) ?_
  refine mk_if_lt (tgt := 17) hx hb dX5_ledgerAt_7 (by decide) (by omega) (fun c_7 => ?_) (fun c_7 => ?_)
  · skip
    omega
  · skip
    refine lv_iload_n hx hb dX5_ledgerAt_10 rfl (lv_at hl 3 rfl) ?_
    refine mk_sipush hx hb (1825) (by decide +kernel) dX5_ledgerAt_11 ?_
    refine mk_icmp_lt (tgt := 27) hx hb dX5_ledgerAt_14 (by decide) (by omega) (by omega) (fun c_14 => ?_) (fun c_14 => ?_)
    · skip
      refine lv_aload_n hx hb dX5_ledgerAt_27 rfl (lv_at hl 0 rfl) ?_
      exact mk_retR hx hb hr hlocks hW rfl dX5_ledgerAt_28
    · skip
      omega

set_option maxHeartbeats 4000000 in
set_option maxRecDepth 100000 in
theorem c_X5_matchesWith_2 (l : Launch) (cg : Nat → ClassId) (D : va_G) (ad : Nat → Nat) (st : Nat → Nat → Int) (b : Nat → Nat → Int) (hX : XI st b) (pl : Int) (hpl : 0 ≤ pl ∧ pl < (bAA b 2 (xR st 2) (xD st 2)).length) : MR l yX5_matchesWith wsX5_matchesWith ({ frames := 1, cells := 0, slots := 0, locals := 22 }) D vwCl (TY cg) 73 (celX cg) ad st [.ref (ad 0), .int (iI 2), .int (iI pl)] (65) := by
  refine mk_open (cc := cX5_matchesWith) (maxL := 4) (ret := (some (.object "GainsReckoner$Matches"))) (by decide) rfl (Nat.le_of_ble_eq_true rfl) ?_
  intro p e s m args below meth c hx hb hml hr hown hts hlocks hK hN hargs ls hl hW
  have hown : s.vm.findClass RX5 = some m.cls := hown
  have hl : lv_has ls 4 [(0, .ref (ad 0)), (1, .int (iI 2)), (2, .int (iI pl))] := hl
  have inX1 : ∀ w ∈ wsX10, w ∈ wsX5_matchesWith := by decide +kernel
  have inX2 : ∀ w ∈ wsX20, w ∈ wsX5_matchesWith := by decide +kernel
  have fn147 := hN.f (args := args) "GainsReckoner" 147 "GainsReckoner$Ledger" "matched" "LGainsReckoner$Matches;" (by decide +kernel)
  have fn156 := hN.f (args := args) "GainsReckoner" 156 "GainsReckoner$Matches" "size" "I" (by decide +kernel)
  have hG := hX.2.2.1 2 (by omega)
  have hRN := hG.RN hX.1 (show 2 < 3 by omega)
  have hlen : (bAA b 2 (xR st 2) (xD st 2)).length ≤ 60 := hG.len hX.1 (show 2 < 3 by omega)
  have hR60 := hRN.1
  refine lv_aload_n hx hb dX5_matchesWith_0 rfl (lv_at hl 0 rfl) ?_
  refine lv_iload_n hx hb dX5_matchesWith_1 rfl (lv_at hl 1 rfl) ?_
  refine mk_goR (st9 := st) (va_runV (As := [.int (iI 2)]) (rest := []) ⟨hx, hb, hml, hown, hts⟩ (c_X5_ledgerOf_2 l cg D ad st) (cwV 1 hts gX5_matchesWith_X5_ledgerOf rfl rfl rfl (by decide +kernel) ⟨Nat.le_of_ble_eq_true rfl, Nat.le_of_ble_eq_true rfl⟩) (mk_preV hK hN hW 0 (by decide) rfl rfl rfl) rfl rfl hl.1 rfl (lv_room (Nat.le_of_ble_eq_true rfl)) dX5_matchesWith_2 ⟨Nat.zero_le _, Nat.zero_le _⟩) hW (fun H locs hW => ?_)
  refine mk_getN (ci := 1) (C := RX1) (T := TX1) (N := 4) hx hb hts inX1 hown hK hW 51 (by decide) rfl rfl 3 (by decide) fn147 (fun _ h9 => h9) rfl dX5_matchesWith_5 ?_
  refine lv_astore_n (lv' := [(3, .ref (ad 65)), (0, .ref (ad 0)), (1, .int (iI 2)), (2, .int (iI pl))]) hx hb dX5_matchesWith_8 rfl hl (by decide) rfl (fun ls hl => ?_)
  refine lv_iload_n hx hb dX5_matchesWith_9 rfl (lv_at hl 3 rfl) ?_
  refine mk_if_lt (tgt := 21) hx hb dX5_matchesWith_10 (by decide) (by omega) (fun c_10 => ?_) (fun c_10 => ?_)
  · skip
    omega
  · skip
    refine lv_iload_n hx hb dX5_matchesWith_13 rfl (lv_at hl 3 rfl) ?_
    refine lv_aload_n hx hb dX5_matchesWith_14 rfl (lv_at hl 0 rfl) ?_
    refine mk_getN (ci := 2) (C := RX2) (T := TX2) (N := 7) hx hb hts inX2 hown hK hW 65 (by decide) rfl rfl 6 (by decide) fn156 (fun _ h9 => h9) rfl dX5_matchesWith_15 ?_
    refine mk_sayi (y := ((bAA b 2 (xR st 2) (xD st 2)).length : Int)) hG.2.2.2.1.1 ?_
    refine mk_icmp_lt (tgt := 31) hx hb dX5_matchesWith_18 (by decide) (by omega) (by omega) (fun c_18 => ?_) (fun c_18 => ?_)
    · skip
      refine lv_aload_n hx hb dX5_matchesWith_31 rfl (lv_at hl 0 rfl) ?_
      exact mk_retR hx hb hr hlocks hW rfl dX5_matchesWith_32
    · skip
      omega

set_option maxHeartbeats 4000000 in
set_option maxRecDepth 100000 in
theorem c_X5_checkYear (l : Launch) (cg : Nat → ClassId) (D : va_G) (ad : Nat → Nat) (st : Nat → Nat → Int) (y : Int) (hy : 0 ≤ y ∧ y < 5) : MV l yX5_checkYear wsX5_checkYear ({ frames := 0, cells := 0, slots := 0, locals := 0 }) D vwCl (TY cg) 73 (celX cg) ad st [.int (iI y)] (fun st1 => st1 = st) := by
  refine mk_open (cc := cX5_checkYear) (maxL := 1) (ret := none) (by decide) rfl (Nat.le_of_ble_eq_true rfl) ?_
  intro p e s m args below meth c hx hb hml hr hown hts hlocks hK hN hargs ls hl hW
  have hown : s.vm.findClass RX5 = some m.cls := hown
  have hl : lv_has ls 1 [(0, .int (iI y))] := hl
  refine lv_iload_n hx hb dX5_checkYear_0 rfl (lv_at hl 0 rfl) ?_
  refine mk_if_lt (tgt := 9) hx hb dX5_checkYear_1 (by decide) (by omega) (fun c_1 => ?_) (fun c_1 => ?_)
  · skip
    omega
  · skip
    refine lv_iload_n hx hb dX5_checkYear_4 rfl (lv_at hl 0 rfl) ?_
    refine mk_iconst hx hb (5) dX5_checkYear_5 ?_
    refine mk_icmp_lt (tgt := 19) hx hb dX5_checkYear_6 (by decide) (by omega) (by omega) (fun c_6 => ?_) (fun c_6 => ?_)
    · skip
      exact mk_retV hx hb hr hlocks hW rfl dX5_checkYear_19
    · skip
      omega

set_option maxHeartbeats 4000000 in
set_option maxRecDepth 100000 in
theorem c_X5_checkMoney (l : Launch) (cg : Nat → ClassId) (D : va_G) (ad : Nat → Nat) (st : Nat → Nat → Int) (mo : Int) (hm : 0 ≤ mo ∧ mo ≤ 1000000) : MV l yX5_checkMoney wsX5_checkMoney ({ frames := 0, cells := 0, slots := 0, locals := 0 }) D vwCl (TY cg) 73 (celX cg) ad st [.int (iI mo)] (fun st1 => st1 = st) := by
  refine mk_open (cc := cX5_checkMoney) (maxL := 1) (ret := none) (by decide) rfl (Nat.le_of_ble_eq_true rfl) ?_
  intro p e s m args below meth c hx hb hml hr hown hts hlocks hK hN hargs ls hl hW
  have hown : s.vm.findClass RX5 = some m.cls := hown
  have hl : lv_has ls 1 [(0, .int (iI mo))] := hl
  have kc213 := hts (.constant RX5 213 (1000000)) (by decide +kernel)
  refine lv_iload_n hx hb dX5_checkMoney_0 rfl (lv_at hl 0 rfl) ?_
  refine mk_if_lt (tgt := 10) hx hb dX5_checkMoney_1 (by decide) (by omega) (fun c_1 => ?_) (fun c_1 => ?_)
  · skip
    omega
  · skip
    refine lv_iload_n hx hb dX5_checkMoney_4 rfl (lv_at hl 0 rfl) ?_
    refine mk_ldc hx hb (1000000) hown kc213 dX5_checkMoney_5 ?_
    refine mk_icmp_le (tgt := 20) hx hb dX5_checkMoney_7 (by decide) (by omega) (by omega) (fun c_7 => ?_) (fun c_7 => ?_)
    · skip
      exact mk_retV hx hb hr hlocks hW rfl dX5_checkMoney_20
    · skip
      omega

set_option maxHeartbeats 4000000 in
set_option maxRecDepth 100000 in
theorem c_X5_checkTrade (l : Launch) (cg : Nat → ClassId) (D : va_G) (ad : Nat → Nat) (st : Nat → Nat → Int) (ct mo : Int) (hc : 1 ≤ ct ∧ ct ≤ 1000) (hm : 0 ≤ mo ∧ mo ≤ 1000000) : MV l yX5_checkTrade wsX5_checkTrade ({ frames := 1, cells := 0, slots := 0, locals := 22 }) D vwCl (TY cg) 73 (celX cg) ad st [.int (iI ct), .int (iI mo)] (fun st1 => st1 = st) := by
  refine mk_open (cc := cX5_checkTrade) (maxL := 2) (ret := none) (by decide) rfl (Nat.le_of_ble_eq_true rfl) ?_
  intro p e s m args below meth c hx hb hml hr hown hts hlocks hK hN hargs ls hl hW
  have hown : s.vm.findClass RX5 = some m.cls := hown
  have hl : lv_has ls 2 [(0, .int (iI ct)), (1, .int (iI mo))] := hl
  refine lv_iload_n hx hb dX5_checkTrade_0 rfl (lv_at hl 0 rfl) ?_
  refine mk_iconst hx hb (1) dX5_checkTrade_1 ?_
  refine mk_icmp_lt (tgt := 12) hx hb dX5_checkTrade_2 (by decide) (by omega) (by omega) (fun c_2 => ?_) (fun c_2 => ?_)
  · skip
    omega
  · skip
    refine lv_iload_n hx hb dX5_checkTrade_5 rfl (lv_at hl 0 rfl) ?_
    refine mk_sipush hx hb (1000) (by decide +kernel) dX5_checkTrade_6 ?_
    refine mk_icmp_le (tgt := 22) hx hb dX5_checkTrade_9 (by decide) (by omega) (by omega) (fun c_9 => ?_) (fun c_9 => ?_)
    · skip
      refine lv_iload_n hx hb dX5_checkTrade_22 rfl (lv_at hl 1 rfl) ?_
      refine mk_goV (va_runS (As := [.int (iI mo)]) (rest := []) ⟨hx, hb, hml, hown, hts⟩ (c_X5_checkMoney l cg D ad st mo hm) (cwS 1 hts gX5_checkTrade_X5_checkMoney rfl rfl rfl (by decide +kernel) ⟨Nat.le_of_ble_eq_true rfl, Nat.le_of_ble_eq_true rfl⟩) (mk_preS hK hN hW) rfl rfl hl.1 rfl (lv_room (Nat.le_of_ble_eq_true rfl)) dX5_checkTrade_23 ⟨Nat.zero_le _, Nat.zero_le _⟩) hW (fun st1 hp23 H locs hW => ?_)
      rw [hp23] at hW
      exact mk_retV hx hb hr hlocks hW rfl dX5_checkTrade_26
    · skip
      omega

set_option maxHeartbeats 4000000 in
set_option maxRecDepth 100000 in
theorem c_X5_checkRoomForTrade (l : Launch) (cg : Nat → ClassId) (D : va_G) (ad : Nat → Nat) (st : Nat → Nat → Int) (n : Nat) (hn : st 1 6 = n) (hn6 : n < 60) : MV l yX5_checkRoomForTrade wsX5_checkRoomForTrade ({ frames := 1, cells := 0, slots := 0, locals := 22 }) D vwCl (TY cg) 73 (celX cg) ad st [.ref (ad 0)] (fun st1 => st1 = st) := by
  refine mk_open (cc := cX5_checkRoomForTrade) (maxL := 1) (ret := none) (by decide) rfl (Nat.le_of_ble_eq_true rfl) ?_
  intro p e s m args below meth c hx hb hml hr hown hts hlocks hK hN hargs ls hl hW
  have hown : s.vm.findClass RX5 = some m.cls := hown
  have hl : lv_has ls 1 [(0, .ref (ad 0))] := hl
  have inX5 : ∀ w ∈ wsX50, w ∈ wsX5_checkRoomForTrade := by decide +kernel
  have fl10 := hts (.fieldLink RX5 10 "GainsReckoner" "journal" "LGainsReckoner$Journal;") (by decide +kernel)
  refine lv_aload_n hx hb dX5_checkRoomForTrade_0 rfl (lv_at hl 0 rfl) ?_
  refine mk_get (ci := 5) (C := RX5) (T := TX5) (N := 4) hx hb hts inX5 hown hK hW 0 (by decide) rfl rfl 0 (by decide) fl10 (fun _ h9 => h9) rfl dX5_checkRoomForTrade_1 ?_
  refine mk_goI (va_runV (As := []) (rest := []) ⟨hx, hb, hml, hown, hts⟩ (c_X0_isFull l cg D ad st n hn (by omega)) (cwV 0 hts gX5_checkRoomForTrade_X0_isFull rfl rfl rfl (by decide +kernel) ⟨Nat.le_of_ble_eq_true rfl, Nat.le_of_ble_eq_true rfl⟩) (mk_preV hK hN hW 1 (by decide) rfl rfl rfl) rfl rfl hl.1 rfl (lv_room (Nat.le_of_ble_eq_true rfl)) dX5_checkRoomForTrade_4 ⟨Nat.zero_le _, Nat.zero_le _⟩) hW (fun z st1 hp4 H locs hW => ?_)
  obtain ⟨est1, hz⟩ := hp4
  rw [est1] at hW
  refine mk_if_eq (tgt := 20) hx hb dX5_checkRoomForTrade_7 (by decide) (by omega) (fun c_7 => ?_) (fun c_7 => ?_)
  · skip
    exact mk_retV hx hb hr hlocks hW rfl dX5_checkRoomForTrade_20
  · skip
    omega

set_option maxHeartbeats 4000000 in
set_option maxRecDepth 100000 in
theorem c_X5_trades (l : Launch) (cg : Nat → ClassId) (D : va_G) (ad : Nat → Nat) (st : Nat → Nat → Int) (b : Nat → Nat → Int) (hX : XI st b) : MI l yX5_trades wsX5_trades ({ frames := 0, cells := 0, slots := 0, locals := 0 }) D vwCl (TY cg) 73 (celX cg) ad st [.ref (ad 0)] (fun z st1 => st1 = st ∧ z = b 0 0) := by
  refine mk_open (cc := cX5_trades) (maxL := 1) (ret := (some .int)) (by decide) rfl (Nat.le_of_ble_eq_true rfl) ?_
  intro p e s m args below meth c hx hb hml hr hown hts hlocks hK hN hargs ls hl hW
  have hown : s.vm.findClass RX5 = some m.cls := hown
  have hl : lv_has ls 1 [(0, .ref (ad 0))] := hl
  have inX0 : ∀ w ∈ wsX00, w ∈ wsX5_trades := by decide +kernel
  have inX5 : ∀ w ∈ wsX50, w ∈ wsX5_trades := by decide +kernel
  have fl10 := hts (.fieldLink RX5 10 "GainsReckoner" "journal" "LGainsReckoner$Journal;") (by decide +kernel)
  have fn87 := hN.f (args := args) "GainsReckoner" 87 "GainsReckoner$Journal" "size" "I" (by decide +kernel)
  refine lv_aload_n hx hb dX5_trades_0 rfl (lv_at hl 0 rfl) ?_
  refine mk_get (ci := 5) (C := RX5) (T := TX5) (N := 4) hx hb hts inX5 hown hK hW 0 (by decide) rfl rfl 0 (by decide) fl10 (fun _ h9 => h9) rfl dX5_trades_1 ?_
  refine mk_getN (ci := 0) (C := RX0) (T := TX0) (N := 7) hx hb hts inX0 hown hK hW 1 (by decide) rfl rfl 6 (by decide) fn87 (fun _ h9 => h9) rfl dX5_trades_4 ?_
  exact mk_retI hx hb hr hlocks hW ⟨rfl, hX.2.1.1⟩ dX5_trades_7

set_option maxHeartbeats 4000000 in
set_option maxRecDepth 100000 in
theorem c_X5_holding_0 (l : Launch) (cg : Nat → ClassId) (D : va_G) (ad : Nat → Nat) (st : Nat → Nat → Int) (b : Nat → Nat → Int) (hX : XI st b) (d : Int) (hd : 0 ≤ d ∧ d < 1825) : MI l yX5_holding wsX5_holding ({ frames := 2, cells := 0, slots := 0, locals := 60 }) D vwCl (TY cg) 73 (celX cg) ad st [.ref (ad 0), .int (iI 0), .int (iI d)] (fun z st1 => st1 = st ∧ z = bH b 0 d / fla (bSD b 0) (bSF b 0) (bM b 0) d) := by
  refine mk_open (cc := cX5_holding) (maxL := 3) (ret := (some .int)) (by decide) rfl (Nat.le_of_ble_eq_true rfl) ?_
  intro p e s m args below meth c hx hb hml hr hown hts hlocks hK hN hargs ls hl hW
  have hown : s.vm.findClass RX5 = some m.cls := hown
  have hl : lv_has ls 3 [(0, .ref (ad 0)), (1, .int (iI 0)), (2, .int (iI d))] := hl
  have inX5 : ∀ w ∈ wsX50, w ∈ wsX5_holding := by decide +kernel
  have fl10 := hts (.fieldLink RX5 10 "GainsReckoner" "journal" "LGainsReckoner$Journal;") (by decide +kernel)
  refine lv_aload_n hx hb dX5_holding_0 rfl (lv_at hl 0 rfl) ?_
  refine lv_iload_n hx hb dX5_holding_1 rfl (lv_at hl 1 rfl) ?_
  refine lv_iload_n hx hb dX5_holding_2 rfl (lv_at hl 2 rfl) ?_
  refine mk_goR (st9 := st) (va_runV (As := [.int (iI 0), .int (iI d)]) (rest := []) ⟨hx, hb, hml, hown, hts⟩ (c_X5_ledgerAt_0 l cg D ad st d (by omega)) (cwV 2 hts gX5_holding_X5_ledgerAt rfl rfl rfl (by decide +kernel) ⟨Nat.le_of_ble_eq_true rfl, Nat.le_of_ble_eq_true rfl⟩) (mk_preV hK hN hW 0 (by decide) rfl rfl rfl) rfl rfl hl.1 rfl (lv_room (Nat.le_of_ble_eq_true rfl)) dX5_holding_3 ⟨Nat.zero_le _, Nat.zero_le _⟩) hW (fun H locs hW => ?_)
  refine lv_aload_n hx hb dX5_holding_6 rfl (lv_at hl 0 rfl) ?_
  refine mk_get (ci := 5) (C := RX5) (T := TX5) (N := 4) hx hb hts inX5 hown hK hW 0 (by decide) rfl rfl 0 (by decide) fl10 (fun _ h9 => h9) rfl dX5_holding_7 ?_
  refine lv_iload_n hx hb dX5_holding_10 rfl (lv_at hl 2 rfl) ?_
  refine mk_goIE (EmbL0 cg ad) (va_runV (As := [.ref (ad 1), .int (iI d)]) (rest := []) ⟨hx, hb, hml, hown, hts⟩ (c_X1_heldShares l cg D (fun j => ad (embL 0 j)) (sub (embL 0) st) 0 d (bN b) (bM b 0) (hX.2.1.n hX.1.j) (hX.2.1.J hX.1.j) (hX.2.1.m hX.1.j (show 0 < 3 by omega)) (hX.2.1.S hX.1.j (show 0 < 3 by omega)) (hX.2.2.1 0 (by omega)).1 (by omega) (by omega)) (cwV 2 hts gX5_holding_X1_heldShares rfl rfl rfl (by decide +kernel) ⟨Nat.le_of_ble_eq_true rfl, Nat.le_of_ble_eq_true rfl⟩) (mk_preV hK hN (hW.emb (EmbL0 cg ad)) 0 (by decide) rfl rfl rfl) rfl rfl hl.1 rfl (lv_room (Nat.le_of_ble_eq_true rfl)) dX5_holding_11 ⟨Nat.zero_le _, Nat.zero_le _⟩) hW (fun z st1 hp11 H locs hW => ?_)
  obtain ⟨est1, hz⟩ := hp11
  rw [est1, up_self (EmbL0 cg ad).2.1] at hW
  exact mk_retI hx hb hr hlocks hW ⟨rfl, by rw [bHS_div hX.1 (show 0 < 3 by omega), ← hX.2.1.hs (show 0 < 3 by omega)]; exact hz⟩ dX5_holding_14

set_option maxHeartbeats 4000000 in
set_option maxRecDepth 100000 in
theorem c_X5_poolUnits_0 (l : Launch) (cg : Nat → ClassId) (D : va_G) (ad : Nat → Nat) (st : Nat → Nat → Int) (b : Nat → Nat → Int) (hX : XI st b) (d : Int) (hd : 0 ≤ d ∧ d < 1825) : MI l yX5_poolUnits wsX5_poolUnits ({ frames := 2, cells := 0, slots := 0, locals := 60 }) D vwCl (TY cg) 73 (celX cg) ad st [.ref (ad 0), .int (iI 0), .int (iI d)] (fun z st1 => st1 = st ∧ ∃ q, cutR (xD st 0) (xR st 0) d q ∧ z = bPU b 0 (xR st 0) (xD st 0) q) := by
  refine mk_open (cc := cX5_poolUnits) (maxL := 5) (ret := (some .int)) (by decide) rfl (Nat.le_of_ble_eq_true rfl) ?_
  intro p e s m args below meth c hx hb hml hr hown hts hlocks hK hN hargs ls hl hW
  have hown : s.vm.findClass RX5 = some m.cls := hown
  have hl : lv_has ls 5 [(0, .ref (ad 0)), (1, .int (iI 0)), (2, .int (iI d))] := hl
  have inX1 : ∀ w ∈ wsX10, w ∈ wsX5_poolUnits := by decide +kernel
  have inX3 : ∀ w ∈ wsX30, w ∈ wsX5_poolUnits := by decide +kernel
  have fn123 := hN.f (args := args) "GainsReckoner" 123 "GainsReckoner$Ledger" "sheet" "LGainsReckoner$Sheet;" (by decide +kernel)
  have fn133 := hN.f (args := args) "GainsReckoner" 133 "GainsReckoner$Sheet" "pooledUnits" "[I" (by decide +kernel)
  have hG := hX.2.2.1 0 (by omega)
  have hRN := hG.RN hX.1 (show 0 < 3 by omega)
  have hlen : (bAA b 0 (xR st 0) (xD st 0)).length ≤ 60 := hG.len hX.1 (show 0 < 3 by omega)
  have hR60 := hRN.1
  refine lv_aload_n hx hb dX5_poolUnits_0 rfl (lv_at hl 0 rfl) ?_
  refine lv_iload_n hx hb dX5_poolUnits_1 rfl (lv_at hl 1 rfl) ?_
  refine lv_iload_n hx hb dX5_poolUnits_2 rfl (lv_at hl 2 rfl) ?_
  refine mk_goR (st9 := st) (va_runV (As := [.int (iI 0), .int (iI d)]) (rest := []) ⟨hx, hb, hml, hown, hts⟩ (c_X5_ledgerAt_0 l cg D ad st d (by omega)) (cwV 2 hts gX5_poolUnits_X5_ledgerAt rfl rfl rfl (by decide +kernel) ⟨Nat.le_of_ble_eq_true rfl, Nat.le_of_ble_eq_true rfl⟩) (mk_preV hK hN hW 0 (by decide) rfl rfl rfl) rfl rfl hl.1 rfl (lv_room (Nat.le_of_ble_eq_true rfl)) dX5_poolUnits_3 ⟨Nat.zero_le _, Nat.zero_le _⟩) hW (fun H locs hW => ?_)
  refine mk_getN (ci := 1) (C := RX1) (T := TX1) (N := 4) hx hb hts inX1 hown hK hW 9 (by decide) rfl rfl 2 (by decide) fn123 (fun _ h9 => h9) rfl dX5_poolUnits_6 ?_
  refine lv_astore_n (lv' := [(3, .ref (ad 13)), (0, .ref (ad 0)), (1, .int (iI 0)), (2, .int (iI d))]) hx hb dX5_poolUnits_9 rfl hl (by decide) rfl (fun ls hl => ?_)
  refine lv_aload_n hx hb dX5_poolUnits_10 rfl (lv_at hl 0 rfl) ?_
  refine lv_iload_n hx hb dX5_poolUnits_11 rfl (lv_at hl 3 rfl) ?_
  refine mk_goIE (EmbL0 cg ad) (va_runV (As := [.int (iI d)]) (rest := []) ⟨hx, hb, hml, hown, hts⟩ (c_X3_lastRowUpTo l cg D (fun j => ad (embL 0 j)) (sub (embL 0) st) d (lR (sub (embL 0) st)) hG.R hR60 (fun r hr => by have h9 := hRN.2.2.1 r hr; omega) (by omega)) (cwV 1 hts gX5_poolUnits_X3_lastRowUpTo rfl rfl rfl (by decide +kernel) ⟨Nat.le_of_ble_eq_true rfl, Nat.le_of_ble_eq_true rfl⟩) (mk_preV hK hN (hW.emb (EmbL0 cg ad)) 4 (by decide) rfl rfl rfl) rfl rfl hl.1 rfl (lv_room (Nat.le_of_ble_eq_true rfl)) dX5_poolUnits_12 ⟨Nat.zero_le _, Nat.zero_le _⟩) hW (fun y st1 hp12 H locs hW => ?_)
  obtain ⟨est1, ⟨q, ey, hq1, hq2, hq3⟩⟩ := hp12
  rw [est1, up_self (EmbL0 cg ad).2.1] at hW
  have hcut : cutR (xD st 0) (xR st 0) d q := ⟨hq1, hq2, fun r h1 h2 => by have h3 := hq3 (by have h4 : xR st 0 = lR (sub (embL 0) st) := rfl; omega); rcases Nat.lt_or_ge q r with h4 | h4; have h5 := hRN.2.1 q r h4 h2; exact Int.lt_trans h3 h5; rw [show r = q by omega]; exact h3⟩
  refine lv_istore (lv' := [(4, .int (iI y)), (3, .ref (ad 13)), (0, .ref (ad 0)), (1, .int (iI 0)), (2, .int (iI d))]) hx hb dX5_poolUnits_15 hl (by decide) rfl (fun ls hl => ?_)
  refine lv_iload hx hb dX5_poolUnits_17 (lv_at hl 0 rfl) ?_
  refine mk_if_ge (tgt := 26) hx hb dX5_poolUnits_19 (by decide) (by omega) (fun c_19 => ?_) (fun c_19 => ?_)
  · skip
    obtain ⟨k, ek⟩ : ∃ k : Nat, q = k + 1 := ⟨q - 1, by omega⟩
    have ey2 : y = (k : Int) := by omega
    refine lv_aload_n hx hb dX5_poolUnits_26 rfl (lv_at hl 1 rfl) ?_
    refine mk_getN (ci := 3) (C := RX3) (T := TX3) (N := 10) hx hb hts inX3 hown hK hW 13 (by decide) rfl rfl 7 (by decide) fn133 (fun _ h9 => h9) rfl dX5_poolUnits_27 ?_
    refine lv_iload hx hb dX5_poolUnits_30 (lv_at hl 0 rfl) ?_
    refine mk_sayi (y := ((k : Nat) : Int)) ey2 ?_
    refine mk_iald hx hb hK hW 21 (by decide) rfl 0 rfl (j := k) rfl (by omega) (by decide) dX5_poolUnits_32 ?_
    exact mk_retI hx hb hr hlocks hW ⟨rfl, q, hcut, by rw [ek]; exact (hG.2.2.2.2 k (by omega)).1⟩ dX5_poolUnits_33
  · skip
    refine mk_iconst hx hb (0) dX5_poolUnits_22 ?_
    refine lv_goto (tgt := 33) hx hb dX5_poolUnits_23 (by decide) ?_
    exact mk_retI hx hb hr hlocks hW ⟨rfl, q, hcut, by rw [show q = 0 by omega]; rfl⟩ dX5_poolUnits_33

set_option maxHeartbeats 4000000 in
set_option maxRecDepth 100000 in
theorem c_X5_poolCost_0 (l : Launch) (cg : Nat → ClassId) (D : va_G) (ad : Nat → Nat) (st : Nat → Nat → Int) (b : Nat → Nat → Int) (hX : XI st b) (d : Int) (hd : 0 ≤ d ∧ d < 1825) : MI l yX5_poolCost wsX5_poolCost ({ frames := 2, cells := 0, slots := 0, locals := 60 }) D vwCl (TY cg) 73 (celX cg) ad st [.ref (ad 0), .int (iI 0), .int (iI d)] (fun z st1 => st1 = st ∧ ∃ q, cutR (xD st 0) (xR st 0) d q ∧ z = bPC b 0 (xR st 0) (xD st 0) q) := by
  refine mk_open (cc := cX5_poolCost) (maxL := 5) (ret := (some .int)) (by decide) rfl (Nat.le_of_ble_eq_true rfl) ?_
  intro p e s m args below meth c hx hb hml hr hown hts hlocks hK hN hargs ls hl hW
  have hown : s.vm.findClass RX5 = some m.cls := hown
  have hl : lv_has ls 5 [(0, .ref (ad 0)), (1, .int (iI 0)), (2, .int (iI d))] := hl
  have inX1 : ∀ w ∈ wsX10, w ∈ wsX5_poolCost := by decide +kernel
  have inX3 : ∀ w ∈ wsX30, w ∈ wsX5_poolCost := by decide +kernel
  have fn123 := hN.f (args := args) "GainsReckoner" 123 "GainsReckoner$Ledger" "sheet" "LGainsReckoner$Sheet;" (by decide +kernel)
  have fn136 := hN.f (args := args) "GainsReckoner" 136 "GainsReckoner$Sheet" "pooledCost" "[I" (by decide +kernel)
  have hG := hX.2.2.1 0 (by omega)
  have hRN := hG.RN hX.1 (show 0 < 3 by omega)
  have hlen : (bAA b 0 (xR st 0) (xD st 0)).length ≤ 60 := hG.len hX.1 (show 0 < 3 by omega)
  have hR60 := hRN.1
  refine lv_aload_n hx hb dX5_poolCost_0 rfl (lv_at hl 0 rfl) ?_
  refine lv_iload_n hx hb dX5_poolCost_1 rfl (lv_at hl 1 rfl) ?_
  refine lv_iload_n hx hb dX5_poolCost_2 rfl (lv_at hl 2 rfl) ?_
  refine mk_goR (st9 := st) (va_runV (As := [.int (iI 0), .int (iI d)]) (rest := []) ⟨hx, hb, hml, hown, hts⟩ (c_X5_ledgerAt_0 l cg D ad st d (by omega)) (cwV 2 hts gX5_poolCost_X5_ledgerAt rfl rfl rfl (by decide +kernel) ⟨Nat.le_of_ble_eq_true rfl, Nat.le_of_ble_eq_true rfl⟩) (mk_preV hK hN hW 0 (by decide) rfl rfl rfl) rfl rfl hl.1 rfl (lv_room (Nat.le_of_ble_eq_true rfl)) dX5_poolCost_3 ⟨Nat.zero_le _, Nat.zero_le _⟩) hW (fun H locs hW => ?_)
  refine mk_getN (ci := 1) (C := RX1) (T := TX1) (N := 4) hx hb hts inX1 hown hK hW 9 (by decide) rfl rfl 2 (by decide) fn123 (fun _ h9 => h9) rfl dX5_poolCost_6 ?_
  refine lv_astore_n (lv' := [(3, .ref (ad 13)), (0, .ref (ad 0)), (1, .int (iI 0)), (2, .int (iI d))]) hx hb dX5_poolCost_9 rfl hl (by decide) rfl (fun ls hl => ?_)
  refine lv_aload_n hx hb dX5_poolCost_10 rfl (lv_at hl 0 rfl) ?_
  refine lv_iload_n hx hb dX5_poolCost_11 rfl (lv_at hl 3 rfl) ?_
  refine mk_goIE (EmbL0 cg ad) (va_runV (As := [.int (iI d)]) (rest := []) ⟨hx, hb, hml, hown, hts⟩ (c_X3_lastRowUpTo l cg D (fun j => ad (embL 0 j)) (sub (embL 0) st) d (lR (sub (embL 0) st)) hG.R hR60 (fun r hr => by have h9 := hRN.2.2.1 r hr; omega) (by omega)) (cwV 1 hts gX5_poolCost_X3_lastRowUpTo rfl rfl rfl (by decide +kernel) ⟨Nat.le_of_ble_eq_true rfl, Nat.le_of_ble_eq_true rfl⟩) (mk_preV hK hN (hW.emb (EmbL0 cg ad)) 4 (by decide) rfl rfl rfl) rfl rfl hl.1 rfl (lv_room (Nat.le_of_ble_eq_true rfl)) dX5_poolCost_12 ⟨Nat.zero_le _, Nat.zero_le _⟩) hW (fun y st1 hp12 H locs hW => ?_)
  obtain ⟨est1, ⟨q, ey, hq1, hq2, hq3⟩⟩ := hp12
  rw [est1, up_self (EmbL0 cg ad).2.1] at hW
  have hcut : cutR (xD st 0) (xR st 0) d q := ⟨hq1, hq2, fun r h1 h2 => by have h3 := hq3 (by have h4 : xR st 0 = lR (sub (embL 0) st) := rfl; omega); rcases Nat.lt_or_ge q r with h4 | h4; have h5 := hRN.2.1 q r h4 h2; exact Int.lt_trans h3 h5; rw [show r = q by omega]; exact h3⟩
  refine lv_istore (lv' := [(4, .int (iI y)), (3, .ref (ad 13)), (0, .ref (ad 0)), (1, .int (iI 0)), (2, .int (iI d))]) hx hb dX5_poolCost_15 hl (by decide) rfl (fun ls hl => ?_)
  refine lv_iload hx hb dX5_poolCost_17 (lv_at hl 0 rfl) ?_
  refine mk_if_ge (tgt := 26) hx hb dX5_poolCost_19 (by decide) (by omega) (fun c_19 => ?_) (fun c_19 => ?_)
  · skip
    obtain ⟨k, ek⟩ : ∃ k : Nat, q = k + 1 := ⟨q - 1, by omega⟩
    have ey2 : y = (k : Int) := by omega
    refine lv_aload_n hx hb dX5_poolCost_26 rfl (lv_at hl 1 rfl) ?_
    refine mk_getN (ci := 3) (C := RX3) (T := TX3) (N := 10) hx hb hts inX3 hown hK hW 13 (by decide) rfl rfl 8 (by decide) fn136 (fun _ h9 => h9) rfl dX5_poolCost_27 ?_
    refine lv_iload hx hb dX5_poolCost_30 (lv_at hl 0 rfl) ?_
    refine mk_sayi (y := ((k : Nat) : Int)) ey2 ?_
    refine mk_iald hx hb hK hW 22 (by decide) rfl 0 rfl (j := k) rfl (by omega) (by decide) dX5_poolCost_32 ?_
    exact mk_retI hx hb hr hlocks hW ⟨rfl, q, hcut, by rw [ek]; exact (hG.2.2.2.2 k (by omega)).2⟩ dX5_poolCost_33
  · skip
    refine mk_iconst hx hb (0) dX5_poolCost_22 ?_
    refine lv_goto (tgt := 33) hx hb dX5_poolCost_23 (by decide) ?_
    exact mk_retI hx hb hr hlocks hW ⟨rfl, q, hcut, by rw [show q = 0 by omega]; rfl⟩ dX5_poolCost_33

set_option maxHeartbeats 4000000 in
set_option maxRecDepth 100000 in
theorem c_X5_costIn_0 (l : Launch) (cg : Nat → ClassId) (D : va_G) (ad : Nat → Nat) (st : Nat → Nat → Int) (b : Nat → Nat → Int) (hX : XI st b) : MI l yX5_costIn wsX5_costIn ({ frames := 1, cells := 0, slots := 0, locals := 40 }) D vwCl (TY cg) 73 (celX cg) ad st [.ref (ad 0), .int (iI 0)] (fun z st1 => st1 = st ∧ z = sm (fun k => if bL b 0 k = true then wB (b 5) (b 4) k else 0) (bN b)) := by
  refine mk_open (cc := cX5_costIn) (maxL := 2) (ret := (some .int)) (by decide) rfl (Nat.le_of_ble_eq_true rfl) ?_
  intro p e s m args below meth c hx hb hml hr hown hts hlocks hK hN hargs ls hl hW
  have hown : s.vm.findClass RX5 = some m.cls := hown
  have hl : lv_has ls 2 [(0, .ref (ad 0)), (1, .int (iI 0))] := hl
  have inX1 : ∀ w ∈ wsX10, w ∈ wsX5_costIn := by decide +kernel
  have fn123 := hN.f (args := args) "GainsReckoner" 123 "GainsReckoner$Ledger" "sheet" "LGainsReckoner$Sheet;" (by decide +kernel)
  have hG := hX.2.2.1 0 (by omega)
  have hRN := hG.RN hX.1 (show 0 < 3 by omega)
  have hlen : (bAA b 0 (xR st 0) (xD st 0)).length ≤ 60 := hG.len hX.1 (show 0 < 3 by omega)
  have hR60 := hRN.1
  refine lv_aload_n hx hb dX5_costIn_0 rfl (lv_at hl 0 rfl) ?_
  refine lv_iload_n hx hb dX5_costIn_1 rfl (lv_at hl 1 rfl) ?_
  refine mk_goR (st9 := st) (va_runV (As := [.int (iI 0)]) (rest := []) ⟨hx, hb, hml, hown, hts⟩ (c_X5_ledgerOf_0 l cg D ad st) (cwV 1 hts gX5_costIn_X5_ledgerOf rfl rfl rfl (by decide +kernel) ⟨Nat.le_of_ble_eq_true rfl, Nat.le_of_ble_eq_true rfl⟩) (mk_preV hK hN hW 0 (by decide) rfl rfl rfl) rfl rfl hl.1 rfl (lv_room (Nat.le_of_ble_eq_true rfl)) dX5_costIn_2 ⟨Nat.zero_le _, Nat.zero_le _⟩) hW (fun H locs hW => ?_)
  refine mk_getN (ci := 1) (C := RX1) (T := TX1) (N := 4) hx hb hts inX1 hown hK hW 9 (by decide) rfl rfl 2 (by decide) fn123 (fun _ h9 => h9) rfl dX5_costIn_5 ?_
  refine mk_goIE (EmbL0 cg ad) (va_runV (As := []) (rest := []) ⟨hx, hb, hml, hown, hts⟩ (c_X3_costOfBuys l cg D (fun j => ad (embL 0 j)) (sub (embL 0) st) (lR (sub (embL 0) st)) hG.R hR60) (cwV 0 hts gX5_costIn_X3_costOfBuys rfl rfl rfl (by decide +kernel) ⟨Nat.le_of_ble_eq_true rfl, Nat.le_of_ble_eq_true rfl⟩) (mk_preV hK hN (hW.emb (EmbL0 cg ad)) 4 (by decide) rfl rfl rfl) rfl rfl hl.1 rfl (lv_room (Nat.le_of_ble_eq_true rfl)) dX5_costIn_8 ⟨Nat.zero_le _, Nat.zero_le _⟩) hW (fun z st1 hp8 H locs hW => ?_)
  obtain ⟨est1, hz⟩ := hp8
  rw [est1, up_self (EmbL0 cg ad).2.1] at hW
  exact mk_retI hx hb hr hlocks hW ⟨rfl, by rw [hz, ← rows_all hG.2.1]; exact sm_congr fun r hr => (hG.2.2.1.2 r hr).2.2.1⟩ dX5_costIn_11

set_option maxHeartbeats 4000000 in
set_option maxRecDepth 100000 in
theorem c_X5_costMatched_0 (l : Launch) (cg : Nat → ClassId) (D : va_G) (ad : Nat → Nat) (st : Nat → Nat → Int) (b : Nat → Nat → Int) (hX : XI st b) : MI l yX5_costMatched wsX5_costMatched ({ frames := 1, cells := 0, slots := 0, locals := 40 }) D vwCl (TY cg) 73 (celX cg) ad st [.ref (ad 0), .int (iI 0)] (fun z st1 => st1 = st ∧ z = lsum mco (bMM b 0 (xR st 0) (xD st 0))) := by
  refine mk_open (cc := cX5_costMatched) (maxL := 2) (ret := (some .int)) (by decide) rfl (Nat.le_of_ble_eq_true rfl) ?_
  intro p e s m args below meth c hx hb hml hr hown hts hlocks hK hN hargs ls hl hW
  have hown : s.vm.findClass RX5 = some m.cls := hown
  have hl : lv_has ls 2 [(0, .ref (ad 0)), (1, .int (iI 0))] := hl
  have inX1 : ∀ w ∈ wsX10, w ∈ wsX5_costMatched := by decide +kernel
  have fn147 := hN.f (args := args) "GainsReckoner" 147 "GainsReckoner$Ledger" "matched" "LGainsReckoner$Matches;" (by decide +kernel)
  have hG := hX.2.2.1 0 (by omega)
  have hRN := hG.RN hX.1 (show 0 < 3 by omega)
  have hlen : (bAA b 0 (xR st 0) (xD st 0)).length ≤ 60 := hG.len hX.1 (show 0 < 3 by omega)
  have hR60 := hRN.1
  refine lv_aload_n hx hb dX5_costMatched_0 rfl (lv_at hl 0 rfl) ?_
  refine lv_iload_n hx hb dX5_costMatched_1 rfl (lv_at hl 1 rfl) ?_
  refine mk_goR (st9 := st) (va_runV (As := [.int (iI 0)]) (rest := []) ⟨hx, hb, hml, hown, hts⟩ (c_X5_ledgerOf_0 l cg D ad st) (cwV 1 hts gX5_costMatched_X5_ledgerOf rfl rfl rfl (by decide +kernel) ⟨Nat.le_of_ble_eq_true rfl, Nat.le_of_ble_eq_true rfl⟩) (mk_preV hK hN hW 0 (by decide) rfl rfl rfl) rfl rfl hl.1 rfl (lv_room (Nat.le_of_ble_eq_true rfl)) dX5_costMatched_2 ⟨Nat.zero_le _, Nat.zero_le _⟩) hW (fun H locs hW => ?_)
  refine mk_getN (ci := 1) (C := RX1) (T := TX1) (N := 4) hx hb hts inX1 hown hK hW 9 (by decide) rfl rfl 3 (by decide) fn147 (fun _ h9 => h9) rfl dX5_costMatched_5 ?_
  refine mk_goIE (EmbL0 cg ad) (va_runV (As := []) (rest := []) ⟨hx, hb, hml, hown, hts⟩ (c_X2_costOfAll l cg D (fun j => ad (embL 0 j)) (sub (embL 0) st) (bAA b 0 (xR st 0) (xD st 0)).length hG.2.2.2.1.1 hlen) (cwV 0 hts gX5_costMatched_X2_costOfAll rfl rfl rfl (by decide +kernel) ⟨Nat.le_of_ble_eq_true rfl, Nat.le_of_ble_eq_true rfl⟩) (mk_preV hK hN (hW.emb (EmbL0 cg ad)) 14 (by decide) rfl rfl rfl) rfl rfl hl.1 rfl (lv_room (Nat.le_of_ble_eq_true rfl)) dX5_costMatched_8 ⟨Nat.zero_le _, Nat.zero_le _⟩) hW (fun z st1 hp8 H locs hW => ?_)
  obtain ⟨est1, hz⟩ := hp8
  rw [est1, up_self (EmbL0 cg ad).2.1] at hW
  exact mk_retI hx hb hr hlocks hW ⟨rfl, by rw [hz]; exact hG.sum fun k x hk => (hG.2.2.2.1.2 k x hk).2.2.2.2.1⟩ dX5_costMatched_11

set_option maxHeartbeats 4000000 in
set_option maxRecDepth 100000 in
theorem c_X5_matches_0 (l : Launch) (cg : Nat → ClassId) (D : va_G) (ad : Nat → Nat) (st : Nat → Nat → Int) (b : Nat → Nat → Int) (hX : XI st b) : MI l yX5_matches wsX5_matches ({ frames := 1, cells := 0, slots := 0, locals := 40 }) D vwCl (TY cg) 73 (celX cg) ad st [.ref (ad 0), .int (iI 0)] (fun z st1 => st1 = st ∧ z = (bAA b 0 (xR st 0) (xD st 0)).length) := by
  refine mk_open (cc := cX5_matches) (maxL := 2) (ret := (some .int)) (by decide) rfl (Nat.le_of_ble_eq_true rfl) ?_
  intro p e s m args below meth c hx hb hml hr hown hts hlocks hK hN hargs ls hl hW
  have hown : s.vm.findClass RX5 = some m.cls := hown
  have hl : lv_has ls 2 [(0, .ref (ad 0)), (1, .int (iI 0))] := hl
  have inX1 : ∀ w ∈ wsX10, w ∈ wsX5_matches := by decide +kernel
  have inX2 : ∀ w ∈ wsX20, w ∈ wsX5_matches := by decide +kernel
  have fn147 := hN.f (args := args) "GainsReckoner" 147 "GainsReckoner$Ledger" "matched" "LGainsReckoner$Matches;" (by decide +kernel)
  have fn156 := hN.f (args := args) "GainsReckoner" 156 "GainsReckoner$Matches" "size" "I" (by decide +kernel)
  have hG := hX.2.2.1 0 (by omega)
  have hRN := hG.RN hX.1 (show 0 < 3 by omega)
  have hlen : (bAA b 0 (xR st 0) (xD st 0)).length ≤ 60 := hG.len hX.1 (show 0 < 3 by omega)
  have hR60 := hRN.1
  refine lv_aload_n hx hb dX5_matches_0 rfl (lv_at hl 0 rfl) ?_
  refine lv_iload_n hx hb dX5_matches_1 rfl (lv_at hl 1 rfl) ?_
  refine mk_goR (st9 := st) (va_runV (As := [.int (iI 0)]) (rest := []) ⟨hx, hb, hml, hown, hts⟩ (c_X5_ledgerOf_0 l cg D ad st) (cwV 1 hts gX5_matches_X5_ledgerOf rfl rfl rfl (by decide +kernel) ⟨Nat.le_of_ble_eq_true rfl, Nat.le_of_ble_eq_true rfl⟩) (mk_preV hK hN hW 0 (by decide) rfl rfl rfl) rfl rfl hl.1 rfl (lv_room (Nat.le_of_ble_eq_true rfl)) dX5_matches_2 ⟨Nat.zero_le _, Nat.zero_le _⟩) hW (fun H locs hW => ?_)
  refine mk_getN (ci := 1) (C := RX1) (T := TX1) (N := 4) hx hb hts inX1 hown hK hW 9 (by decide) rfl rfl 3 (by decide) fn147 (fun _ h9 => h9) rfl dX5_matches_5 ?_
  refine mk_getN (ci := 2) (C := RX2) (T := TX2) (N := 7) hx hb hts inX2 hown hK hW 23 (by decide) rfl rfl 6 (by decide) fn156 (fun _ h9 => h9) rfl dX5_matches_8 ?_
  exact mk_retI hx hb hr hlocks hW ⟨rfl, hG.2.2.2.1.1⟩ dX5_matches_11

set_option maxHeartbeats 4000000 in
set_option maxRecDepth 100000 in
theorem c_X5_holding_1 (l : Launch) (cg : Nat → ClassId) (D : va_G) (ad : Nat → Nat) (st : Nat → Nat → Int) (b : Nat → Nat → Int) (hX : XI st b) (d : Int) (hd : 0 ≤ d ∧ d < 1825) : MI l yX5_holding wsX5_holding ({ frames := 2, cells := 0, slots := 0, locals := 60 }) D vwCl (TY cg) 73 (celX cg) ad st [.ref (ad 0), .int (iI 1), .int (iI d)] (fun z st1 => st1 = st ∧ z = bH b 1 d / fla (bSD b 1) (bSF b 1) (bM b 1) d) := by
  refine mk_open (cc := cX5_holding) (maxL := 3) (ret := (some .int)) (by decide) rfl (Nat.le_of_ble_eq_true rfl) ?_
  intro p e s m args below meth c hx hb hml hr hown hts hlocks hK hN hargs ls hl hW
  have hown : s.vm.findClass RX5 = some m.cls := hown
  have hl : lv_has ls 3 [(0, .ref (ad 0)), (1, .int (iI 1)), (2, .int (iI d))] := hl
  have inX5 : ∀ w ∈ wsX50, w ∈ wsX5_holding := by decide +kernel
  have fl10 := hts (.fieldLink RX5 10 "GainsReckoner" "journal" "LGainsReckoner$Journal;") (by decide +kernel)
  refine lv_aload_n hx hb dX5_holding_0 rfl (lv_at hl 0 rfl) ?_
  refine lv_iload_n hx hb dX5_holding_1 rfl (lv_at hl 1 rfl) ?_
  refine lv_iload_n hx hb dX5_holding_2 rfl (lv_at hl 2 rfl) ?_
  refine mk_goR (st9 := st) (va_runV (As := [.int (iI 1), .int (iI d)]) (rest := []) ⟨hx, hb, hml, hown, hts⟩ (c_X5_ledgerAt_1 l cg D ad st d (by omega)) (cwV 2 hts gX5_holding_X5_ledgerAt rfl rfl rfl (by decide +kernel) ⟨Nat.le_of_ble_eq_true rfl, Nat.le_of_ble_eq_true rfl⟩) (mk_preV hK hN hW 0 (by decide) rfl rfl rfl) rfl rfl hl.1 rfl (lv_room (Nat.le_of_ble_eq_true rfl)) dX5_holding_3 ⟨Nat.zero_le _, Nat.zero_le _⟩) hW (fun H locs hW => ?_)
  refine lv_aload_n hx hb dX5_holding_6 rfl (lv_at hl 0 rfl) ?_
  refine mk_get (ci := 5) (C := RX5) (T := TX5) (N := 4) hx hb hts inX5 hown hK hW 0 (by decide) rfl rfl 0 (by decide) fl10 (fun _ h9 => h9) rfl dX5_holding_7 ?_
  refine lv_iload_n hx hb dX5_holding_10 rfl (lv_at hl 2 rfl) ?_
  refine mk_goIE (EmbL1 cg ad) (va_runV (As := [.ref (ad 1), .int (iI d)]) (rest := []) ⟨hx, hb, hml, hown, hts⟩ (c_X1_heldShares l cg D (fun j => ad (embL 1 j)) (sub (embL 1) st) 1 d (bN b) (bM b 1) (hX.2.1.n hX.1.j) (hX.2.1.J hX.1.j) (hX.2.1.m hX.1.j (show 1 < 3 by omega)) (hX.2.1.S hX.1.j (show 1 < 3 by omega)) (hX.2.2.1 1 (by omega)).1 (by omega) (by omega)) (cwV 2 hts gX5_holding_X1_heldShares rfl rfl rfl (by decide +kernel) ⟨Nat.le_of_ble_eq_true rfl, Nat.le_of_ble_eq_true rfl⟩) (mk_preV hK hN (hW.emb (EmbL1 cg ad)) 0 (by decide) rfl rfl rfl) rfl rfl hl.1 rfl (lv_room (Nat.le_of_ble_eq_true rfl)) dX5_holding_11 ⟨Nat.zero_le _, Nat.zero_le _⟩) hW (fun z st1 hp11 H locs hW => ?_)
  obtain ⟨est1, hz⟩ := hp11
  rw [est1, up_self (EmbL1 cg ad).2.1] at hW
  exact mk_retI hx hb hr hlocks hW ⟨rfl, by rw [bHS_div hX.1 (show 1 < 3 by omega), ← hX.2.1.hs (show 1 < 3 by omega)]; exact hz⟩ dX5_holding_14

set_option maxHeartbeats 4000000 in
set_option maxRecDepth 100000 in
theorem c_X5_poolUnits_1 (l : Launch) (cg : Nat → ClassId) (D : va_G) (ad : Nat → Nat) (st : Nat → Nat → Int) (b : Nat → Nat → Int) (hX : XI st b) (d : Int) (hd : 0 ≤ d ∧ d < 1825) : MI l yX5_poolUnits wsX5_poolUnits ({ frames := 2, cells := 0, slots := 0, locals := 60 }) D vwCl (TY cg) 73 (celX cg) ad st [.ref (ad 0), .int (iI 1), .int (iI d)] (fun z st1 => st1 = st ∧ ∃ q, cutR (xD st 1) (xR st 1) d q ∧ z = bPU b 1 (xR st 1) (xD st 1) q) := by
  refine mk_open (cc := cX5_poolUnits) (maxL := 5) (ret := (some .int)) (by decide) rfl (Nat.le_of_ble_eq_true rfl) ?_
  intro p e s m args below meth c hx hb hml hr hown hts hlocks hK hN hargs ls hl hW
  have hown : s.vm.findClass RX5 = some m.cls := hown
  have hl : lv_has ls 5 [(0, .ref (ad 0)), (1, .int (iI 1)), (2, .int (iI d))] := hl
  have inX1 : ∀ w ∈ wsX10, w ∈ wsX5_poolUnits := by decide +kernel
  have inX3 : ∀ w ∈ wsX30, w ∈ wsX5_poolUnits := by decide +kernel
  have fn123 := hN.f (args := args) "GainsReckoner" 123 "GainsReckoner$Ledger" "sheet" "LGainsReckoner$Sheet;" (by decide +kernel)
  have fn133 := hN.f (args := args) "GainsReckoner" 133 "GainsReckoner$Sheet" "pooledUnits" "[I" (by decide +kernel)
  have hG := hX.2.2.1 1 (by omega)
  have hRN := hG.RN hX.1 (show 1 < 3 by omega)
  have hlen : (bAA b 1 (xR st 1) (xD st 1)).length ≤ 60 := hG.len hX.1 (show 1 < 3 by omega)
  have hR60 := hRN.1
  refine lv_aload_n hx hb dX5_poolUnits_0 rfl (lv_at hl 0 rfl) ?_
  refine lv_iload_n hx hb dX5_poolUnits_1 rfl (lv_at hl 1 rfl) ?_
  refine lv_iload_n hx hb dX5_poolUnits_2 rfl (lv_at hl 2 rfl) ?_
  refine mk_goR (st9 := st) (va_runV (As := [.int (iI 1), .int (iI d)]) (rest := []) ⟨hx, hb, hml, hown, hts⟩ (c_X5_ledgerAt_1 l cg D ad st d (by omega)) (cwV 2 hts gX5_poolUnits_X5_ledgerAt rfl rfl rfl (by decide +kernel) ⟨Nat.le_of_ble_eq_true rfl, Nat.le_of_ble_eq_true rfl⟩) (mk_preV hK hN hW 0 (by decide) rfl rfl rfl) rfl rfl hl.1 rfl (lv_room (Nat.le_of_ble_eq_true rfl)) dX5_poolUnits_3 ⟨Nat.zero_le _, Nat.zero_le _⟩) hW (fun H locs hW => ?_)
  refine mk_getN (ci := 1) (C := RX1) (T := TX1) (N := 4) hx hb hts inX1 hown hK hW 30 (by decide) rfl rfl 2 (by decide) fn123 (fun _ h9 => h9) rfl dX5_poolUnits_6 ?_
  refine lv_astore_n (lv' := [(3, .ref (ad 34)), (0, .ref (ad 0)), (1, .int (iI 1)), (2, .int (iI d))]) hx hb dX5_poolUnits_9 rfl hl (by decide) rfl (fun ls hl => ?_)
  refine lv_aload_n hx hb dX5_poolUnits_10 rfl (lv_at hl 0 rfl) ?_
  refine lv_iload_n hx hb dX5_poolUnits_11 rfl (lv_at hl 3 rfl) ?_
  refine mk_goIE (EmbL1 cg ad) (va_runV (As := [.int (iI d)]) (rest := []) ⟨hx, hb, hml, hown, hts⟩ (c_X3_lastRowUpTo l cg D (fun j => ad (embL 1 j)) (sub (embL 1) st) d (lR (sub (embL 1) st)) hG.R hR60 (fun r hr => by have h9 := hRN.2.2.1 r hr; omega) (by omega)) (cwV 1 hts gX5_poolUnits_X3_lastRowUpTo rfl rfl rfl (by decide +kernel) ⟨Nat.le_of_ble_eq_true rfl, Nat.le_of_ble_eq_true rfl⟩) (mk_preV hK hN (hW.emb (EmbL1 cg ad)) 4 (by decide) rfl rfl rfl) rfl rfl hl.1 rfl (lv_room (Nat.le_of_ble_eq_true rfl)) dX5_poolUnits_12 ⟨Nat.zero_le _, Nat.zero_le _⟩) hW (fun y st1 hp12 H locs hW => ?_)
  obtain ⟨est1, ⟨q, ey, hq1, hq2, hq3⟩⟩ := hp12
  rw [est1, up_self (EmbL1 cg ad).2.1] at hW
  have hcut : cutR (xD st 1) (xR st 1) d q := ⟨hq1, hq2, fun r h1 h2 => by have h3 := hq3 (by have h4 : xR st 1 = lR (sub (embL 1) st) := rfl; omega); rcases Nat.lt_or_ge q r with h4 | h4; have h5 := hRN.2.1 q r h4 h2; exact Int.lt_trans h3 h5; rw [show r = q by omega]; exact h3⟩
  refine lv_istore (lv' := [(4, .int (iI y)), (3, .ref (ad 34)), (0, .ref (ad 0)), (1, .int (iI 1)), (2, .int (iI d))]) hx hb dX5_poolUnits_15 hl (by decide) rfl (fun ls hl => ?_)
  refine lv_iload hx hb dX5_poolUnits_17 (lv_at hl 0 rfl) ?_
  refine mk_if_ge (tgt := 26) hx hb dX5_poolUnits_19 (by decide) (by omega) (fun c_19 => ?_) (fun c_19 => ?_)
  · skip
    obtain ⟨k, ek⟩ : ∃ k : Nat, q = k + 1 := ⟨q - 1, by omega⟩
    have ey2 : y = (k : Int) := by omega
    refine lv_aload_n hx hb dX5_poolUnits_26 rfl (lv_at hl 1 rfl) ?_
    refine mk_getN (ci := 3) (C := RX3) (T := TX3) (N := 10) hx hb hts inX3 hown hK hW 34 (by decide) rfl rfl 7 (by decide) fn133 (fun _ h9 => h9) rfl dX5_poolUnits_27 ?_
    refine lv_iload hx hb dX5_poolUnits_30 (lv_at hl 0 rfl) ?_
    refine mk_sayi (y := ((k : Nat) : Int)) ey2 ?_
    refine mk_iald hx hb hK hW 42 (by decide) rfl 0 rfl (j := k) rfl (by omega) (by decide) dX5_poolUnits_32 ?_
    exact mk_retI hx hb hr hlocks hW ⟨rfl, q, hcut, by rw [ek]; exact (hG.2.2.2.2 k (by omega)).1⟩ dX5_poolUnits_33
  · skip
    refine mk_iconst hx hb (0) dX5_poolUnits_22 ?_
    refine lv_goto (tgt := 33) hx hb dX5_poolUnits_23 (by decide) ?_
    exact mk_retI hx hb hr hlocks hW ⟨rfl, q, hcut, by rw [show q = 0 by omega]; rfl⟩ dX5_poolUnits_33

set_option maxHeartbeats 4000000 in
set_option maxRecDepth 100000 in
theorem c_X5_poolCost_1 (l : Launch) (cg : Nat → ClassId) (D : va_G) (ad : Nat → Nat) (st : Nat → Nat → Int) (b : Nat → Nat → Int) (hX : XI st b) (d : Int) (hd : 0 ≤ d ∧ d < 1825) : MI l yX5_poolCost wsX5_poolCost ({ frames := 2, cells := 0, slots := 0, locals := 60 }) D vwCl (TY cg) 73 (celX cg) ad st [.ref (ad 0), .int (iI 1), .int (iI d)] (fun z st1 => st1 = st ∧ ∃ q, cutR (xD st 1) (xR st 1) d q ∧ z = bPC b 1 (xR st 1) (xD st 1) q) := by
  refine mk_open (cc := cX5_poolCost) (maxL := 5) (ret := (some .int)) (by decide) rfl (Nat.le_of_ble_eq_true rfl) ?_
  intro p e s m args below meth c hx hb hml hr hown hts hlocks hK hN hargs ls hl hW
  have hown : s.vm.findClass RX5 = some m.cls := hown
  have hl : lv_has ls 5 [(0, .ref (ad 0)), (1, .int (iI 1)), (2, .int (iI d))] := hl
  have inX1 : ∀ w ∈ wsX10, w ∈ wsX5_poolCost := by decide +kernel
  have inX3 : ∀ w ∈ wsX30, w ∈ wsX5_poolCost := by decide +kernel
  have fn123 := hN.f (args := args) "GainsReckoner" 123 "GainsReckoner$Ledger" "sheet" "LGainsReckoner$Sheet;" (by decide +kernel)
  have fn136 := hN.f (args := args) "GainsReckoner" 136 "GainsReckoner$Sheet" "pooledCost" "[I" (by decide +kernel)
  have hG := hX.2.2.1 1 (by omega)
  have hRN := hG.RN hX.1 (show 1 < 3 by omega)
  have hlen : (bAA b 1 (xR st 1) (xD st 1)).length ≤ 60 := hG.len hX.1 (show 1 < 3 by omega)
  have hR60 := hRN.1
  refine lv_aload_n hx hb dX5_poolCost_0 rfl (lv_at hl 0 rfl) ?_
  refine lv_iload_n hx hb dX5_poolCost_1 rfl (lv_at hl 1 rfl) ?_
  refine lv_iload_n hx hb dX5_poolCost_2 rfl (lv_at hl 2 rfl) ?_
  refine mk_goR (st9 := st) (va_runV (As := [.int (iI 1), .int (iI d)]) (rest := []) ⟨hx, hb, hml, hown, hts⟩ (c_X5_ledgerAt_1 l cg D ad st d (by omega)) (cwV 2 hts gX5_poolCost_X5_ledgerAt rfl rfl rfl (by decide +kernel) ⟨Nat.le_of_ble_eq_true rfl, Nat.le_of_ble_eq_true rfl⟩) (mk_preV hK hN hW 0 (by decide) rfl rfl rfl) rfl rfl hl.1 rfl (lv_room (Nat.le_of_ble_eq_true rfl)) dX5_poolCost_3 ⟨Nat.zero_le _, Nat.zero_le _⟩) hW (fun H locs hW => ?_)
  refine mk_getN (ci := 1) (C := RX1) (T := TX1) (N := 4) hx hb hts inX1 hown hK hW 30 (by decide) rfl rfl 2 (by decide) fn123 (fun _ h9 => h9) rfl dX5_poolCost_6 ?_
  refine lv_astore_n (lv' := [(3, .ref (ad 34)), (0, .ref (ad 0)), (1, .int (iI 1)), (2, .int (iI d))]) hx hb dX5_poolCost_9 rfl hl (by decide) rfl (fun ls hl => ?_)
  refine lv_aload_n hx hb dX5_poolCost_10 rfl (lv_at hl 0 rfl) ?_
  refine lv_iload_n hx hb dX5_poolCost_11 rfl (lv_at hl 3 rfl) ?_
  refine mk_goIE (EmbL1 cg ad) (va_runV (As := [.int (iI d)]) (rest := []) ⟨hx, hb, hml, hown, hts⟩ (c_X3_lastRowUpTo l cg D (fun j => ad (embL 1 j)) (sub (embL 1) st) d (lR (sub (embL 1) st)) hG.R hR60 (fun r hr => by have h9 := hRN.2.2.1 r hr; omega) (by omega)) (cwV 1 hts gX5_poolCost_X3_lastRowUpTo rfl rfl rfl (by decide +kernel) ⟨Nat.le_of_ble_eq_true rfl, Nat.le_of_ble_eq_true rfl⟩) (mk_preV hK hN (hW.emb (EmbL1 cg ad)) 4 (by decide) rfl rfl rfl) rfl rfl hl.1 rfl (lv_room (Nat.le_of_ble_eq_true rfl)) dX5_poolCost_12 ⟨Nat.zero_le _, Nat.zero_le _⟩) hW (fun y st1 hp12 H locs hW => ?_)
  obtain ⟨est1, ⟨q, ey, hq1, hq2, hq3⟩⟩ := hp12
  rw [est1, up_self (EmbL1 cg ad).2.1] at hW
  have hcut : cutR (xD st 1) (xR st 1) d q := ⟨hq1, hq2, fun r h1 h2 => by have h3 := hq3 (by have h4 : xR st 1 = lR (sub (embL 1) st) := rfl; omega); rcases Nat.lt_or_ge q r with h4 | h4; have h5 := hRN.2.1 q r h4 h2; exact Int.lt_trans h3 h5; rw [show r = q by omega]; exact h3⟩
  refine lv_istore (lv' := [(4, .int (iI y)), (3, .ref (ad 34)), (0, .ref (ad 0)), (1, .int (iI 1)), (2, .int (iI d))]) hx hb dX5_poolCost_15 hl (by decide) rfl (fun ls hl => ?_)
  refine lv_iload hx hb dX5_poolCost_17 (lv_at hl 0 rfl) ?_
  refine mk_if_ge (tgt := 26) hx hb dX5_poolCost_19 (by decide) (by omega) (fun c_19 => ?_) (fun c_19 => ?_)
  · skip
    obtain ⟨k, ek⟩ : ∃ k : Nat, q = k + 1 := ⟨q - 1, by omega⟩
    have ey2 : y = (k : Int) := by omega
    refine lv_aload_n hx hb dX5_poolCost_26 rfl (lv_at hl 1 rfl) ?_
    refine mk_getN (ci := 3) (C := RX3) (T := TX3) (N := 10) hx hb hts inX3 hown hK hW 34 (by decide) rfl rfl 8 (by decide) fn136 (fun _ h9 => h9) rfl dX5_poolCost_27 ?_
    refine lv_iload hx hb dX5_poolCost_30 (lv_at hl 0 rfl) ?_
    refine mk_sayi (y := ((k : Nat) : Int)) ey2 ?_
    refine mk_iald hx hb hK hW 43 (by decide) rfl 0 rfl (j := k) rfl (by omega) (by decide) dX5_poolCost_32 ?_
    exact mk_retI hx hb hr hlocks hW ⟨rfl, q, hcut, by rw [ek]; exact (hG.2.2.2.2 k (by omega)).2⟩ dX5_poolCost_33
  · skip
    refine mk_iconst hx hb (0) dX5_poolCost_22 ?_
    refine lv_goto (tgt := 33) hx hb dX5_poolCost_23 (by decide) ?_
    exact mk_retI hx hb hr hlocks hW ⟨rfl, q, hcut, by rw [show q = 0 by omega]; rfl⟩ dX5_poolCost_33

set_option maxHeartbeats 4000000 in
set_option maxRecDepth 100000 in
theorem c_X5_costIn_1 (l : Launch) (cg : Nat → ClassId) (D : va_G) (ad : Nat → Nat) (st : Nat → Nat → Int) (b : Nat → Nat → Int) (hX : XI st b) : MI l yX5_costIn wsX5_costIn ({ frames := 1, cells := 0, slots := 0, locals := 40 }) D vwCl (TY cg) 73 (celX cg) ad st [.ref (ad 0), .int (iI 1)] (fun z st1 => st1 = st ∧ z = sm (fun k => if bL b 1 k = true then wB (b 5) (b 4) k else 0) (bN b)) := by
  refine mk_open (cc := cX5_costIn) (maxL := 2) (ret := (some .int)) (by decide) rfl (Nat.le_of_ble_eq_true rfl) ?_
  intro p e s m args below meth c hx hb hml hr hown hts hlocks hK hN hargs ls hl hW
  have hown : s.vm.findClass RX5 = some m.cls := hown
  have hl : lv_has ls 2 [(0, .ref (ad 0)), (1, .int (iI 1))] := hl
  have inX1 : ∀ w ∈ wsX10, w ∈ wsX5_costIn := by decide +kernel
  have fn123 := hN.f (args := args) "GainsReckoner" 123 "GainsReckoner$Ledger" "sheet" "LGainsReckoner$Sheet;" (by decide +kernel)
  have hG := hX.2.2.1 1 (by omega)
  have hRN := hG.RN hX.1 (show 1 < 3 by omega)
  have hlen : (bAA b 1 (xR st 1) (xD st 1)).length ≤ 60 := hG.len hX.1 (show 1 < 3 by omega)
  have hR60 := hRN.1
  refine lv_aload_n hx hb dX5_costIn_0 rfl (lv_at hl 0 rfl) ?_
  refine lv_iload_n hx hb dX5_costIn_1 rfl (lv_at hl 1 rfl) ?_
  refine mk_goR (st9 := st) (va_runV (As := [.int (iI 1)]) (rest := []) ⟨hx, hb, hml, hown, hts⟩ (c_X5_ledgerOf_1 l cg D ad st) (cwV 1 hts gX5_costIn_X5_ledgerOf rfl rfl rfl (by decide +kernel) ⟨Nat.le_of_ble_eq_true rfl, Nat.le_of_ble_eq_true rfl⟩) (mk_preV hK hN hW 0 (by decide) rfl rfl rfl) rfl rfl hl.1 rfl (lv_room (Nat.le_of_ble_eq_true rfl)) dX5_costIn_2 ⟨Nat.zero_le _, Nat.zero_le _⟩) hW (fun H locs hW => ?_)
  refine mk_getN (ci := 1) (C := RX1) (T := TX1) (N := 4) hx hb hts inX1 hown hK hW 30 (by decide) rfl rfl 2 (by decide) fn123 (fun _ h9 => h9) rfl dX5_costIn_5 ?_
  refine mk_goIE (EmbL1 cg ad) (va_runV (As := []) (rest := []) ⟨hx, hb, hml, hown, hts⟩ (c_X3_costOfBuys l cg D (fun j => ad (embL 1 j)) (sub (embL 1) st) (lR (sub (embL 1) st)) hG.R hR60) (cwV 0 hts gX5_costIn_X3_costOfBuys rfl rfl rfl (by decide +kernel) ⟨Nat.le_of_ble_eq_true rfl, Nat.le_of_ble_eq_true rfl⟩) (mk_preV hK hN (hW.emb (EmbL1 cg ad)) 4 (by decide) rfl rfl rfl) rfl rfl hl.1 rfl (lv_room (Nat.le_of_ble_eq_true rfl)) dX5_costIn_8 ⟨Nat.zero_le _, Nat.zero_le _⟩) hW (fun z st1 hp8 H locs hW => ?_)
  obtain ⟨est1, hz⟩ := hp8
  rw [est1, up_self (EmbL1 cg ad).2.1] at hW
  exact mk_retI hx hb hr hlocks hW ⟨rfl, by rw [hz, ← rows_all hG.2.1]; exact sm_congr fun r hr => (hG.2.2.1.2 r hr).2.2.1⟩ dX5_costIn_11

set_option maxHeartbeats 4000000 in
set_option maxRecDepth 100000 in
theorem c_X5_costMatched_1 (l : Launch) (cg : Nat → ClassId) (D : va_G) (ad : Nat → Nat) (st : Nat → Nat → Int) (b : Nat → Nat → Int) (hX : XI st b) : MI l yX5_costMatched wsX5_costMatched ({ frames := 1, cells := 0, slots := 0, locals := 40 }) D vwCl (TY cg) 73 (celX cg) ad st [.ref (ad 0), .int (iI 1)] (fun z st1 => st1 = st ∧ z = lsum mco (bMM b 1 (xR st 1) (xD st 1))) := by
  refine mk_open (cc := cX5_costMatched) (maxL := 2) (ret := (some .int)) (by decide) rfl (Nat.le_of_ble_eq_true rfl) ?_
  intro p e s m args below meth c hx hb hml hr hown hts hlocks hK hN hargs ls hl hW
  have hown : s.vm.findClass RX5 = some m.cls := hown
  have hl : lv_has ls 2 [(0, .ref (ad 0)), (1, .int (iI 1))] := hl
  have inX1 : ∀ w ∈ wsX10, w ∈ wsX5_costMatched := by decide +kernel
  have fn147 := hN.f (args := args) "GainsReckoner" 147 "GainsReckoner$Ledger" "matched" "LGainsReckoner$Matches;" (by decide +kernel)
  have hG := hX.2.2.1 1 (by omega)
  have hRN := hG.RN hX.1 (show 1 < 3 by omega)
  have hlen : (bAA b 1 (xR st 1) (xD st 1)).length ≤ 60 := hG.len hX.1 (show 1 < 3 by omega)
  have hR60 := hRN.1
  refine lv_aload_n hx hb dX5_costMatched_0 rfl (lv_at hl 0 rfl) ?_
  refine lv_iload_n hx hb dX5_costMatched_1 rfl (lv_at hl 1 rfl) ?_
  refine mk_goR (st9 := st) (va_runV (As := [.int (iI 1)]) (rest := []) ⟨hx, hb, hml, hown, hts⟩ (c_X5_ledgerOf_1 l cg D ad st) (cwV 1 hts gX5_costMatched_X5_ledgerOf rfl rfl rfl (by decide +kernel) ⟨Nat.le_of_ble_eq_true rfl, Nat.le_of_ble_eq_true rfl⟩) (mk_preV hK hN hW 0 (by decide) rfl rfl rfl) rfl rfl hl.1 rfl (lv_room (Nat.le_of_ble_eq_true rfl)) dX5_costMatched_2 ⟨Nat.zero_le _, Nat.zero_le _⟩) hW (fun H locs hW => ?_)
  refine mk_getN (ci := 1) (C := RX1) (T := TX1) (N := 4) hx hb hts inX1 hown hK hW 30 (by decide) rfl rfl 3 (by decide) fn147 (fun _ h9 => h9) rfl dX5_costMatched_5 ?_
  refine mk_goIE (EmbL1 cg ad) (va_runV (As := []) (rest := []) ⟨hx, hb, hml, hown, hts⟩ (c_X2_costOfAll l cg D (fun j => ad (embL 1 j)) (sub (embL 1) st) (bAA b 1 (xR st 1) (xD st 1)).length hG.2.2.2.1.1 hlen) (cwV 0 hts gX5_costMatched_X2_costOfAll rfl rfl rfl (by decide +kernel) ⟨Nat.le_of_ble_eq_true rfl, Nat.le_of_ble_eq_true rfl⟩) (mk_preV hK hN (hW.emb (EmbL1 cg ad)) 14 (by decide) rfl rfl rfl) rfl rfl hl.1 rfl (lv_room (Nat.le_of_ble_eq_true rfl)) dX5_costMatched_8 ⟨Nat.zero_le _, Nat.zero_le _⟩) hW (fun z st1 hp8 H locs hW => ?_)
  obtain ⟨est1, hz⟩ := hp8
  rw [est1, up_self (EmbL1 cg ad).2.1] at hW
  exact mk_retI hx hb hr hlocks hW ⟨rfl, by rw [hz]; exact hG.sum fun k x hk => (hG.2.2.2.1.2 k x hk).2.2.2.2.1⟩ dX5_costMatched_11

set_option maxHeartbeats 4000000 in
set_option maxRecDepth 100000 in
theorem c_X5_matches_1 (l : Launch) (cg : Nat → ClassId) (D : va_G) (ad : Nat → Nat) (st : Nat → Nat → Int) (b : Nat → Nat → Int) (hX : XI st b) : MI l yX5_matches wsX5_matches ({ frames := 1, cells := 0, slots := 0, locals := 40 }) D vwCl (TY cg) 73 (celX cg) ad st [.ref (ad 0), .int (iI 1)] (fun z st1 => st1 = st ∧ z = (bAA b 1 (xR st 1) (xD st 1)).length) := by
  refine mk_open (cc := cX5_matches) (maxL := 2) (ret := (some .int)) (by decide) rfl (Nat.le_of_ble_eq_true rfl) ?_
  intro p e s m args below meth c hx hb hml hr hown hts hlocks hK hN hargs ls hl hW
  have hown : s.vm.findClass RX5 = some m.cls := hown
  have hl : lv_has ls 2 [(0, .ref (ad 0)), (1, .int (iI 1))] := hl
  have inX1 : ∀ w ∈ wsX10, w ∈ wsX5_matches := by decide +kernel
  have inX2 : ∀ w ∈ wsX20, w ∈ wsX5_matches := by decide +kernel
  have fn147 := hN.f (args := args) "GainsReckoner" 147 "GainsReckoner$Ledger" "matched" "LGainsReckoner$Matches;" (by decide +kernel)
  have fn156 := hN.f (args := args) "GainsReckoner" 156 "GainsReckoner$Matches" "size" "I" (by decide +kernel)
  have hG := hX.2.2.1 1 (by omega)
  have hRN := hG.RN hX.1 (show 1 < 3 by omega)
  have hlen : (bAA b 1 (xR st 1) (xD st 1)).length ≤ 60 := hG.len hX.1 (show 1 < 3 by omega)
  have hR60 := hRN.1
  refine lv_aload_n hx hb dX5_matches_0 rfl (lv_at hl 0 rfl) ?_
  refine lv_iload_n hx hb dX5_matches_1 rfl (lv_at hl 1 rfl) ?_
  refine mk_goR (st9 := st) (va_runV (As := [.int (iI 1)]) (rest := []) ⟨hx, hb, hml, hown, hts⟩ (c_X5_ledgerOf_1 l cg D ad st) (cwV 1 hts gX5_matches_X5_ledgerOf rfl rfl rfl (by decide +kernel) ⟨Nat.le_of_ble_eq_true rfl, Nat.le_of_ble_eq_true rfl⟩) (mk_preV hK hN hW 0 (by decide) rfl rfl rfl) rfl rfl hl.1 rfl (lv_room (Nat.le_of_ble_eq_true rfl)) dX5_matches_2 ⟨Nat.zero_le _, Nat.zero_le _⟩) hW (fun H locs hW => ?_)
  refine mk_getN (ci := 1) (C := RX1) (T := TX1) (N := 4) hx hb hts inX1 hown hK hW 30 (by decide) rfl rfl 3 (by decide) fn147 (fun _ h9 => h9) rfl dX5_matches_5 ?_
  refine mk_getN (ci := 2) (C := RX2) (T := TX2) (N := 7) hx hb hts inX2 hown hK hW 44 (by decide) rfl rfl 6 (by decide) fn156 (fun _ h9 => h9) rfl dX5_matches_8 ?_
  exact mk_retI hx hb hr hlocks hW ⟨rfl, hG.2.2.2.1.1⟩ dX5_matches_11

set_option maxHeartbeats 4000000 in
set_option maxRecDepth 100000 in
theorem c_X5_holding_2 (l : Launch) (cg : Nat → ClassId) (D : va_G) (ad : Nat → Nat) (st : Nat → Nat → Int) (b : Nat → Nat → Int) (hX : XI st b) (d : Int) (hd : 0 ≤ d ∧ d < 1825) : MI l yX5_holding wsX5_holding ({ frames := 2, cells := 0, slots := 0, locals := 60 }) D vwCl (TY cg) 73 (celX cg) ad st [.ref (ad 0), .int (iI 2), .int (iI d)] (fun z st1 => st1 = st ∧ z = bH b 2 d / fla (bSD b 2) (bSF b 2) (bM b 2) d) := by
  refine mk_open (cc := cX5_holding) (maxL := 3) (ret := (some .int)) (by decide) rfl (Nat.le_of_ble_eq_true rfl) ?_
  intro p e s m args below meth c hx hb hml hr hown hts hlocks hK hN hargs ls hl hW
  have hown : s.vm.findClass RX5 = some m.cls := hown
  have hl : lv_has ls 3 [(0, .ref (ad 0)), (1, .int (iI 2)), (2, .int (iI d))] := hl
  have inX5 : ∀ w ∈ wsX50, w ∈ wsX5_holding := by decide +kernel
  have fl10 := hts (.fieldLink RX5 10 "GainsReckoner" "journal" "LGainsReckoner$Journal;") (by decide +kernel)
  refine lv_aload_n hx hb dX5_holding_0 rfl (lv_at hl 0 rfl) ?_
  refine lv_iload_n hx hb dX5_holding_1 rfl (lv_at hl 1 rfl) ?_
  refine lv_iload_n hx hb dX5_holding_2 rfl (lv_at hl 2 rfl) ?_
  refine mk_goR (st9 := st) (va_runV (As := [.int (iI 2), .int (iI d)]) (rest := []) ⟨hx, hb, hml, hown, hts⟩ (c_X5_ledgerAt_2 l cg D ad st d (by omega)) (cwV 2 hts gX5_holding_X5_ledgerAt rfl rfl rfl (by decide +kernel) ⟨Nat.le_of_ble_eq_true rfl, Nat.le_of_ble_eq_true rfl⟩) (mk_preV hK hN hW 0 (by decide) rfl rfl rfl) rfl rfl hl.1 rfl (lv_room (Nat.le_of_ble_eq_true rfl)) dX5_holding_3 ⟨Nat.zero_le _, Nat.zero_le _⟩) hW (fun H locs hW => ?_)
  refine lv_aload_n hx hb dX5_holding_6 rfl (lv_at hl 0 rfl) ?_
  refine mk_get (ci := 5) (C := RX5) (T := TX5) (N := 4) hx hb hts inX5 hown hK hW 0 (by decide) rfl rfl 0 (by decide) fl10 (fun _ h9 => h9) rfl dX5_holding_7 ?_
  refine lv_iload_n hx hb dX5_holding_10 rfl (lv_at hl 2 rfl) ?_
  refine mk_goIE (EmbL2 cg ad) (va_runV (As := [.ref (ad 1), .int (iI d)]) (rest := []) ⟨hx, hb, hml, hown, hts⟩ (c_X1_heldShares l cg D (fun j => ad (embL 2 j)) (sub (embL 2) st) 2 d (bN b) (bM b 2) (hX.2.1.n hX.1.j) (hX.2.1.J hX.1.j) (hX.2.1.m hX.1.j (show 2 < 3 by omega)) (hX.2.1.S hX.1.j (show 2 < 3 by omega)) (hX.2.2.1 2 (by omega)).1 (by omega) (by omega)) (cwV 2 hts gX5_holding_X1_heldShares rfl rfl rfl (by decide +kernel) ⟨Nat.le_of_ble_eq_true rfl, Nat.le_of_ble_eq_true rfl⟩) (mk_preV hK hN (hW.emb (EmbL2 cg ad)) 0 (by decide) rfl rfl rfl) rfl rfl hl.1 rfl (lv_room (Nat.le_of_ble_eq_true rfl)) dX5_holding_11 ⟨Nat.zero_le _, Nat.zero_le _⟩) hW (fun z st1 hp11 H locs hW => ?_)
  obtain ⟨est1, hz⟩ := hp11
  rw [est1, up_self (EmbL2 cg ad).2.1] at hW
  exact mk_retI hx hb hr hlocks hW ⟨rfl, by rw [bHS_div hX.1 (show 2 < 3 by omega), ← hX.2.1.hs (show 2 < 3 by omega)]; exact hz⟩ dX5_holding_14

set_option maxHeartbeats 4000000 in
set_option maxRecDepth 100000 in
theorem c_X5_poolUnits_2 (l : Launch) (cg : Nat → ClassId) (D : va_G) (ad : Nat → Nat) (st : Nat → Nat → Int) (b : Nat → Nat → Int) (hX : XI st b) (d : Int) (hd : 0 ≤ d ∧ d < 1825) : MI l yX5_poolUnits wsX5_poolUnits ({ frames := 2, cells := 0, slots := 0, locals := 60 }) D vwCl (TY cg) 73 (celX cg) ad st [.ref (ad 0), .int (iI 2), .int (iI d)] (fun z st1 => st1 = st ∧ ∃ q, cutR (xD st 2) (xR st 2) d q ∧ z = bPU b 2 (xR st 2) (xD st 2) q) := by
  refine mk_open (cc := cX5_poolUnits) (maxL := 5) (ret := (some .int)) (by decide) rfl (Nat.le_of_ble_eq_true rfl) ?_
  intro p e s m args below meth c hx hb hml hr hown hts hlocks hK hN hargs ls hl hW
  have hown : s.vm.findClass RX5 = some m.cls := hown
  have hl : lv_has ls 5 [(0, .ref (ad 0)), (1, .int (iI 2)), (2, .int (iI d))] := hl
  have inX1 : ∀ w ∈ wsX10, w ∈ wsX5_poolUnits := by decide +kernel
  have inX3 : ∀ w ∈ wsX30, w ∈ wsX5_poolUnits := by decide +kernel
  have fn123 := hN.f (args := args) "GainsReckoner" 123 "GainsReckoner$Ledger" "sheet" "LGainsReckoner$Sheet;" (by decide +kernel)
  have fn133 := hN.f (args := args) "GainsReckoner" 133 "GainsReckoner$Sheet" "pooledUnits" "[I" (by decide +kernel)
  have hG := hX.2.2.1 2 (by omega)
  have hRN := hG.RN hX.1 (show 2 < 3 by omega)
  have hlen : (bAA b 2 (xR st 2) (xD st 2)).length ≤ 60 := hG.len hX.1 (show 2 < 3 by omega)
  have hR60 := hRN.1
  refine lv_aload_n hx hb dX5_poolUnits_0 rfl (lv_at hl 0 rfl) ?_
  refine lv_iload_n hx hb dX5_poolUnits_1 rfl (lv_at hl 1 rfl) ?_
  refine lv_iload_n hx hb dX5_poolUnits_2 rfl (lv_at hl 2 rfl) ?_
  refine mk_goR (st9 := st) (va_runV (As := [.int (iI 2), .int (iI d)]) (rest := []) ⟨hx, hb, hml, hown, hts⟩ (c_X5_ledgerAt_2 l cg D ad st d (by omega)) (cwV 2 hts gX5_poolUnits_X5_ledgerAt rfl rfl rfl (by decide +kernel) ⟨Nat.le_of_ble_eq_true rfl, Nat.le_of_ble_eq_true rfl⟩) (mk_preV hK hN hW 0 (by decide) rfl rfl rfl) rfl rfl hl.1 rfl (lv_room (Nat.le_of_ble_eq_true rfl)) dX5_poolUnits_3 ⟨Nat.zero_le _, Nat.zero_le _⟩) hW (fun H locs hW => ?_)
  refine mk_getN (ci := 1) (C := RX1) (T := TX1) (N := 4) hx hb hts inX1 hown hK hW 51 (by decide) rfl rfl 2 (by decide) fn123 (fun _ h9 => h9) rfl dX5_poolUnits_6 ?_
  refine lv_astore_n (lv' := [(3, .ref (ad 55)), (0, .ref (ad 0)), (1, .int (iI 2)), (2, .int (iI d))]) hx hb dX5_poolUnits_9 rfl hl (by decide) rfl (fun ls hl => ?_)
  refine lv_aload_n hx hb dX5_poolUnits_10 rfl (lv_at hl 0 rfl) ?_
  refine lv_iload_n hx hb dX5_poolUnits_11 rfl (lv_at hl 3 rfl) ?_
  refine mk_goIE (EmbL2 cg ad) (va_runV (As := [.int (iI d)]) (rest := []) ⟨hx, hb, hml, hown, hts⟩ (c_X3_lastRowUpTo l cg D (fun j => ad (embL 2 j)) (sub (embL 2) st) d (lR (sub (embL 2) st)) hG.R hR60 (fun r hr => by have h9 := hRN.2.2.1 r hr; omega) (by omega)) (cwV 1 hts gX5_poolUnits_X3_lastRowUpTo rfl rfl rfl (by decide +kernel) ⟨Nat.le_of_ble_eq_true rfl, Nat.le_of_ble_eq_true rfl⟩) (mk_preV hK hN (hW.emb (EmbL2 cg ad)) 4 (by decide) rfl rfl rfl) rfl rfl hl.1 rfl (lv_room (Nat.le_of_ble_eq_true rfl)) dX5_poolUnits_12 ⟨Nat.zero_le _, Nat.zero_le _⟩) hW (fun y st1 hp12 H locs hW => ?_)
  obtain ⟨est1, ⟨q, ey, hq1, hq2, hq3⟩⟩ := hp12
  rw [est1, up_self (EmbL2 cg ad).2.1] at hW
  have hcut : cutR (xD st 2) (xR st 2) d q := ⟨hq1, hq2, fun r h1 h2 => by have h3 := hq3 (by have h4 : xR st 2 = lR (sub (embL 2) st) := rfl; omega); rcases Nat.lt_or_ge q r with h4 | h4; have h5 := hRN.2.1 q r h4 h2; exact Int.lt_trans h3 h5; rw [show r = q by omega]; exact h3⟩
  refine lv_istore (lv' := [(4, .int (iI y)), (3, .ref (ad 55)), (0, .ref (ad 0)), (1, .int (iI 2)), (2, .int (iI d))]) hx hb dX5_poolUnits_15 hl (by decide) rfl (fun ls hl => ?_)
  refine lv_iload hx hb dX5_poolUnits_17 (lv_at hl 0 rfl) ?_
  refine mk_if_ge (tgt := 26) hx hb dX5_poolUnits_19 (by decide) (by omega) (fun c_19 => ?_) (fun c_19 => ?_)
  · skip
    obtain ⟨k, ek⟩ : ∃ k : Nat, q = k + 1 := ⟨q - 1, by omega⟩
    have ey2 : y = (k : Int) := by omega
    refine lv_aload_n hx hb dX5_poolUnits_26 rfl (lv_at hl 1 rfl) ?_
    refine mk_getN (ci := 3) (C := RX3) (T := TX3) (N := 10) hx hb hts inX3 hown hK hW 55 (by decide) rfl rfl 7 (by decide) fn133 (fun _ h9 => h9) rfl dX5_poolUnits_27 ?_
    refine lv_iload hx hb dX5_poolUnits_30 (lv_at hl 0 rfl) ?_
    refine mk_sayi (y := ((k : Nat) : Int)) ey2 ?_
    refine mk_iald hx hb hK hW 63 (by decide) rfl 0 rfl (j := k) rfl (by omega) (by decide) dX5_poolUnits_32 ?_
    exact mk_retI hx hb hr hlocks hW ⟨rfl, q, hcut, by rw [ek]; exact (hG.2.2.2.2 k (by omega)).1⟩ dX5_poolUnits_33
  · skip
    refine mk_iconst hx hb (0) dX5_poolUnits_22 ?_
    refine lv_goto (tgt := 33) hx hb dX5_poolUnits_23 (by decide) ?_
    exact mk_retI hx hb hr hlocks hW ⟨rfl, q, hcut, by rw [show q = 0 by omega]; rfl⟩ dX5_poolUnits_33

set_option maxHeartbeats 4000000 in
set_option maxRecDepth 100000 in
theorem c_X5_poolCost_2 (l : Launch) (cg : Nat → ClassId) (D : va_G) (ad : Nat → Nat) (st : Nat → Nat → Int) (b : Nat → Nat → Int) (hX : XI st b) (d : Int) (hd : 0 ≤ d ∧ d < 1825) : MI l yX5_poolCost wsX5_poolCost ({ frames := 2, cells := 0, slots := 0, locals := 60 }) D vwCl (TY cg) 73 (celX cg) ad st [.ref (ad 0), .int (iI 2), .int (iI d)] (fun z st1 => st1 = st ∧ ∃ q, cutR (xD st 2) (xR st 2) d q ∧ z = bPC b 2 (xR st 2) (xD st 2) q) := by
  refine mk_open (cc := cX5_poolCost) (maxL := 5) (ret := (some .int)) (by decide) rfl (Nat.le_of_ble_eq_true rfl) ?_
  intro p e s m args below meth c hx hb hml hr hown hts hlocks hK hN hargs ls hl hW
  have hown : s.vm.findClass RX5 = some m.cls := hown
  have hl : lv_has ls 5 [(0, .ref (ad 0)), (1, .int (iI 2)), (2, .int (iI d))] := hl
  have inX1 : ∀ w ∈ wsX10, w ∈ wsX5_poolCost := by decide +kernel
  have inX3 : ∀ w ∈ wsX30, w ∈ wsX5_poolCost := by decide +kernel
  have fn123 := hN.f (args := args) "GainsReckoner" 123 "GainsReckoner$Ledger" "sheet" "LGainsReckoner$Sheet;" (by decide +kernel)
  have fn136 := hN.f (args := args) "GainsReckoner" 136 "GainsReckoner$Sheet" "pooledCost" "[I" (by decide +kernel)
  have hG := hX.2.2.1 2 (by omega)
  have hRN := hG.RN hX.1 (show 2 < 3 by omega)
  have hlen : (bAA b 2 (xR st 2) (xD st 2)).length ≤ 60 := hG.len hX.1 (show 2 < 3 by omega)
  have hR60 := hRN.1
  refine lv_aload_n hx hb dX5_poolCost_0 rfl (lv_at hl 0 rfl) ?_
  refine lv_iload_n hx hb dX5_poolCost_1 rfl (lv_at hl 1 rfl) ?_
  refine lv_iload_n hx hb dX5_poolCost_2 rfl (lv_at hl 2 rfl) ?_
  refine mk_goR (st9 := st) (va_runV (As := [.int (iI 2), .int (iI d)]) (rest := []) ⟨hx, hb, hml, hown, hts⟩ (c_X5_ledgerAt_2 l cg D ad st d (by omega)) (cwV 2 hts gX5_poolCost_X5_ledgerAt rfl rfl rfl (by decide +kernel) ⟨Nat.le_of_ble_eq_true rfl, Nat.le_of_ble_eq_true rfl⟩) (mk_preV hK hN hW 0 (by decide) rfl rfl rfl) rfl rfl hl.1 rfl (lv_room (Nat.le_of_ble_eq_true rfl)) dX5_poolCost_3 ⟨Nat.zero_le _, Nat.zero_le _⟩) hW (fun H locs hW => ?_)
  refine mk_getN (ci := 1) (C := RX1) (T := TX1) (N := 4) hx hb hts inX1 hown hK hW 51 (by decide) rfl rfl 2 (by decide) fn123 (fun _ h9 => h9) rfl dX5_poolCost_6 ?_
  refine lv_astore_n (lv' := [(3, .ref (ad 55)), (0, .ref (ad 0)), (1, .int (iI 2)), (2, .int (iI d))]) hx hb dX5_poolCost_9 rfl hl (by decide) rfl (fun ls hl => ?_)
  refine lv_aload_n hx hb dX5_poolCost_10 rfl (lv_at hl 0 rfl) ?_
  refine lv_iload_n hx hb dX5_poolCost_11 rfl (lv_at hl 3 rfl) ?_
  refine mk_goIE (EmbL2 cg ad) (va_runV (As := [.int (iI d)]) (rest := []) ⟨hx, hb, hml, hown, hts⟩ (c_X3_lastRowUpTo l cg D (fun j => ad (embL 2 j)) (sub (embL 2) st) d (lR (sub (embL 2) st)) hG.R hR60 (fun r hr => by have h9 := hRN.2.2.1 r hr; omega) (by omega)) (cwV 1 hts gX5_poolCost_X3_lastRowUpTo rfl rfl rfl (by decide +kernel) ⟨Nat.le_of_ble_eq_true rfl, Nat.le_of_ble_eq_true rfl⟩) (mk_preV hK hN (hW.emb (EmbL2 cg ad)) 4 (by decide) rfl rfl rfl) rfl rfl hl.1 rfl (lv_room (Nat.le_of_ble_eq_true rfl)) dX5_poolCost_12 ⟨Nat.zero_le _, Nat.zero_le _⟩) hW (fun y st1 hp12 H locs hW => ?_)
  obtain ⟨est1, ⟨q, ey, hq1, hq2, hq3⟩⟩ := hp12
  rw [est1, up_self (EmbL2 cg ad).2.1] at hW
  have hcut : cutR (xD st 2) (xR st 2) d q := ⟨hq1, hq2, fun r h1 h2 => by have h3 := hq3 (by have h4 : xR st 2 = lR (sub (embL 2) st) := rfl; omega); rcases Nat.lt_or_ge q r with h4 | h4; have h5 := hRN.2.1 q r h4 h2; exact Int.lt_trans h3 h5; rw [show r = q by omega]; exact h3⟩
  refine lv_istore (lv' := [(4, .int (iI y)), (3, .ref (ad 55)), (0, .ref (ad 0)), (1, .int (iI 2)), (2, .int (iI d))]) hx hb dX5_poolCost_15 hl (by decide) rfl (fun ls hl => ?_)
  refine lv_iload hx hb dX5_poolCost_17 (lv_at hl 0 rfl) ?_
  refine mk_if_ge (tgt := 26) hx hb dX5_poolCost_19 (by decide) (by omega) (fun c_19 => ?_) (fun c_19 => ?_)
  · skip
    obtain ⟨k, ek⟩ : ∃ k : Nat, q = k + 1 := ⟨q - 1, by omega⟩
    have ey2 : y = (k : Int) := by omega
    refine lv_aload_n hx hb dX5_poolCost_26 rfl (lv_at hl 1 rfl) ?_
    refine mk_getN (ci := 3) (C := RX3) (T := TX3) (N := 10) hx hb hts inX3 hown hK hW 55 (by decide) rfl rfl 8 (by decide) fn136 (fun _ h9 => h9) rfl dX5_poolCost_27 ?_
    refine lv_iload hx hb dX5_poolCost_30 (lv_at hl 0 rfl) ?_
    refine mk_sayi (y := ((k : Nat) : Int)) ey2 ?_
    refine mk_iald hx hb hK hW 64 (by decide) rfl 0 rfl (j := k) rfl (by omega) (by decide) dX5_poolCost_32 ?_
    exact mk_retI hx hb hr hlocks hW ⟨rfl, q, hcut, by rw [ek]; exact (hG.2.2.2.2 k (by omega)).2⟩ dX5_poolCost_33
  · skip
    refine mk_iconst hx hb (0) dX5_poolCost_22 ?_
    refine lv_goto (tgt := 33) hx hb dX5_poolCost_23 (by decide) ?_
    exact mk_retI hx hb hr hlocks hW ⟨rfl, q, hcut, by rw [show q = 0 by omega]; rfl⟩ dX5_poolCost_33

set_option maxHeartbeats 4000000 in
set_option maxRecDepth 100000 in
theorem c_X5_costIn_2 (l : Launch) (cg : Nat → ClassId) (D : va_G) (ad : Nat → Nat) (st : Nat → Nat → Int) (b : Nat → Nat → Int) (hX : XI st b) : MI l yX5_costIn wsX5_costIn ({ frames := 1, cells := 0, slots := 0, locals := 40 }) D vwCl (TY cg) 73 (celX cg) ad st [.ref (ad 0), .int (iI 2)] (fun z st1 => st1 = st ∧ z = sm (fun k => if bL b 2 k = true then wB (b 5) (b 4) k else 0) (bN b)) := by
  refine mk_open (cc := cX5_costIn) (maxL := 2) (ret := (some .int)) (by decide) rfl (Nat.le_of_ble_eq_true rfl) ?_
  intro p e s m args below meth c hx hb hml hr hown hts hlocks hK hN hargs ls hl hW
  have hown : s.vm.findClass RX5 = some m.cls := hown
  have hl : lv_has ls 2 [(0, .ref (ad 0)), (1, .int (iI 2))] := hl
  have inX1 : ∀ w ∈ wsX10, w ∈ wsX5_costIn := by decide +kernel
  have fn123 := hN.f (args := args) "GainsReckoner" 123 "GainsReckoner$Ledger" "sheet" "LGainsReckoner$Sheet;" (by decide +kernel)
  have hG := hX.2.2.1 2 (by omega)
  have hRN := hG.RN hX.1 (show 2 < 3 by omega)
  have hlen : (bAA b 2 (xR st 2) (xD st 2)).length ≤ 60 := hG.len hX.1 (show 2 < 3 by omega)
  have hR60 := hRN.1
  refine lv_aload_n hx hb dX5_costIn_0 rfl (lv_at hl 0 rfl) ?_
  refine lv_iload_n hx hb dX5_costIn_1 rfl (lv_at hl 1 rfl) ?_
  refine mk_goR (st9 := st) (va_runV (As := [.int (iI 2)]) (rest := []) ⟨hx, hb, hml, hown, hts⟩ (c_X5_ledgerOf_2 l cg D ad st) (cwV 1 hts gX5_costIn_X5_ledgerOf rfl rfl rfl (by decide +kernel) ⟨Nat.le_of_ble_eq_true rfl, Nat.le_of_ble_eq_true rfl⟩) (mk_preV hK hN hW 0 (by decide) rfl rfl rfl) rfl rfl hl.1 rfl (lv_room (Nat.le_of_ble_eq_true rfl)) dX5_costIn_2 ⟨Nat.zero_le _, Nat.zero_le _⟩) hW (fun H locs hW => ?_)
  refine mk_getN (ci := 1) (C := RX1) (T := TX1) (N := 4) hx hb hts inX1 hown hK hW 51 (by decide) rfl rfl 2 (by decide) fn123 (fun _ h9 => h9) rfl dX5_costIn_5 ?_
  refine mk_goIE (EmbL2 cg ad) (va_runV (As := []) (rest := []) ⟨hx, hb, hml, hown, hts⟩ (c_X3_costOfBuys l cg D (fun j => ad (embL 2 j)) (sub (embL 2) st) (lR (sub (embL 2) st)) hG.R hR60) (cwV 0 hts gX5_costIn_X3_costOfBuys rfl rfl rfl (by decide +kernel) ⟨Nat.le_of_ble_eq_true rfl, Nat.le_of_ble_eq_true rfl⟩) (mk_preV hK hN (hW.emb (EmbL2 cg ad)) 4 (by decide) rfl rfl rfl) rfl rfl hl.1 rfl (lv_room (Nat.le_of_ble_eq_true rfl)) dX5_costIn_8 ⟨Nat.zero_le _, Nat.zero_le _⟩) hW (fun z st1 hp8 H locs hW => ?_)
  obtain ⟨est1, hz⟩ := hp8
  rw [est1, up_self (EmbL2 cg ad).2.1] at hW
  exact mk_retI hx hb hr hlocks hW ⟨rfl, by rw [hz, ← rows_all hG.2.1]; exact sm_congr fun r hr => (hG.2.2.1.2 r hr).2.2.1⟩ dX5_costIn_11

set_option maxHeartbeats 4000000 in
set_option maxRecDepth 100000 in
theorem c_X5_costMatched_2 (l : Launch) (cg : Nat → ClassId) (D : va_G) (ad : Nat → Nat) (st : Nat → Nat → Int) (b : Nat → Nat → Int) (hX : XI st b) : MI l yX5_costMatched wsX5_costMatched ({ frames := 1, cells := 0, slots := 0, locals := 40 }) D vwCl (TY cg) 73 (celX cg) ad st [.ref (ad 0), .int (iI 2)] (fun z st1 => st1 = st ∧ z = lsum mco (bMM b 2 (xR st 2) (xD st 2))) := by
  refine mk_open (cc := cX5_costMatched) (maxL := 2) (ret := (some .int)) (by decide) rfl (Nat.le_of_ble_eq_true rfl) ?_
  intro p e s m args below meth c hx hb hml hr hown hts hlocks hK hN hargs ls hl hW
  have hown : s.vm.findClass RX5 = some m.cls := hown
  have hl : lv_has ls 2 [(0, .ref (ad 0)), (1, .int (iI 2))] := hl
  have inX1 : ∀ w ∈ wsX10, w ∈ wsX5_costMatched := by decide +kernel
  have fn147 := hN.f (args := args) "GainsReckoner" 147 "GainsReckoner$Ledger" "matched" "LGainsReckoner$Matches;" (by decide +kernel)
  have hG := hX.2.2.1 2 (by omega)
  have hRN := hG.RN hX.1 (show 2 < 3 by omega)
  have hlen : (bAA b 2 (xR st 2) (xD st 2)).length ≤ 60 := hG.len hX.1 (show 2 < 3 by omega)
  have hR60 := hRN.1
  refine lv_aload_n hx hb dX5_costMatched_0 rfl (lv_at hl 0 rfl) ?_
  refine lv_iload_n hx hb dX5_costMatched_1 rfl (lv_at hl 1 rfl) ?_
  refine mk_goR (st9 := st) (va_runV (As := [.int (iI 2)]) (rest := []) ⟨hx, hb, hml, hown, hts⟩ (c_X5_ledgerOf_2 l cg D ad st) (cwV 1 hts gX5_costMatched_X5_ledgerOf rfl rfl rfl (by decide +kernel) ⟨Nat.le_of_ble_eq_true rfl, Nat.le_of_ble_eq_true rfl⟩) (mk_preV hK hN hW 0 (by decide) rfl rfl rfl) rfl rfl hl.1 rfl (lv_room (Nat.le_of_ble_eq_true rfl)) dX5_costMatched_2 ⟨Nat.zero_le _, Nat.zero_le _⟩) hW (fun H locs hW => ?_)
  refine mk_getN (ci := 1) (C := RX1) (T := TX1) (N := 4) hx hb hts inX1 hown hK hW 51 (by decide) rfl rfl 3 (by decide) fn147 (fun _ h9 => h9) rfl dX5_costMatched_5 ?_
  refine mk_goIE (EmbL2 cg ad) (va_runV (As := []) (rest := []) ⟨hx, hb, hml, hown, hts⟩ (c_X2_costOfAll l cg D (fun j => ad (embL 2 j)) (sub (embL 2) st) (bAA b 2 (xR st 2) (xD st 2)).length hG.2.2.2.1.1 hlen) (cwV 0 hts gX5_costMatched_X2_costOfAll rfl rfl rfl (by decide +kernel) ⟨Nat.le_of_ble_eq_true rfl, Nat.le_of_ble_eq_true rfl⟩) (mk_preV hK hN (hW.emb (EmbL2 cg ad)) 14 (by decide) rfl rfl rfl) rfl rfl hl.1 rfl (lv_room (Nat.le_of_ble_eq_true rfl)) dX5_costMatched_8 ⟨Nat.zero_le _, Nat.zero_le _⟩) hW (fun z st1 hp8 H locs hW => ?_)
  obtain ⟨est1, hz⟩ := hp8
  rw [est1, up_self (EmbL2 cg ad).2.1] at hW
  exact mk_retI hx hb hr hlocks hW ⟨rfl, by rw [hz]; exact hG.sum fun k x hk => (hG.2.2.2.1.2 k x hk).2.2.2.2.1⟩ dX5_costMatched_11

set_option maxHeartbeats 4000000 in
set_option maxRecDepth 100000 in
theorem c_X5_matches_2 (l : Launch) (cg : Nat → ClassId) (D : va_G) (ad : Nat → Nat) (st : Nat → Nat → Int) (b : Nat → Nat → Int) (hX : XI st b) : MI l yX5_matches wsX5_matches ({ frames := 1, cells := 0, slots := 0, locals := 40 }) D vwCl (TY cg) 73 (celX cg) ad st [.ref (ad 0), .int (iI 2)] (fun z st1 => st1 = st ∧ z = (bAA b 2 (xR st 2) (xD st 2)).length) := by
  refine mk_open (cc := cX5_matches) (maxL := 2) (ret := (some .int)) (by decide) rfl (Nat.le_of_ble_eq_true rfl) ?_
  intro p e s m args below meth c hx hb hml hr hown hts hlocks hK hN hargs ls hl hW
  have hown : s.vm.findClass RX5 = some m.cls := hown
  have hl : lv_has ls 2 [(0, .ref (ad 0)), (1, .int (iI 2))] := hl
  have inX1 : ∀ w ∈ wsX10, w ∈ wsX5_matches := by decide +kernel
  have inX2 : ∀ w ∈ wsX20, w ∈ wsX5_matches := by decide +kernel
  have fn147 := hN.f (args := args) "GainsReckoner" 147 "GainsReckoner$Ledger" "matched" "LGainsReckoner$Matches;" (by decide +kernel)
  have fn156 := hN.f (args := args) "GainsReckoner" 156 "GainsReckoner$Matches" "size" "I" (by decide +kernel)
  have hG := hX.2.2.1 2 (by omega)
  have hRN := hG.RN hX.1 (show 2 < 3 by omega)
  have hlen : (bAA b 2 (xR st 2) (xD st 2)).length ≤ 60 := hG.len hX.1 (show 2 < 3 by omega)
  have hR60 := hRN.1
  refine lv_aload_n hx hb dX5_matches_0 rfl (lv_at hl 0 rfl) ?_
  refine lv_iload_n hx hb dX5_matches_1 rfl (lv_at hl 1 rfl) ?_
  refine mk_goR (st9 := st) (va_runV (As := [.int (iI 2)]) (rest := []) ⟨hx, hb, hml, hown, hts⟩ (c_X5_ledgerOf_2 l cg D ad st) (cwV 1 hts gX5_matches_X5_ledgerOf rfl rfl rfl (by decide +kernel) ⟨Nat.le_of_ble_eq_true rfl, Nat.le_of_ble_eq_true rfl⟩) (mk_preV hK hN hW 0 (by decide) rfl rfl rfl) rfl rfl hl.1 rfl (lv_room (Nat.le_of_ble_eq_true rfl)) dX5_matches_2 ⟨Nat.zero_le _, Nat.zero_le _⟩) hW (fun H locs hW => ?_)
  refine mk_getN (ci := 1) (C := RX1) (T := TX1) (N := 4) hx hb hts inX1 hown hK hW 51 (by decide) rfl rfl 3 (by decide) fn147 (fun _ h9 => h9) rfl dX5_matches_5 ?_
  refine mk_getN (ci := 2) (C := RX2) (T := TX2) (N := 7) hx hb hts inX2 hown hK hW 65 (by decide) rfl rfl 6 (by decide) fn156 (fun _ h9 => h9) rfl dX5_matches_8 ?_
  exact mk_retI hx hb hr hlocks hW ⟨rfl, hG.2.2.2.1.1⟩ dX5_matches_11

set_option maxHeartbeats 4000000 in
set_option maxRecDepth 100000 in
theorem c_X5_kindOf_0 (l : Launch) (cg : Nat → ClassId) (D : va_G) (ad : Nat → Nat) (st : Nat → Nat → Int) (b : Nat → Nat → Int) (hX : XI st b) (pl : Int) (hpl : 0 ≤ pl ∧ pl < (bAA b 0 (xR st 0) (xD st 0)).length) : MI l yX5_kindOf wsX5_kindOf ({ frames := 2, cells := 0, slots := 0, locals := 46 }) D vwCl (TY cg) 73 (celX cg) ad st [.ref (ad 0), .int (iI 0), .int (iI pl)] (fun z st1 => st1 = st ∧ ∃ x, (bAA b 0 (xR st 0) (xD st 0))[pl.toNat]? = some x ∧ z = x.2.2.1) := by
  refine mk_open (cc := cX5_kindOf) (maxL := 3) (ret := (some .int)) (by decide) rfl (Nat.le_of_ble_eq_true rfl) ?_
  intro p e s m args below meth c hx hb hml hr hown hts hlocks hK hN hargs ls hl hW
  have hown : s.vm.findClass RX5 = some m.cls := hown
  have hl : lv_has ls 3 [(0, .ref (ad 0)), (1, .int (iI 0)), (2, .int (iI pl))] := hl
  have inX2 : ∀ w ∈ wsX20, w ∈ wsX5_kindOf := by decide +kernel
  have fn161 := hN.f (args := args) "GainsReckoner" 161 "GainsReckoner$Matches" "kind" "[I" (by decide +kernel)
  have hG := hX.2.2.1 0 (by omega)
  have hRN := hG.RN hX.1 (show 0 < 3 by omega)
  have hlen : (bAA b 0 (xR st 0) (xD st 0)).length ≤ 60 := hG.len hX.1 (show 0 < 3 by omega)
  have hR60 := hRN.1
  refine lv_aload_n hx hb dX5_kindOf_0 rfl (lv_at hl 0 rfl) ?_
  refine lv_iload_n hx hb dX5_kindOf_1 rfl (lv_at hl 1 rfl) ?_
  refine lv_iload_n hx hb dX5_kindOf_2 rfl (lv_at hl 2 rfl) ?_
  refine mk_goR (st9 := st) (va_runV (As := [.int (iI 0), .int (iI pl)]) (rest := []) ⟨hx, hb, hml, hown, hts⟩ (c_X5_matchesWith_0 l cg D ad st b hX pl hpl) (cwV 2 hts gX5_kindOf_X5_matchesWith rfl rfl rfl (by decide +kernel) ⟨Nat.le_of_ble_eq_true rfl, Nat.le_of_ble_eq_true rfl⟩) (mk_preV hK hN hW 0 (by decide) rfl rfl rfl) rfl rfl hl.1 rfl (lv_room (Nat.le_of_ble_eq_true rfl)) dX5_kindOf_3 ⟨Nat.zero_le _, Nat.zero_le _⟩) hW (fun H locs hW => ?_)
  refine mk_getN (ci := 2) (C := RX2) (T := TX2) (N := 7) hx hb hts inX2 hown hK hW 23 (by decide) rfl rfl 0 (by decide) fn161 (fun _ h9 => h9) rfl dX5_kindOf_6 ?_
  refine lv_iload_n hx hb dX5_kindOf_9 rfl (lv_at hl 2 rfl) ?_
  refine mk_iald hx hb hK hW 24 (by decide) rfl 0 rfl (j := pl.toNat) (by omega) (by omega) (by decide) dX5_kindOf_10 ?_
  exact mk_retI hx hb hr hlocks hW ⟨rfl, by obtain ⟨x, h0, h1, h2, h3, h4, h5, h6, h7, h8, h9⟩ := hG.get hX.1 (show 0 < 3 by omega) (show pl.toNat < (bAA b 0 (xR st 0) (xD st 0)).length by omega); exact ⟨x, h0, h4⟩⟩ dX5_kindOf_11

set_option maxHeartbeats 4000000 in
set_option maxRecDepth 100000 in
theorem c_X5_kindOf_1 (l : Launch) (cg : Nat → ClassId) (D : va_G) (ad : Nat → Nat) (st : Nat → Nat → Int) (b : Nat → Nat → Int) (hX : XI st b) (pl : Int) (hpl : 0 ≤ pl ∧ pl < (bAA b 1 (xR st 1) (xD st 1)).length) : MI l yX5_kindOf wsX5_kindOf ({ frames := 2, cells := 0, slots := 0, locals := 46 }) D vwCl (TY cg) 73 (celX cg) ad st [.ref (ad 0), .int (iI 1), .int (iI pl)] (fun z st1 => st1 = st ∧ ∃ x, (bAA b 1 (xR st 1) (xD st 1))[pl.toNat]? = some x ∧ z = x.2.2.1) := by
  refine mk_open (cc := cX5_kindOf) (maxL := 3) (ret := (some .int)) (by decide) rfl (Nat.le_of_ble_eq_true rfl) ?_
  intro p e s m args below meth c hx hb hml hr hown hts hlocks hK hN hargs ls hl hW
  have hown : s.vm.findClass RX5 = some m.cls := hown
  have hl : lv_has ls 3 [(0, .ref (ad 0)), (1, .int (iI 1)), (2, .int (iI pl))] := hl
  have inX2 : ∀ w ∈ wsX20, w ∈ wsX5_kindOf := by decide +kernel
  have fn161 := hN.f (args := args) "GainsReckoner" 161 "GainsReckoner$Matches" "kind" "[I" (by decide +kernel)
  have hG := hX.2.2.1 1 (by omega)
  have hRN := hG.RN hX.1 (show 1 < 3 by omega)
  have hlen : (bAA b 1 (xR st 1) (xD st 1)).length ≤ 60 := hG.len hX.1 (show 1 < 3 by omega)
  have hR60 := hRN.1
  refine lv_aload_n hx hb dX5_kindOf_0 rfl (lv_at hl 0 rfl) ?_
  refine lv_iload_n hx hb dX5_kindOf_1 rfl (lv_at hl 1 rfl) ?_
  refine lv_iload_n hx hb dX5_kindOf_2 rfl (lv_at hl 2 rfl) ?_
  refine mk_goR (st9 := st) (va_runV (As := [.int (iI 1), .int (iI pl)]) (rest := []) ⟨hx, hb, hml, hown, hts⟩ (c_X5_matchesWith_1 l cg D ad st b hX pl hpl) (cwV 2 hts gX5_kindOf_X5_matchesWith rfl rfl rfl (by decide +kernel) ⟨Nat.le_of_ble_eq_true rfl, Nat.le_of_ble_eq_true rfl⟩) (mk_preV hK hN hW 0 (by decide) rfl rfl rfl) rfl rfl hl.1 rfl (lv_room (Nat.le_of_ble_eq_true rfl)) dX5_kindOf_3 ⟨Nat.zero_le _, Nat.zero_le _⟩) hW (fun H locs hW => ?_)
  refine mk_getN (ci := 2) (C := RX2) (T := TX2) (N := 7) hx hb hts inX2 hown hK hW 44 (by decide) rfl rfl 0 (by decide) fn161 (fun _ h9 => h9) rfl dX5_kindOf_6 ?_
  refine lv_iload_n hx hb dX5_kindOf_9 rfl (lv_at hl 2 rfl) ?_
  refine mk_iald hx hb hK hW 45 (by decide) rfl 0 rfl (j := pl.toNat) (by omega) (by omega) (by decide) dX5_kindOf_10 ?_
  exact mk_retI hx hb hr hlocks hW ⟨rfl, by obtain ⟨x, h0, h1, h2, h3, h4, h5, h6, h7, h8, h9⟩ := hG.get hX.1 (show 1 < 3 by omega) (show pl.toNat < (bAA b 1 (xR st 1) (xD st 1)).length by omega); exact ⟨x, h0, h4⟩⟩ dX5_kindOf_11

set_option maxHeartbeats 4000000 in
set_option maxRecDepth 100000 in
theorem c_X5_kindOf_2 (l : Launch) (cg : Nat → ClassId) (D : va_G) (ad : Nat → Nat) (st : Nat → Nat → Int) (b : Nat → Nat → Int) (hX : XI st b) (pl : Int) (hpl : 0 ≤ pl ∧ pl < (bAA b 2 (xR st 2) (xD st 2)).length) : MI l yX5_kindOf wsX5_kindOf ({ frames := 2, cells := 0, slots := 0, locals := 46 }) D vwCl (TY cg) 73 (celX cg) ad st [.ref (ad 0), .int (iI 2), .int (iI pl)] (fun z st1 => st1 = st ∧ ∃ x, (bAA b 2 (xR st 2) (xD st 2))[pl.toNat]? = some x ∧ z = x.2.2.1) := by
  refine mk_open (cc := cX5_kindOf) (maxL := 3) (ret := (some .int)) (by decide) rfl (Nat.le_of_ble_eq_true rfl) ?_
  intro p e s m args below meth c hx hb hml hr hown hts hlocks hK hN hargs ls hl hW
  have hown : s.vm.findClass RX5 = some m.cls := hown
  have hl : lv_has ls 3 [(0, .ref (ad 0)), (1, .int (iI 2)), (2, .int (iI pl))] := hl
  have inX2 : ∀ w ∈ wsX20, w ∈ wsX5_kindOf := by decide +kernel
  have fn161 := hN.f (args := args) "GainsReckoner" 161 "GainsReckoner$Matches" "kind" "[I" (by decide +kernel)
  have hG := hX.2.2.1 2 (by omega)
  have hRN := hG.RN hX.1 (show 2 < 3 by omega)
  have hlen : (bAA b 2 (xR st 2) (xD st 2)).length ≤ 60 := hG.len hX.1 (show 2 < 3 by omega)
  have hR60 := hRN.1
  refine lv_aload_n hx hb dX5_kindOf_0 rfl (lv_at hl 0 rfl) ?_
  refine lv_iload_n hx hb dX5_kindOf_1 rfl (lv_at hl 1 rfl) ?_
  refine lv_iload_n hx hb dX5_kindOf_2 rfl (lv_at hl 2 rfl) ?_
  refine mk_goR (st9 := st) (va_runV (As := [.int (iI 2), .int (iI pl)]) (rest := []) ⟨hx, hb, hml, hown, hts⟩ (c_X5_matchesWith_2 l cg D ad st b hX pl hpl) (cwV 2 hts gX5_kindOf_X5_matchesWith rfl rfl rfl (by decide +kernel) ⟨Nat.le_of_ble_eq_true rfl, Nat.le_of_ble_eq_true rfl⟩) (mk_preV hK hN hW 0 (by decide) rfl rfl rfl) rfl rfl hl.1 rfl (lv_room (Nat.le_of_ble_eq_true rfl)) dX5_kindOf_3 ⟨Nat.zero_le _, Nat.zero_le _⟩) hW (fun H locs hW => ?_)
  refine mk_getN (ci := 2) (C := RX2) (T := TX2) (N := 7) hx hb hts inX2 hown hK hW 65 (by decide) rfl rfl 0 (by decide) fn161 (fun _ h9 => h9) rfl dX5_kindOf_6 ?_
  refine lv_iload_n hx hb dX5_kindOf_9 rfl (lv_at hl 2 rfl) ?_
  refine mk_iald hx hb hK hW 66 (by decide) rfl 0 rfl (j := pl.toNat) (by omega) (by omega) (by decide) dX5_kindOf_10 ?_
  exact mk_retI hx hb hr hlocks hW ⟨rfl, by obtain ⟨x, h0, h1, h2, h3, h4, h5, h6, h7, h8, h9⟩ := hG.get hX.1 (show 2 < 3 by omega) (show pl.toNat < (bAA b 2 (xR st 2) (xD st 2)).length by omega); exact ⟨x, h0, h4⟩⟩ dX5_kindOf_11

set_option maxHeartbeats 4000000 in
set_option maxRecDepth 100000 in
theorem c_X5_saleDay_0 (l : Launch) (cg : Nat → ClassId) (D : va_G) (ad : Nat → Nat) (st : Nat → Nat → Int) (b : Nat → Nat → Int) (hX : XI st b) (pl : Int) (hpl : 0 ≤ pl ∧ pl < (bAA b 0 (xR st 0) (xD st 0)).length) : MI l yX5_saleDay wsX5_saleDay ({ frames := 2, cells := 0, slots := 0, locals := 46 }) D vwCl (TY cg) 73 (celX cg) ad st [.ref (ad 0), .int (iI 0), .int (iI pl)] (fun z st1 => st1 = st ∧ ∃ x, (bAA b 0 (xR st 0) (xD st 0))[pl.toNat]? = some x ∧ z = (xD st 0) x.1) := by
  refine mk_open (cc := cX5_saleDay) (maxL := 3) (ret := (some .int)) (by decide) rfl (Nat.le_of_ble_eq_true rfl) ?_
  intro p e s m args below meth c hx hb hml hr hown hts hlocks hK hN hargs ls hl hW
  have hown : s.vm.findClass RX5 = some m.cls := hown
  have hl : lv_has ls 3 [(0, .ref (ad 0)), (1, .int (iI 0)), (2, .int (iI pl))] := hl
  have inX2 : ∀ w ∈ wsX20, w ∈ wsX5_saleDay := by decide +kernel
  have fn164 := hN.f (args := args) "GainsReckoner" 164 "GainsReckoner$Matches" "soldOn" "[I" (by decide +kernel)
  have hG := hX.2.2.1 0 (by omega)
  have hRN := hG.RN hX.1 (show 0 < 3 by omega)
  have hlen : (bAA b 0 (xR st 0) (xD st 0)).length ≤ 60 := hG.len hX.1 (show 0 < 3 by omega)
  have hR60 := hRN.1
  refine lv_aload_n hx hb dX5_saleDay_0 rfl (lv_at hl 0 rfl) ?_
  refine lv_iload_n hx hb dX5_saleDay_1 rfl (lv_at hl 1 rfl) ?_
  refine lv_iload_n hx hb dX5_saleDay_2 rfl (lv_at hl 2 rfl) ?_
  refine mk_goR (st9 := st) (va_runV (As := [.int (iI 0), .int (iI pl)]) (rest := []) ⟨hx, hb, hml, hown, hts⟩ (c_X5_matchesWith_0 l cg D ad st b hX pl hpl) (cwV 2 hts gX5_saleDay_X5_matchesWith rfl rfl rfl (by decide +kernel) ⟨Nat.le_of_ble_eq_true rfl, Nat.le_of_ble_eq_true rfl⟩) (mk_preV hK hN hW 0 (by decide) rfl rfl rfl) rfl rfl hl.1 rfl (lv_room (Nat.le_of_ble_eq_true rfl)) dX5_saleDay_3 ⟨Nat.zero_le _, Nat.zero_le _⟩) hW (fun H locs hW => ?_)
  refine mk_getN (ci := 2) (C := RX2) (T := TX2) (N := 7) hx hb hts inX2 hown hK hW 23 (by decide) rfl rfl 1 (by decide) fn164 (fun _ h9 => h9) rfl dX5_saleDay_6 ?_
  refine lv_iload_n hx hb dX5_saleDay_9 rfl (lv_at hl 2 rfl) ?_
  refine mk_iald hx hb hK hW 25 (by decide) rfl 0 rfl (j := pl.toNat) (by omega) (by omega) (by decide) dX5_saleDay_10 ?_
  exact mk_retI hx hb hr hlocks hW ⟨rfl, by obtain ⟨x, h0, h1, h2, h3, h4, h5, h6, h7, h8, h9⟩ := hG.get hX.1 (show 0 < 3 by omega) (show pl.toNat < (bAA b 0 (xR st 0) (xD st 0)).length by omega); exact ⟨x, h0, h5⟩⟩ dX5_saleDay_11

set_option maxHeartbeats 4000000 in
set_option maxRecDepth 100000 in
theorem c_X5_saleDay_1 (l : Launch) (cg : Nat → ClassId) (D : va_G) (ad : Nat → Nat) (st : Nat → Nat → Int) (b : Nat → Nat → Int) (hX : XI st b) (pl : Int) (hpl : 0 ≤ pl ∧ pl < (bAA b 1 (xR st 1) (xD st 1)).length) : MI l yX5_saleDay wsX5_saleDay ({ frames := 2, cells := 0, slots := 0, locals := 46 }) D vwCl (TY cg) 73 (celX cg) ad st [.ref (ad 0), .int (iI 1), .int (iI pl)] (fun z st1 => st1 = st ∧ ∃ x, (bAA b 1 (xR st 1) (xD st 1))[pl.toNat]? = some x ∧ z = (xD st 1) x.1) := by
  refine mk_open (cc := cX5_saleDay) (maxL := 3) (ret := (some .int)) (by decide) rfl (Nat.le_of_ble_eq_true rfl) ?_
  intro p e s m args below meth c hx hb hml hr hown hts hlocks hK hN hargs ls hl hW
  have hown : s.vm.findClass RX5 = some m.cls := hown
  have hl : lv_has ls 3 [(0, .ref (ad 0)), (1, .int (iI 1)), (2, .int (iI pl))] := hl
  have inX2 : ∀ w ∈ wsX20, w ∈ wsX5_saleDay := by decide +kernel
  have fn164 := hN.f (args := args) "GainsReckoner" 164 "GainsReckoner$Matches" "soldOn" "[I" (by decide +kernel)
  have hG := hX.2.2.1 1 (by omega)
  have hRN := hG.RN hX.1 (show 1 < 3 by omega)
  have hlen : (bAA b 1 (xR st 1) (xD st 1)).length ≤ 60 := hG.len hX.1 (show 1 < 3 by omega)
  have hR60 := hRN.1
  refine lv_aload_n hx hb dX5_saleDay_0 rfl (lv_at hl 0 rfl) ?_
  refine lv_iload_n hx hb dX5_saleDay_1 rfl (lv_at hl 1 rfl) ?_
  refine lv_iload_n hx hb dX5_saleDay_2 rfl (lv_at hl 2 rfl) ?_
  refine mk_goR (st9 := st) (va_runV (As := [.int (iI 1), .int (iI pl)]) (rest := []) ⟨hx, hb, hml, hown, hts⟩ (c_X5_matchesWith_1 l cg D ad st b hX pl hpl) (cwV 2 hts gX5_saleDay_X5_matchesWith rfl rfl rfl (by decide +kernel) ⟨Nat.le_of_ble_eq_true rfl, Nat.le_of_ble_eq_true rfl⟩) (mk_preV hK hN hW 0 (by decide) rfl rfl rfl) rfl rfl hl.1 rfl (lv_room (Nat.le_of_ble_eq_true rfl)) dX5_saleDay_3 ⟨Nat.zero_le _, Nat.zero_le _⟩) hW (fun H locs hW => ?_)
  refine mk_getN (ci := 2) (C := RX2) (T := TX2) (N := 7) hx hb hts inX2 hown hK hW 44 (by decide) rfl rfl 1 (by decide) fn164 (fun _ h9 => h9) rfl dX5_saleDay_6 ?_
  refine lv_iload_n hx hb dX5_saleDay_9 rfl (lv_at hl 2 rfl) ?_
  refine mk_iald hx hb hK hW 46 (by decide) rfl 0 rfl (j := pl.toNat) (by omega) (by omega) (by decide) dX5_saleDay_10 ?_
  exact mk_retI hx hb hr hlocks hW ⟨rfl, by obtain ⟨x, h0, h1, h2, h3, h4, h5, h6, h7, h8, h9⟩ := hG.get hX.1 (show 1 < 3 by omega) (show pl.toNat < (bAA b 1 (xR st 1) (xD st 1)).length by omega); exact ⟨x, h0, h5⟩⟩ dX5_saleDay_11

set_option maxHeartbeats 4000000 in
set_option maxRecDepth 100000 in
theorem c_X5_saleDay_2 (l : Launch) (cg : Nat → ClassId) (D : va_G) (ad : Nat → Nat) (st : Nat → Nat → Int) (b : Nat → Nat → Int) (hX : XI st b) (pl : Int) (hpl : 0 ≤ pl ∧ pl < (bAA b 2 (xR st 2) (xD st 2)).length) : MI l yX5_saleDay wsX5_saleDay ({ frames := 2, cells := 0, slots := 0, locals := 46 }) D vwCl (TY cg) 73 (celX cg) ad st [.ref (ad 0), .int (iI 2), .int (iI pl)] (fun z st1 => st1 = st ∧ ∃ x, (bAA b 2 (xR st 2) (xD st 2))[pl.toNat]? = some x ∧ z = (xD st 2) x.1) := by
  refine mk_open (cc := cX5_saleDay) (maxL := 3) (ret := (some .int)) (by decide) rfl (Nat.le_of_ble_eq_true rfl) ?_
  intro p e s m args below meth c hx hb hml hr hown hts hlocks hK hN hargs ls hl hW
  have hown : s.vm.findClass RX5 = some m.cls := hown
  have hl : lv_has ls 3 [(0, .ref (ad 0)), (1, .int (iI 2)), (2, .int (iI pl))] := hl
  have inX2 : ∀ w ∈ wsX20, w ∈ wsX5_saleDay := by decide +kernel
  have fn164 := hN.f (args := args) "GainsReckoner" 164 "GainsReckoner$Matches" "soldOn" "[I" (by decide +kernel)
  have hG := hX.2.2.1 2 (by omega)
  have hRN := hG.RN hX.1 (show 2 < 3 by omega)
  have hlen : (bAA b 2 (xR st 2) (xD st 2)).length ≤ 60 := hG.len hX.1 (show 2 < 3 by omega)
  have hR60 := hRN.1
  refine lv_aload_n hx hb dX5_saleDay_0 rfl (lv_at hl 0 rfl) ?_
  refine lv_iload_n hx hb dX5_saleDay_1 rfl (lv_at hl 1 rfl) ?_
  refine lv_iload_n hx hb dX5_saleDay_2 rfl (lv_at hl 2 rfl) ?_
  refine mk_goR (st9 := st) (va_runV (As := [.int (iI 2), .int (iI pl)]) (rest := []) ⟨hx, hb, hml, hown, hts⟩ (c_X5_matchesWith_2 l cg D ad st b hX pl hpl) (cwV 2 hts gX5_saleDay_X5_matchesWith rfl rfl rfl (by decide +kernel) ⟨Nat.le_of_ble_eq_true rfl, Nat.le_of_ble_eq_true rfl⟩) (mk_preV hK hN hW 0 (by decide) rfl rfl rfl) rfl rfl hl.1 rfl (lv_room (Nat.le_of_ble_eq_true rfl)) dX5_saleDay_3 ⟨Nat.zero_le _, Nat.zero_le _⟩) hW (fun H locs hW => ?_)
  refine mk_getN (ci := 2) (C := RX2) (T := TX2) (N := 7) hx hb hts inX2 hown hK hW 65 (by decide) rfl rfl 1 (by decide) fn164 (fun _ h9 => h9) rfl dX5_saleDay_6 ?_
  refine lv_iload_n hx hb dX5_saleDay_9 rfl (lv_at hl 2 rfl) ?_
  refine mk_iald hx hb hK hW 67 (by decide) rfl 0 rfl (j := pl.toNat) (by omega) (by omega) (by decide) dX5_saleDay_10 ?_
  exact mk_retI hx hb hr hlocks hW ⟨rfl, by obtain ⟨x, h0, h1, h2, h3, h4, h5, h6, h7, h8, h9⟩ := hG.get hX.1 (show 2 < 3 by omega) (show pl.toNat < (bAA b 2 (xR st 2) (xD st 2)).length by omega); exact ⟨x, h0, h5⟩⟩ dX5_saleDay_11

set_option maxHeartbeats 4000000 in
set_option maxRecDepth 100000 in
theorem c_X5_buyDay_0 (l : Launch) (cg : Nat → ClassId) (D : va_G) (ad : Nat → Nat) (st : Nat → Nat → Int) (b : Nat → Nat → Int) (hX : XI st b) (pl : Int) (hpl : 0 ≤ pl ∧ pl < (bAA b 0 (xR st 0) (xD st 0)).length) : MI l yX5_buyDay wsX5_buyDay ({ frames := 2, cells := 0, slots := 0, locals := 46 }) D vwCl (TY cg) 73 (celX cg) ad st [.ref (ad 0), .int (iI 0), .int (iI pl)] (fun z st1 => st1 = st ∧ ∃ x, (bAA b 0 (xR st 0) (xD st 0))[pl.toNat]? = some x ∧ z = bD (xD st 0) x.2.1) := by
  refine mk_open (cc := cX5_buyDay) (maxL := 3) (ret := (some .int)) (by decide) rfl (Nat.le_of_ble_eq_true rfl) ?_
  intro p e s m args below meth c hx hb hml hr hown hts hlocks hK hN hargs ls hl hW
  have hown : s.vm.findClass RX5 = some m.cls := hown
  have hl : lv_has ls 3 [(0, .ref (ad 0)), (1, .int (iI 0)), (2, .int (iI pl))] := hl
  have inX2 : ∀ w ∈ wsX20, w ∈ wsX5_buyDay := by decide +kernel
  have fn167 := hN.f (args := args) "GainsReckoner" 167 "GainsReckoner$Matches" "boughtOn" "[I" (by decide +kernel)
  have hG := hX.2.2.1 0 (by omega)
  have hRN := hG.RN hX.1 (show 0 < 3 by omega)
  have hlen : (bAA b 0 (xR st 0) (xD st 0)).length ≤ 60 := hG.len hX.1 (show 0 < 3 by omega)
  have hR60 := hRN.1
  refine lv_aload_n hx hb dX5_buyDay_0 rfl (lv_at hl 0 rfl) ?_
  refine lv_iload_n hx hb dX5_buyDay_1 rfl (lv_at hl 1 rfl) ?_
  refine lv_iload_n hx hb dX5_buyDay_2 rfl (lv_at hl 2 rfl) ?_
  refine mk_goR (st9 := st) (va_runV (As := [.int (iI 0), .int (iI pl)]) (rest := []) ⟨hx, hb, hml, hown, hts⟩ (c_X5_matchesWith_0 l cg D ad st b hX pl hpl) (cwV 2 hts gX5_buyDay_X5_matchesWith rfl rfl rfl (by decide +kernel) ⟨Nat.le_of_ble_eq_true rfl, Nat.le_of_ble_eq_true rfl⟩) (mk_preV hK hN hW 0 (by decide) rfl rfl rfl) rfl rfl hl.1 rfl (lv_room (Nat.le_of_ble_eq_true rfl)) dX5_buyDay_3 ⟨Nat.zero_le _, Nat.zero_le _⟩) hW (fun H locs hW => ?_)
  refine mk_getN (ci := 2) (C := RX2) (T := TX2) (N := 7) hx hb hts inX2 hown hK hW 23 (by decide) rfl rfl 2 (by decide) fn167 (fun _ h9 => h9) rfl dX5_buyDay_6 ?_
  refine lv_iload_n hx hb dX5_buyDay_9 rfl (lv_at hl 2 rfl) ?_
  refine mk_iald hx hb hK hW 26 (by decide) rfl 0 rfl (j := pl.toNat) (by omega) (by omega) (by decide) dX5_buyDay_10 ?_
  exact mk_retI hx hb hr hlocks hW ⟨rfl, by obtain ⟨x, h0, h1, h2, h3, h4, h5, h6, h7, h8, h9⟩ := hG.get hX.1 (show 0 < 3 by omega) (show pl.toNat < (bAA b 0 (xR st 0) (xD st 0)).length by omega); exact ⟨x, h0, h6⟩⟩ dX5_buyDay_11

set_option maxHeartbeats 4000000 in
set_option maxRecDepth 100000 in
theorem c_X5_buyDay_1 (l : Launch) (cg : Nat → ClassId) (D : va_G) (ad : Nat → Nat) (st : Nat → Nat → Int) (b : Nat → Nat → Int) (hX : XI st b) (pl : Int) (hpl : 0 ≤ pl ∧ pl < (bAA b 1 (xR st 1) (xD st 1)).length) : MI l yX5_buyDay wsX5_buyDay ({ frames := 2, cells := 0, slots := 0, locals := 46 }) D vwCl (TY cg) 73 (celX cg) ad st [.ref (ad 0), .int (iI 1), .int (iI pl)] (fun z st1 => st1 = st ∧ ∃ x, (bAA b 1 (xR st 1) (xD st 1))[pl.toNat]? = some x ∧ z = bD (xD st 1) x.2.1) := by
  refine mk_open (cc := cX5_buyDay) (maxL := 3) (ret := (some .int)) (by decide) rfl (Nat.le_of_ble_eq_true rfl) ?_
  intro p e s m args below meth c hx hb hml hr hown hts hlocks hK hN hargs ls hl hW
  have hown : s.vm.findClass RX5 = some m.cls := hown
  have hl : lv_has ls 3 [(0, .ref (ad 0)), (1, .int (iI 1)), (2, .int (iI pl))] := hl
  have inX2 : ∀ w ∈ wsX20, w ∈ wsX5_buyDay := by decide +kernel
  have fn167 := hN.f (args := args) "GainsReckoner" 167 "GainsReckoner$Matches" "boughtOn" "[I" (by decide +kernel)
  have hG := hX.2.2.1 1 (by omega)
  have hRN := hG.RN hX.1 (show 1 < 3 by omega)
  have hlen : (bAA b 1 (xR st 1) (xD st 1)).length ≤ 60 := hG.len hX.1 (show 1 < 3 by omega)
  have hR60 := hRN.1
  refine lv_aload_n hx hb dX5_buyDay_0 rfl (lv_at hl 0 rfl) ?_
  refine lv_iload_n hx hb dX5_buyDay_1 rfl (lv_at hl 1 rfl) ?_
  refine lv_iload_n hx hb dX5_buyDay_2 rfl (lv_at hl 2 rfl) ?_
  refine mk_goR (st9 := st) (va_runV (As := [.int (iI 1), .int (iI pl)]) (rest := []) ⟨hx, hb, hml, hown, hts⟩ (c_X5_matchesWith_1 l cg D ad st b hX pl hpl) (cwV 2 hts gX5_buyDay_X5_matchesWith rfl rfl rfl (by decide +kernel) ⟨Nat.le_of_ble_eq_true rfl, Nat.le_of_ble_eq_true rfl⟩) (mk_preV hK hN hW 0 (by decide) rfl rfl rfl) rfl rfl hl.1 rfl (lv_room (Nat.le_of_ble_eq_true rfl)) dX5_buyDay_3 ⟨Nat.zero_le _, Nat.zero_le _⟩) hW (fun H locs hW => ?_)
  refine mk_getN (ci := 2) (C := RX2) (T := TX2) (N := 7) hx hb hts inX2 hown hK hW 44 (by decide) rfl rfl 2 (by decide) fn167 (fun _ h9 => h9) rfl dX5_buyDay_6 ?_
  refine lv_iload_n hx hb dX5_buyDay_9 rfl (lv_at hl 2 rfl) ?_
  refine mk_iald hx hb hK hW 47 (by decide) rfl 0 rfl (j := pl.toNat) (by omega) (by omega) (by decide) dX5_buyDay_10 ?_
  exact mk_retI hx hb hr hlocks hW ⟨rfl, by obtain ⟨x, h0, h1, h2, h3, h4, h5, h6, h7, h8, h9⟩ := hG.get hX.1 (show 1 < 3 by omega) (show pl.toNat < (bAA b 1 (xR st 1) (xD st 1)).length by omega); exact ⟨x, h0, h6⟩⟩ dX5_buyDay_11

set_option maxHeartbeats 4000000 in
set_option maxRecDepth 100000 in
theorem c_X5_buyDay_2 (l : Launch) (cg : Nat → ClassId) (D : va_G) (ad : Nat → Nat) (st : Nat → Nat → Int) (b : Nat → Nat → Int) (hX : XI st b) (pl : Int) (hpl : 0 ≤ pl ∧ pl < (bAA b 2 (xR st 2) (xD st 2)).length) : MI l yX5_buyDay wsX5_buyDay ({ frames := 2, cells := 0, slots := 0, locals := 46 }) D vwCl (TY cg) 73 (celX cg) ad st [.ref (ad 0), .int (iI 2), .int (iI pl)] (fun z st1 => st1 = st ∧ ∃ x, (bAA b 2 (xR st 2) (xD st 2))[pl.toNat]? = some x ∧ z = bD (xD st 2) x.2.1) := by
  refine mk_open (cc := cX5_buyDay) (maxL := 3) (ret := (some .int)) (by decide) rfl (Nat.le_of_ble_eq_true rfl) ?_
  intro p e s m args below meth c hx hb hml hr hown hts hlocks hK hN hargs ls hl hW
  have hown : s.vm.findClass RX5 = some m.cls := hown
  have hl : lv_has ls 3 [(0, .ref (ad 0)), (1, .int (iI 2)), (2, .int (iI pl))] := hl
  have inX2 : ∀ w ∈ wsX20, w ∈ wsX5_buyDay := by decide +kernel
  have fn167 := hN.f (args := args) "GainsReckoner" 167 "GainsReckoner$Matches" "boughtOn" "[I" (by decide +kernel)
  have hG := hX.2.2.1 2 (by omega)
  have hRN := hG.RN hX.1 (show 2 < 3 by omega)
  have hlen : (bAA b 2 (xR st 2) (xD st 2)).length ≤ 60 := hG.len hX.1 (show 2 < 3 by omega)
  have hR60 := hRN.1
  refine lv_aload_n hx hb dX5_buyDay_0 rfl (lv_at hl 0 rfl) ?_
  refine lv_iload_n hx hb dX5_buyDay_1 rfl (lv_at hl 1 rfl) ?_
  refine lv_iload_n hx hb dX5_buyDay_2 rfl (lv_at hl 2 rfl) ?_
  refine mk_goR (st9 := st) (va_runV (As := [.int (iI 2), .int (iI pl)]) (rest := []) ⟨hx, hb, hml, hown, hts⟩ (c_X5_matchesWith_2 l cg D ad st b hX pl hpl) (cwV 2 hts gX5_buyDay_X5_matchesWith rfl rfl rfl (by decide +kernel) ⟨Nat.le_of_ble_eq_true rfl, Nat.le_of_ble_eq_true rfl⟩) (mk_preV hK hN hW 0 (by decide) rfl rfl rfl) rfl rfl hl.1 rfl (lv_room (Nat.le_of_ble_eq_true rfl)) dX5_buyDay_3 ⟨Nat.zero_le _, Nat.zero_le _⟩) hW (fun H locs hW => ?_)
  refine mk_getN (ci := 2) (C := RX2) (T := TX2) (N := 7) hx hb hts inX2 hown hK hW 65 (by decide) rfl rfl 2 (by decide) fn167 (fun _ h9 => h9) rfl dX5_buyDay_6 ?_
  refine lv_iload_n hx hb dX5_buyDay_9 rfl (lv_at hl 2 rfl) ?_
  refine mk_iald hx hb hK hW 68 (by decide) rfl 0 rfl (j := pl.toNat) (by omega) (by omega) (by decide) dX5_buyDay_10 ?_
  exact mk_retI hx hb hr hlocks hW ⟨rfl, by obtain ⟨x, h0, h1, h2, h3, h4, h5, h6, h7, h8, h9⟩ := hG.get hX.1 (show 2 < 3 by omega) (show pl.toNat < (bAA b 2 (xR st 2) (xD st 2)).length by omega); exact ⟨x, h0, h6⟩⟩ dX5_buyDay_11

set_option maxHeartbeats 4000000 in
set_option maxRecDepth 100000 in
theorem c_X5_unitsOf_0 (l : Launch) (cg : Nat → ClassId) (D : va_G) (ad : Nat → Nat) (st : Nat → Nat → Int) (b : Nat → Nat → Int) (hX : XI st b) (pl : Int) (hpl : 0 ≤ pl ∧ pl < (bAA b 0 (xR st 0) (xD st 0)).length) : MI l yX5_unitsOf wsX5_unitsOf ({ frames := 2, cells := 0, slots := 0, locals := 46 }) D vwCl (TY cg) 73 (celX cg) ad st [.ref (ad 0), .int (iI 0), .int (iI pl)] (fun z st1 => st1 = st ∧ ∃ x, (bAA b 0 (xR st 0) (xD st 0))[pl.toNat]? = some x ∧ z = x.2.2.2.1) := by
  refine mk_open (cc := cX5_unitsOf) (maxL := 3) (ret := (some .int)) (by decide) rfl (Nat.le_of_ble_eq_true rfl) ?_
  intro p e s m args below meth c hx hb hml hr hown hts hlocks hK hN hargs ls hl hW
  have hown : s.vm.findClass RX5 = some m.cls := hown
  have hl : lv_has ls 3 [(0, .ref (ad 0)), (1, .int (iI 0)), (2, .int (iI pl))] := hl
  have inX2 : ∀ w ∈ wsX20, w ∈ wsX5_unitsOf := by decide +kernel
  have fn170 := hN.f (args := args) "GainsReckoner" 170 "GainsReckoner$Matches" "units" "[I" (by decide +kernel)
  have hG := hX.2.2.1 0 (by omega)
  have hRN := hG.RN hX.1 (show 0 < 3 by omega)
  have hlen : (bAA b 0 (xR st 0) (xD st 0)).length ≤ 60 := hG.len hX.1 (show 0 < 3 by omega)
  have hR60 := hRN.1
  refine lv_aload_n hx hb dX5_unitsOf_0 rfl (lv_at hl 0 rfl) ?_
  refine lv_iload_n hx hb dX5_unitsOf_1 rfl (lv_at hl 1 rfl) ?_
  refine lv_iload_n hx hb dX5_unitsOf_2 rfl (lv_at hl 2 rfl) ?_
  refine mk_goR (st9 := st) (va_runV (As := [.int (iI 0), .int (iI pl)]) (rest := []) ⟨hx, hb, hml, hown, hts⟩ (c_X5_matchesWith_0 l cg D ad st b hX pl hpl) (cwV 2 hts gX5_unitsOf_X5_matchesWith rfl rfl rfl (by decide +kernel) ⟨Nat.le_of_ble_eq_true rfl, Nat.le_of_ble_eq_true rfl⟩) (mk_preV hK hN hW 0 (by decide) rfl rfl rfl) rfl rfl hl.1 rfl (lv_room (Nat.le_of_ble_eq_true rfl)) dX5_unitsOf_3 ⟨Nat.zero_le _, Nat.zero_le _⟩) hW (fun H locs hW => ?_)
  refine mk_getN (ci := 2) (C := RX2) (T := TX2) (N := 7) hx hb hts inX2 hown hK hW 23 (by decide) rfl rfl 3 (by decide) fn170 (fun _ h9 => h9) rfl dX5_unitsOf_6 ?_
  refine lv_iload_n hx hb dX5_unitsOf_9 rfl (lv_at hl 2 rfl) ?_
  refine mk_iald hx hb hK hW 27 (by decide) rfl 0 rfl (j := pl.toNat) (by omega) (by omega) (by decide) dX5_unitsOf_10 ?_
  exact mk_retI hx hb hr hlocks hW ⟨rfl, by obtain ⟨x, h0, h1, h2, h3, h4, h5, h6, h7, h8, h9⟩ := hG.get hX.1 (show 0 < 3 by omega) (show pl.toNat < (bAA b 0 (xR st 0) (xD st 0)).length by omega); exact ⟨x, h0, h7⟩⟩ dX5_unitsOf_11

set_option maxHeartbeats 4000000 in
set_option maxRecDepth 100000 in
theorem c_X5_unitsOf_1 (l : Launch) (cg : Nat → ClassId) (D : va_G) (ad : Nat → Nat) (st : Nat → Nat → Int) (b : Nat → Nat → Int) (hX : XI st b) (pl : Int) (hpl : 0 ≤ pl ∧ pl < (bAA b 1 (xR st 1) (xD st 1)).length) : MI l yX5_unitsOf wsX5_unitsOf ({ frames := 2, cells := 0, slots := 0, locals := 46 }) D vwCl (TY cg) 73 (celX cg) ad st [.ref (ad 0), .int (iI 1), .int (iI pl)] (fun z st1 => st1 = st ∧ ∃ x, (bAA b 1 (xR st 1) (xD st 1))[pl.toNat]? = some x ∧ z = x.2.2.2.1) := by
  refine mk_open (cc := cX5_unitsOf) (maxL := 3) (ret := (some .int)) (by decide) rfl (Nat.le_of_ble_eq_true rfl) ?_
  intro p e s m args below meth c hx hb hml hr hown hts hlocks hK hN hargs ls hl hW
  have hown : s.vm.findClass RX5 = some m.cls := hown
  have hl : lv_has ls 3 [(0, .ref (ad 0)), (1, .int (iI 1)), (2, .int (iI pl))] := hl
  have inX2 : ∀ w ∈ wsX20, w ∈ wsX5_unitsOf := by decide +kernel
  have fn170 := hN.f (args := args) "GainsReckoner" 170 "GainsReckoner$Matches" "units" "[I" (by decide +kernel)
  have hG := hX.2.2.1 1 (by omega)
  have hRN := hG.RN hX.1 (show 1 < 3 by omega)
  have hlen : (bAA b 1 (xR st 1) (xD st 1)).length ≤ 60 := hG.len hX.1 (show 1 < 3 by omega)
  have hR60 := hRN.1
  refine lv_aload_n hx hb dX5_unitsOf_0 rfl (lv_at hl 0 rfl) ?_
  refine lv_iload_n hx hb dX5_unitsOf_1 rfl (lv_at hl 1 rfl) ?_
  refine lv_iload_n hx hb dX5_unitsOf_2 rfl (lv_at hl 2 rfl) ?_
  refine mk_goR (st9 := st) (va_runV (As := [.int (iI 1), .int (iI pl)]) (rest := []) ⟨hx, hb, hml, hown, hts⟩ (c_X5_matchesWith_1 l cg D ad st b hX pl hpl) (cwV 2 hts gX5_unitsOf_X5_matchesWith rfl rfl rfl (by decide +kernel) ⟨Nat.le_of_ble_eq_true rfl, Nat.le_of_ble_eq_true rfl⟩) (mk_preV hK hN hW 0 (by decide) rfl rfl rfl) rfl rfl hl.1 rfl (lv_room (Nat.le_of_ble_eq_true rfl)) dX5_unitsOf_3 ⟨Nat.zero_le _, Nat.zero_le _⟩) hW (fun H locs hW => ?_)
  refine mk_getN (ci := 2) (C := RX2) (T := TX2) (N := 7) hx hb hts inX2 hown hK hW 44 (by decide) rfl rfl 3 (by decide) fn170 (fun _ h9 => h9) rfl dX5_unitsOf_6 ?_
  refine lv_iload_n hx hb dX5_unitsOf_9 rfl (lv_at hl 2 rfl) ?_
  refine mk_iald hx hb hK hW 48 (by decide) rfl 0 rfl (j := pl.toNat) (by omega) (by omega) (by decide) dX5_unitsOf_10 ?_
  exact mk_retI hx hb hr hlocks hW ⟨rfl, by obtain ⟨x, h0, h1, h2, h3, h4, h5, h6, h7, h8, h9⟩ := hG.get hX.1 (show 1 < 3 by omega) (show pl.toNat < (bAA b 1 (xR st 1) (xD st 1)).length by omega); exact ⟨x, h0, h7⟩⟩ dX5_unitsOf_11

set_option maxHeartbeats 4000000 in
set_option maxRecDepth 100000 in
theorem c_X5_unitsOf_2 (l : Launch) (cg : Nat → ClassId) (D : va_G) (ad : Nat → Nat) (st : Nat → Nat → Int) (b : Nat → Nat → Int) (hX : XI st b) (pl : Int) (hpl : 0 ≤ pl ∧ pl < (bAA b 2 (xR st 2) (xD st 2)).length) : MI l yX5_unitsOf wsX5_unitsOf ({ frames := 2, cells := 0, slots := 0, locals := 46 }) D vwCl (TY cg) 73 (celX cg) ad st [.ref (ad 0), .int (iI 2), .int (iI pl)] (fun z st1 => st1 = st ∧ ∃ x, (bAA b 2 (xR st 2) (xD st 2))[pl.toNat]? = some x ∧ z = x.2.2.2.1) := by
  refine mk_open (cc := cX5_unitsOf) (maxL := 3) (ret := (some .int)) (by decide) rfl (Nat.le_of_ble_eq_true rfl) ?_
  intro p e s m args below meth c hx hb hml hr hown hts hlocks hK hN hargs ls hl hW
  have hown : s.vm.findClass RX5 = some m.cls := hown
  have hl : lv_has ls 3 [(0, .ref (ad 0)), (1, .int (iI 2)), (2, .int (iI pl))] := hl
  have inX2 : ∀ w ∈ wsX20, w ∈ wsX5_unitsOf := by decide +kernel
  have fn170 := hN.f (args := args) "GainsReckoner" 170 "GainsReckoner$Matches" "units" "[I" (by decide +kernel)
  have hG := hX.2.2.1 2 (by omega)
  have hRN := hG.RN hX.1 (show 2 < 3 by omega)
  have hlen : (bAA b 2 (xR st 2) (xD st 2)).length ≤ 60 := hG.len hX.1 (show 2 < 3 by omega)
  have hR60 := hRN.1
  refine lv_aload_n hx hb dX5_unitsOf_0 rfl (lv_at hl 0 rfl) ?_
  refine lv_iload_n hx hb dX5_unitsOf_1 rfl (lv_at hl 1 rfl) ?_
  refine lv_iload_n hx hb dX5_unitsOf_2 rfl (lv_at hl 2 rfl) ?_
  refine mk_goR (st9 := st) (va_runV (As := [.int (iI 2), .int (iI pl)]) (rest := []) ⟨hx, hb, hml, hown, hts⟩ (c_X5_matchesWith_2 l cg D ad st b hX pl hpl) (cwV 2 hts gX5_unitsOf_X5_matchesWith rfl rfl rfl (by decide +kernel) ⟨Nat.le_of_ble_eq_true rfl, Nat.le_of_ble_eq_true rfl⟩) (mk_preV hK hN hW 0 (by decide) rfl rfl rfl) rfl rfl hl.1 rfl (lv_room (Nat.le_of_ble_eq_true rfl)) dX5_unitsOf_3 ⟨Nat.zero_le _, Nat.zero_le _⟩) hW (fun H locs hW => ?_)
  refine mk_getN (ci := 2) (C := RX2) (T := TX2) (N := 7) hx hb hts inX2 hown hK hW 65 (by decide) rfl rfl 3 (by decide) fn170 (fun _ h9 => h9) rfl dX5_unitsOf_6 ?_
  refine lv_iload_n hx hb dX5_unitsOf_9 rfl (lv_at hl 2 rfl) ?_
  refine mk_iald hx hb hK hW 69 (by decide) rfl 0 rfl (j := pl.toNat) (by omega) (by omega) (by decide) dX5_unitsOf_10 ?_
  exact mk_retI hx hb hr hlocks hW ⟨rfl, by obtain ⟨x, h0, h1, h2, h3, h4, h5, h6, h7, h8, h9⟩ := hG.get hX.1 (show 2 < 3 by omega) (show pl.toNat < (bAA b 2 (xR st 2) (xD st 2)).length by omega); exact ⟨x, h0, h7⟩⟩ dX5_unitsOf_11

set_option maxHeartbeats 4000000 in
set_option maxRecDepth 100000 in
theorem c_X5_costOf_0 (l : Launch) (cg : Nat → ClassId) (D : va_G) (ad : Nat → Nat) (st : Nat → Nat → Int) (b : Nat → Nat → Int) (hX : XI st b) (pl : Int) (hpl : 0 ≤ pl ∧ pl < (bAA b 0 (xR st 0) (xD st 0)).length) : MI l yX5_costOf wsX5_costOf ({ frames := 2, cells := 0, slots := 0, locals := 46 }) D vwCl (TY cg) 73 (celX cg) ad st [.ref (ad 0), .int (iI 0), .int (iI pl)] (fun z st1 => st1 = st ∧ ∃ x, (bAA b 0 (xR st 0) (xD st 0))[pl.toNat]? = some x ∧ z = mco x) := by
  refine mk_open (cc := cX5_costOf) (maxL := 3) (ret := (some .int)) (by decide) rfl (Nat.le_of_ble_eq_true rfl) ?_
  intro p e s m args below meth c hx hb hml hr hown hts hlocks hK hN hargs ls hl hW
  have hown : s.vm.findClass RX5 = some m.cls := hown
  have hl : lv_has ls 3 [(0, .ref (ad 0)), (1, .int (iI 0)), (2, .int (iI pl))] := hl
  have inX2 : ∀ w ∈ wsX20, w ∈ wsX5_costOf := by decide +kernel
  have fn173 := hN.f (args := args) "GainsReckoner" 173 "GainsReckoner$Matches" "cost" "[I" (by decide +kernel)
  have hG := hX.2.2.1 0 (by omega)
  have hRN := hG.RN hX.1 (show 0 < 3 by omega)
  have hlen : (bAA b 0 (xR st 0) (xD st 0)).length ≤ 60 := hG.len hX.1 (show 0 < 3 by omega)
  have hR60 := hRN.1
  refine lv_aload_n hx hb dX5_costOf_0 rfl (lv_at hl 0 rfl) ?_
  refine lv_iload_n hx hb dX5_costOf_1 rfl (lv_at hl 1 rfl) ?_
  refine lv_iload_n hx hb dX5_costOf_2 rfl (lv_at hl 2 rfl) ?_
  refine mk_goR (st9 := st) (va_runV (As := [.int (iI 0), .int (iI pl)]) (rest := []) ⟨hx, hb, hml, hown, hts⟩ (c_X5_matchesWith_0 l cg D ad st b hX pl hpl) (cwV 2 hts gX5_costOf_X5_matchesWith rfl rfl rfl (by decide +kernel) ⟨Nat.le_of_ble_eq_true rfl, Nat.le_of_ble_eq_true rfl⟩) (mk_preV hK hN hW 0 (by decide) rfl rfl rfl) rfl rfl hl.1 rfl (lv_room (Nat.le_of_ble_eq_true rfl)) dX5_costOf_3 ⟨Nat.zero_le _, Nat.zero_le _⟩) hW (fun H locs hW => ?_)
  refine mk_getN (ci := 2) (C := RX2) (T := TX2) (N := 7) hx hb hts inX2 hown hK hW 23 (by decide) rfl rfl 4 (by decide) fn173 (fun _ h9 => h9) rfl dX5_costOf_6 ?_
  refine lv_iload_n hx hb dX5_costOf_9 rfl (lv_at hl 2 rfl) ?_
  refine mk_iald hx hb hK hW 28 (by decide) rfl 0 rfl (j := pl.toNat) (by omega) (by omega) (by decide) dX5_costOf_10 ?_
  exact mk_retI hx hb hr hlocks hW ⟨rfl, by obtain ⟨x, h0, h1, h2, h3, h4, h5, h6, h7, h8, h9⟩ := hG.get hX.1 (show 0 < 3 by omega) (show pl.toNat < (bAA b 0 (xR st 0) (xD st 0)).length by omega); exact ⟨x, h0, h8⟩⟩ dX5_costOf_11

set_option maxHeartbeats 4000000 in
set_option maxRecDepth 100000 in
theorem c_X5_costOf_1 (l : Launch) (cg : Nat → ClassId) (D : va_G) (ad : Nat → Nat) (st : Nat → Nat → Int) (b : Nat → Nat → Int) (hX : XI st b) (pl : Int) (hpl : 0 ≤ pl ∧ pl < (bAA b 1 (xR st 1) (xD st 1)).length) : MI l yX5_costOf wsX5_costOf ({ frames := 2, cells := 0, slots := 0, locals := 46 }) D vwCl (TY cg) 73 (celX cg) ad st [.ref (ad 0), .int (iI 1), .int (iI pl)] (fun z st1 => st1 = st ∧ ∃ x, (bAA b 1 (xR st 1) (xD st 1))[pl.toNat]? = some x ∧ z = mco x) := by
  refine mk_open (cc := cX5_costOf) (maxL := 3) (ret := (some .int)) (by decide) rfl (Nat.le_of_ble_eq_true rfl) ?_
  intro p e s m args below meth c hx hb hml hr hown hts hlocks hK hN hargs ls hl hW
  have hown : s.vm.findClass RX5 = some m.cls := hown
  have hl : lv_has ls 3 [(0, .ref (ad 0)), (1, .int (iI 1)), (2, .int (iI pl))] := hl
  have inX2 : ∀ w ∈ wsX20, w ∈ wsX5_costOf := by decide +kernel
  have fn173 := hN.f (args := args) "GainsReckoner" 173 "GainsReckoner$Matches" "cost" "[I" (by decide +kernel)
  have hG := hX.2.2.1 1 (by omega)
  have hRN := hG.RN hX.1 (show 1 < 3 by omega)
  have hlen : (bAA b 1 (xR st 1) (xD st 1)).length ≤ 60 := hG.len hX.1 (show 1 < 3 by omega)
  have hR60 := hRN.1
  refine lv_aload_n hx hb dX5_costOf_0 rfl (lv_at hl 0 rfl) ?_
  refine lv_iload_n hx hb dX5_costOf_1 rfl (lv_at hl 1 rfl) ?_
  refine lv_iload_n hx hb dX5_costOf_2 rfl (lv_at hl 2 rfl) ?_
  refine mk_goR (st9 := st) (va_runV (As := [.int (iI 1), .int (iI pl)]) (rest := []) ⟨hx, hb, hml, hown, hts⟩ (c_X5_matchesWith_1 l cg D ad st b hX pl hpl) (cwV 2 hts gX5_costOf_X5_matchesWith rfl rfl rfl (by decide +kernel) ⟨Nat.le_of_ble_eq_true rfl, Nat.le_of_ble_eq_true rfl⟩) (mk_preV hK hN hW 0 (by decide) rfl rfl rfl) rfl rfl hl.1 rfl (lv_room (Nat.le_of_ble_eq_true rfl)) dX5_costOf_3 ⟨Nat.zero_le _, Nat.zero_le _⟩) hW (fun H locs hW => ?_)
  refine mk_getN (ci := 2) (C := RX2) (T := TX2) (N := 7) hx hb hts inX2 hown hK hW 44 (by decide) rfl rfl 4 (by decide) fn173 (fun _ h9 => h9) rfl dX5_costOf_6 ?_
  refine lv_iload_n hx hb dX5_costOf_9 rfl (lv_at hl 2 rfl) ?_
  refine mk_iald hx hb hK hW 49 (by decide) rfl 0 rfl (j := pl.toNat) (by omega) (by omega) (by decide) dX5_costOf_10 ?_
  exact mk_retI hx hb hr hlocks hW ⟨rfl, by obtain ⟨x, h0, h1, h2, h3, h4, h5, h6, h7, h8, h9⟩ := hG.get hX.1 (show 1 < 3 by omega) (show pl.toNat < (bAA b 1 (xR st 1) (xD st 1)).length by omega); exact ⟨x, h0, h8⟩⟩ dX5_costOf_11

set_option maxHeartbeats 4000000 in
set_option maxRecDepth 100000 in
theorem c_X5_costOf_2 (l : Launch) (cg : Nat → ClassId) (D : va_G) (ad : Nat → Nat) (st : Nat → Nat → Int) (b : Nat → Nat → Int) (hX : XI st b) (pl : Int) (hpl : 0 ≤ pl ∧ pl < (bAA b 2 (xR st 2) (xD st 2)).length) : MI l yX5_costOf wsX5_costOf ({ frames := 2, cells := 0, slots := 0, locals := 46 }) D vwCl (TY cg) 73 (celX cg) ad st [.ref (ad 0), .int (iI 2), .int (iI pl)] (fun z st1 => st1 = st ∧ ∃ x, (bAA b 2 (xR st 2) (xD st 2))[pl.toNat]? = some x ∧ z = mco x) := by
  refine mk_open (cc := cX5_costOf) (maxL := 3) (ret := (some .int)) (by decide) rfl (Nat.le_of_ble_eq_true rfl) ?_
  intro p e s m args below meth c hx hb hml hr hown hts hlocks hK hN hargs ls hl hW
  have hown : s.vm.findClass RX5 = some m.cls := hown
  have hl : lv_has ls 3 [(0, .ref (ad 0)), (1, .int (iI 2)), (2, .int (iI pl))] := hl
  have inX2 : ∀ w ∈ wsX20, w ∈ wsX5_costOf := by decide +kernel
  have fn173 := hN.f (args := args) "GainsReckoner" 173 "GainsReckoner$Matches" "cost" "[I" (by decide +kernel)
  have hG := hX.2.2.1 2 (by omega)
  have hRN := hG.RN hX.1 (show 2 < 3 by omega)
  have hlen : (bAA b 2 (xR st 2) (xD st 2)).length ≤ 60 := hG.len hX.1 (show 2 < 3 by omega)
  have hR60 := hRN.1
  refine lv_aload_n hx hb dX5_costOf_0 rfl (lv_at hl 0 rfl) ?_
  refine lv_iload_n hx hb dX5_costOf_1 rfl (lv_at hl 1 rfl) ?_
  refine lv_iload_n hx hb dX5_costOf_2 rfl (lv_at hl 2 rfl) ?_
  refine mk_goR (st9 := st) (va_runV (As := [.int (iI 2), .int (iI pl)]) (rest := []) ⟨hx, hb, hml, hown, hts⟩ (c_X5_matchesWith_2 l cg D ad st b hX pl hpl) (cwV 2 hts gX5_costOf_X5_matchesWith rfl rfl rfl (by decide +kernel) ⟨Nat.le_of_ble_eq_true rfl, Nat.le_of_ble_eq_true rfl⟩) (mk_preV hK hN hW 0 (by decide) rfl rfl rfl) rfl rfl hl.1 rfl (lv_room (Nat.le_of_ble_eq_true rfl)) dX5_costOf_3 ⟨Nat.zero_le _, Nat.zero_le _⟩) hW (fun H locs hW => ?_)
  refine mk_getN (ci := 2) (C := RX2) (T := TX2) (N := 7) hx hb hts inX2 hown hK hW 65 (by decide) rfl rfl 4 (by decide) fn173 (fun _ h9 => h9) rfl dX5_costOf_6 ?_
  refine lv_iload_n hx hb dX5_costOf_9 rfl (lv_at hl 2 rfl) ?_
  refine mk_iald hx hb hK hW 70 (by decide) rfl 0 rfl (j := pl.toNat) (by omega) (by omega) (by decide) dX5_costOf_10 ?_
  exact mk_retI hx hb hr hlocks hW ⟨rfl, by obtain ⟨x, h0, h1, h2, h3, h4, h5, h6, h7, h8, h9⟩ := hG.get hX.1 (show 2 < 3 by omega) (show pl.toNat < (bAA b 2 (xR st 2) (xD st 2)).length by omega); exact ⟨x, h0, h8⟩⟩ dX5_costOf_11

set_option maxHeartbeats 4000000 in
set_option maxRecDepth 100000 in
theorem c_X5_proceedsOf_0 (l : Launch) (cg : Nat → ClassId) (D : va_G) (ad : Nat → Nat) (st : Nat → Nat → Int) (b : Nat → Nat → Int) (hX : XI st b) (pl : Int) (hpl : 0 ≤ pl ∧ pl < (bAA b 0 (xR st 0) (xD st 0)).length) : MI l yX5_proceedsOf wsX5_proceedsOf ({ frames := 2, cells := 0, slots := 0, locals := 46 }) D vwCl (TY cg) 73 (celX cg) ad st [.ref (ad 0), .int (iI 0), .int (iI pl)] (fun z st1 => st1 = st ∧ ∃ x, (bAA b 0 (xR st 0) (xD st 0))[pl.toNat]? = some x ∧ z = mpr x) := by
  refine mk_open (cc := cX5_proceedsOf) (maxL := 3) (ret := (some .int)) (by decide) rfl (Nat.le_of_ble_eq_true rfl) ?_
  intro p e s m args below meth c hx hb hml hr hown hts hlocks hK hN hargs ls hl hW
  have hown : s.vm.findClass RX5 = some m.cls := hown
  have hl : lv_has ls 3 [(0, .ref (ad 0)), (1, .int (iI 0)), (2, .int (iI pl))] := hl
  have inX2 : ∀ w ∈ wsX20, w ∈ wsX5_proceedsOf := by decide +kernel
  have fn176 := hN.f (args := args) "GainsReckoner" 176 "GainsReckoner$Matches" "proceeds" "[I" (by decide +kernel)
  have hG := hX.2.2.1 0 (by omega)
  have hRN := hG.RN hX.1 (show 0 < 3 by omega)
  have hlen : (bAA b 0 (xR st 0) (xD st 0)).length ≤ 60 := hG.len hX.1 (show 0 < 3 by omega)
  have hR60 := hRN.1
  refine lv_aload_n hx hb dX5_proceedsOf_0 rfl (lv_at hl 0 rfl) ?_
  refine lv_iload_n hx hb dX5_proceedsOf_1 rfl (lv_at hl 1 rfl) ?_
  refine lv_iload_n hx hb dX5_proceedsOf_2 rfl (lv_at hl 2 rfl) ?_
  refine mk_goR (st9 := st) (va_runV (As := [.int (iI 0), .int (iI pl)]) (rest := []) ⟨hx, hb, hml, hown, hts⟩ (c_X5_matchesWith_0 l cg D ad st b hX pl hpl) (cwV 2 hts gX5_proceedsOf_X5_matchesWith rfl rfl rfl (by decide +kernel) ⟨Nat.le_of_ble_eq_true rfl, Nat.le_of_ble_eq_true rfl⟩) (mk_preV hK hN hW 0 (by decide) rfl rfl rfl) rfl rfl hl.1 rfl (lv_room (Nat.le_of_ble_eq_true rfl)) dX5_proceedsOf_3 ⟨Nat.zero_le _, Nat.zero_le _⟩) hW (fun H locs hW => ?_)
  refine mk_getN (ci := 2) (C := RX2) (T := TX2) (N := 7) hx hb hts inX2 hown hK hW 23 (by decide) rfl rfl 5 (by decide) fn176 (fun _ h9 => h9) rfl dX5_proceedsOf_6 ?_
  refine lv_iload_n hx hb dX5_proceedsOf_9 rfl (lv_at hl 2 rfl) ?_
  refine mk_iald hx hb hK hW 29 (by decide) rfl 0 rfl (j := pl.toNat) (by omega) (by omega) (by decide) dX5_proceedsOf_10 ?_
  exact mk_retI hx hb hr hlocks hW ⟨rfl, by obtain ⟨x, h0, h1, h2, h3, h4, h5, h6, h7, h8, h9⟩ := hG.get hX.1 (show 0 < 3 by omega) (show pl.toNat < (bAA b 0 (xR st 0) (xD st 0)).length by omega); exact ⟨x, h0, h9⟩⟩ dX5_proceedsOf_11

set_option maxHeartbeats 4000000 in
set_option maxRecDepth 100000 in
theorem c_X5_proceedsOf_1 (l : Launch) (cg : Nat → ClassId) (D : va_G) (ad : Nat → Nat) (st : Nat → Nat → Int) (b : Nat → Nat → Int) (hX : XI st b) (pl : Int) (hpl : 0 ≤ pl ∧ pl < (bAA b 1 (xR st 1) (xD st 1)).length) : MI l yX5_proceedsOf wsX5_proceedsOf ({ frames := 2, cells := 0, slots := 0, locals := 46 }) D vwCl (TY cg) 73 (celX cg) ad st [.ref (ad 0), .int (iI 1), .int (iI pl)] (fun z st1 => st1 = st ∧ ∃ x, (bAA b 1 (xR st 1) (xD st 1))[pl.toNat]? = some x ∧ z = mpr x) := by
  refine mk_open (cc := cX5_proceedsOf) (maxL := 3) (ret := (some .int)) (by decide) rfl (Nat.le_of_ble_eq_true rfl) ?_
  intro p e s m args below meth c hx hb hml hr hown hts hlocks hK hN hargs ls hl hW
  have hown : s.vm.findClass RX5 = some m.cls := hown
  have hl : lv_has ls 3 [(0, .ref (ad 0)), (1, .int (iI 1)), (2, .int (iI pl))] := hl
  have inX2 : ∀ w ∈ wsX20, w ∈ wsX5_proceedsOf := by decide +kernel
  have fn176 := hN.f (args := args) "GainsReckoner" 176 "GainsReckoner$Matches" "proceeds" "[I" (by decide +kernel)
  have hG := hX.2.2.1 1 (by omega)
  have hRN := hG.RN hX.1 (show 1 < 3 by omega)
  have hlen : (bAA b 1 (xR st 1) (xD st 1)).length ≤ 60 := hG.len hX.1 (show 1 < 3 by omega)
  have hR60 := hRN.1
  refine lv_aload_n hx hb dX5_proceedsOf_0 rfl (lv_at hl 0 rfl) ?_
  refine lv_iload_n hx hb dX5_proceedsOf_1 rfl (lv_at hl 1 rfl) ?_
  refine lv_iload_n hx hb dX5_proceedsOf_2 rfl (lv_at hl 2 rfl) ?_
  refine mk_goR (st9 := st) (va_runV (As := [.int (iI 1), .int (iI pl)]) (rest := []) ⟨hx, hb, hml, hown, hts⟩ (c_X5_matchesWith_1 l cg D ad st b hX pl hpl) (cwV 2 hts gX5_proceedsOf_X5_matchesWith rfl rfl rfl (by decide +kernel) ⟨Nat.le_of_ble_eq_true rfl, Nat.le_of_ble_eq_true rfl⟩) (mk_preV hK hN hW 0 (by decide) rfl rfl rfl) rfl rfl hl.1 rfl (lv_room (Nat.le_of_ble_eq_true rfl)) dX5_proceedsOf_3 ⟨Nat.zero_le _, Nat.zero_le _⟩) hW (fun H locs hW => ?_)
  refine mk_getN (ci := 2) (C := RX2) (T := TX2) (N := 7) hx hb hts inX2 hown hK hW 44 (by decide) rfl rfl 5 (by decide) fn176 (fun _ h9 => h9) rfl dX5_proceedsOf_6 ?_
  refine lv_iload_n hx hb dX5_proceedsOf_9 rfl (lv_at hl 2 rfl) ?_
  refine mk_iald hx hb hK hW 50 (by decide) rfl 0 rfl (j := pl.toNat) (by omega) (by omega) (by decide) dX5_proceedsOf_10 ?_
  exact mk_retI hx hb hr hlocks hW ⟨rfl, by obtain ⟨x, h0, h1, h2, h3, h4, h5, h6, h7, h8, h9⟩ := hG.get hX.1 (show 1 < 3 by omega) (show pl.toNat < (bAA b 1 (xR st 1) (xD st 1)).length by omega); exact ⟨x, h0, h9⟩⟩ dX5_proceedsOf_11

set_option maxHeartbeats 4000000 in
set_option maxRecDepth 100000 in
theorem c_X5_proceedsOf_2 (l : Launch) (cg : Nat → ClassId) (D : va_G) (ad : Nat → Nat) (st : Nat → Nat → Int) (b : Nat → Nat → Int) (hX : XI st b) (pl : Int) (hpl : 0 ≤ pl ∧ pl < (bAA b 2 (xR st 2) (xD st 2)).length) : MI l yX5_proceedsOf wsX5_proceedsOf ({ frames := 2, cells := 0, slots := 0, locals := 46 }) D vwCl (TY cg) 73 (celX cg) ad st [.ref (ad 0), .int (iI 2), .int (iI pl)] (fun z st1 => st1 = st ∧ ∃ x, (bAA b 2 (xR st 2) (xD st 2))[pl.toNat]? = some x ∧ z = mpr x) := by
  refine mk_open (cc := cX5_proceedsOf) (maxL := 3) (ret := (some .int)) (by decide) rfl (Nat.le_of_ble_eq_true rfl) ?_
  intro p e s m args below meth c hx hb hml hr hown hts hlocks hK hN hargs ls hl hW
  have hown : s.vm.findClass RX5 = some m.cls := hown
  have hl : lv_has ls 3 [(0, .ref (ad 0)), (1, .int (iI 2)), (2, .int (iI pl))] := hl
  have inX2 : ∀ w ∈ wsX20, w ∈ wsX5_proceedsOf := by decide +kernel
  have fn176 := hN.f (args := args) "GainsReckoner" 176 "GainsReckoner$Matches" "proceeds" "[I" (by decide +kernel)
  have hG := hX.2.2.1 2 (by omega)
  have hRN := hG.RN hX.1 (show 2 < 3 by omega)
  have hlen : (bAA b 2 (xR st 2) (xD st 2)).length ≤ 60 := hG.len hX.1 (show 2 < 3 by omega)
  have hR60 := hRN.1
  refine lv_aload_n hx hb dX5_proceedsOf_0 rfl (lv_at hl 0 rfl) ?_
  refine lv_iload_n hx hb dX5_proceedsOf_1 rfl (lv_at hl 1 rfl) ?_
  refine lv_iload_n hx hb dX5_proceedsOf_2 rfl (lv_at hl 2 rfl) ?_
  refine mk_goR (st9 := st) (va_runV (As := [.int (iI 2), .int (iI pl)]) (rest := []) ⟨hx, hb, hml, hown, hts⟩ (c_X5_matchesWith_2 l cg D ad st b hX pl hpl) (cwV 2 hts gX5_proceedsOf_X5_matchesWith rfl rfl rfl (by decide +kernel) ⟨Nat.le_of_ble_eq_true rfl, Nat.le_of_ble_eq_true rfl⟩) (mk_preV hK hN hW 0 (by decide) rfl rfl rfl) rfl rfl hl.1 rfl (lv_room (Nat.le_of_ble_eq_true rfl)) dX5_proceedsOf_3 ⟨Nat.zero_le _, Nat.zero_le _⟩) hW (fun H locs hW => ?_)
  refine mk_getN (ci := 2) (C := RX2) (T := TX2) (N := 7) hx hb hts inX2 hown hK hW 65 (by decide) rfl rfl 5 (by decide) fn176 (fun _ h9 => h9) rfl dX5_proceedsOf_6 ?_
  refine lv_iload_n hx hb dX5_proceedsOf_9 rfl (lv_at hl 2 rfl) ?_
  refine mk_iald hx hb hK hW 71 (by decide) rfl 0 rfl (j := pl.toNat) (by omega) (by omega) (by decide) dX5_proceedsOf_10 ?_
  exact mk_retI hx hb hr hlocks hW ⟨rfl, by obtain ⟨x, h0, h1, h2, h3, h4, h5, h6, h7, h8, h9⟩ := hG.get hX.1 (show 2 < 3 by omega) (show pl.toNat < (bAA b 2 (xR st 2) (xD st 2)).length by omega); exact ⟨x, h0, h9⟩⟩ dX5_proceedsOf_11

set_option maxHeartbeats 4000000 in
set_option maxRecDepth 100000 in
theorem c_X5_gain_0 (l : Launch) (cg : Nat → ClassId) (D : va_G) (ad : Nat → Nat) (st : Nat → Nat → Int) (b : Nat → Nat → Int) (hX : XI st b) (y : Int) (hy : 0 ≤ y ∧ y < 5) : MI l yX5_gain wsX5_gain ({ frames := 1, cells := 0, slots := 0, locals := 46 }) D vwCl (TY cg) 73 (celX cg) ad st [.ref (ad 0), .int (iI 0), .int (iI y)] (fun z st1 => st1 = st ∧ z = lsum (gG (xD st 0) y) (bMM b 0 (xR st 0) (xD st 0))) := by
  refine mk_open (cc := cX5_gain) (maxL := 4) (ret := (some .int)) (by decide) rfl (Nat.le_of_ble_eq_true rfl) ?_
  intro p e s m args below meth c hx hb hml hr hown hts hlocks hK hN hargs ls hl hW
  have hown : s.vm.findClass RX5 = some m.cls := hown
  have hl : lv_has ls 4 [(0, .ref (ad 0)), (1, .int (iI 0)), (2, .int (iI y))] := hl
  have inX1 : ∀ w ∈ wsX10, w ∈ wsX5_gain := by decide +kernel
  have fn147 := hN.f (args := args) "GainsReckoner" 147 "GainsReckoner$Ledger" "matched" "LGainsReckoner$Matches;" (by decide +kernel)
  have hG0 := hX.2.2.1 0 (by omega)
  refine lv_aload_n hx hb dX5_gain_0 rfl (lv_at hl 0 rfl) ?_
  refine lv_iload_n hx hb dX5_gain_1 rfl (lv_at hl 1 rfl) ?_
  refine mk_goR (st9 := st) (va_runV (As := [.int (iI 0)]) (rest := []) ⟨hx, hb, hml, hown, hts⟩ (c_X5_ledgerOf_0 l cg D ad st) (cwV 1 hts gX5_gain_X5_ledgerOf rfl rfl rfl (by decide +kernel) ⟨Nat.le_of_ble_eq_true rfl, Nat.le_of_ble_eq_true rfl⟩) (mk_preV hK hN hW 0 (by decide) rfl rfl rfl) rfl rfl hl.1 rfl (lv_room (Nat.le_of_ble_eq_true rfl)) dX5_gain_2 ⟨Nat.zero_le _, Nat.zero_le _⟩) hW (fun H locs hW => ?_)
  refine lv_astore_n (lv' := [(3, .ref (ad 9)), (0, .ref (ad 0)), (1, .int (iI 0)), (2, .int (iI y))]) hx hb dX5_gain_5 rfl hl (by decide) rfl (fun ls hl => ?_)
  refine lv_iload_n hx hb dX5_gain_6 rfl (lv_at hl 3 rfl) ?_
  refine mk_goV (va_runS (As := [.int (iI y)]) (rest := []) ⟨hx, hb, hml, hown, hts⟩ (c_X5_checkYear l cg D ad st y hy) (cwS 1 hts gX5_gain_X5_checkYear rfl rfl rfl (by decide +kernel) ⟨Nat.le_of_ble_eq_true rfl, Nat.le_of_ble_eq_true rfl⟩) (mk_preS hK hN hW) rfl rfl hl.1 rfl (lv_room (Nat.le_of_ble_eq_true rfl)) dX5_gain_7 ⟨Nat.zero_le _, Nat.zero_le _⟩) hW (fun st1 hp7 H locs hW => ?_)
  rw [hp7] at hW
  refine lv_aload_n hx hb dX5_gain_10 rfl (lv_at hl 0 rfl) ?_
  refine mk_getN (ci := 1) (C := RX1) (T := TX1) (N := 4) hx hb hts inX1 hown hK hW 9 (by decide) rfl rfl 3 (by decide) fn147 (fun _ h9 => h9) rfl dX5_gain_11 ?_
  refine lv_iload_n hx hb dX5_gain_14 rfl (lv_at hl 3 rfl) ?_
  refine mk_goIE (EmbL0 cg ad) (va_runV (As := [.int (iI y)]) (rest := []) ⟨hx, hb, hml, hown, hts⟩ (c_X2_gainOfYear l cg D (fun j => ad (embL 0 j)) (sub (embL 0) st) y (bAA b 0 (xR st 0) (xD st 0)).length hG0.2.2.2.1.1 (hG0.len hX.1 (show 0 < 3 by omega)) (fun k hk => by obtain ⟨x, h0, h1, h2, h3, h4, h5, h6⟩ := hG0.get hX.1 (show 0 < 3 by omega) hk; rw [h5]; exact (hG0.RN hX.1 (show 0 < 3 by omega)).2.2.1 x.1 h1) (by omega)) (cwV 1 hts gX5_gain_X2_gainOfYear rfl rfl rfl (by decide +kernel) ⟨Nat.le_of_ble_eq_true rfl, Nat.le_of_ble_eq_true rfl⟩) (mk_preV hK hN (hW.emb (EmbL0 cg ad)) 14 (by decide) rfl rfl rfl) rfl rfl hl.1 rfl (lv_room (Nat.le_of_ble_eq_true rfl)) dX5_gain_15 ⟨Nat.zero_le _, Nat.zero_le _⟩) hW (fun g0 st3 hp15 H locs hW => ?_)
  obtain ⟨est3, hz0⟩ := hp15
  rw [est3, up_self (EmbL0 cg ad).2.1] at hW
  have hs0 : g0 = lsum (gG (xD st 0) y) (bMM b 0 (xR st 0) (xD st 0)) := by rw [hz0]; exact hG0.sum fun k x hk => by obtain ⟨h1, h2, h3, h4, h5, h6⟩ := hG0.2.2.2.1.2 k x hk; rw [h2, h5, h6]; rfl
  exact mk_retI hx hb hr hlocks hW ⟨rfl, hs0⟩ dX5_gain_18

set_option maxHeartbeats 4000000 in
set_option maxRecDepth 100000 in
theorem c_X5_gain_1 (l : Launch) (cg : Nat → ClassId) (D : va_G) (ad : Nat → Nat) (st : Nat → Nat → Int) (b : Nat → Nat → Int) (hX : XI st b) (y : Int) (hy : 0 ≤ y ∧ y < 5) : MI l yX5_gain wsX5_gain ({ frames := 1, cells := 0, slots := 0, locals := 46 }) D vwCl (TY cg) 73 (celX cg) ad st [.ref (ad 0), .int (iI 1), .int (iI y)] (fun z st1 => st1 = st ∧ z = lsum (gG (xD st 1) y) (bMM b 1 (xR st 1) (xD st 1))) := by
  refine mk_open (cc := cX5_gain) (maxL := 4) (ret := (some .int)) (by decide) rfl (Nat.le_of_ble_eq_true rfl) ?_
  intro p e s m args below meth c hx hb hml hr hown hts hlocks hK hN hargs ls hl hW
  have hown : s.vm.findClass RX5 = some m.cls := hown
  have hl : lv_has ls 4 [(0, .ref (ad 0)), (1, .int (iI 1)), (2, .int (iI y))] := hl
  have inX1 : ∀ w ∈ wsX10, w ∈ wsX5_gain := by decide +kernel
  have fn147 := hN.f (args := args) "GainsReckoner" 147 "GainsReckoner$Ledger" "matched" "LGainsReckoner$Matches;" (by decide +kernel)
  have hG1 := hX.2.2.1 1 (by omega)
  refine lv_aload_n hx hb dX5_gain_0 rfl (lv_at hl 0 rfl) ?_
  refine lv_iload_n hx hb dX5_gain_1 rfl (lv_at hl 1 rfl) ?_
  refine mk_goR (st9 := st) (va_runV (As := [.int (iI 1)]) (rest := []) ⟨hx, hb, hml, hown, hts⟩ (c_X5_ledgerOf_1 l cg D ad st) (cwV 1 hts gX5_gain_X5_ledgerOf rfl rfl rfl (by decide +kernel) ⟨Nat.le_of_ble_eq_true rfl, Nat.le_of_ble_eq_true rfl⟩) (mk_preV hK hN hW 0 (by decide) rfl rfl rfl) rfl rfl hl.1 rfl (lv_room (Nat.le_of_ble_eq_true rfl)) dX5_gain_2 ⟨Nat.zero_le _, Nat.zero_le _⟩) hW (fun H locs hW => ?_)
  refine lv_astore_n (lv' := [(3, .ref (ad 30)), (0, .ref (ad 0)), (1, .int (iI 1)), (2, .int (iI y))]) hx hb dX5_gain_5 rfl hl (by decide) rfl (fun ls hl => ?_)
  refine lv_iload_n hx hb dX5_gain_6 rfl (lv_at hl 3 rfl) ?_
  refine mk_goV (va_runS (As := [.int (iI y)]) (rest := []) ⟨hx, hb, hml, hown, hts⟩ (c_X5_checkYear l cg D ad st y hy) (cwS 1 hts gX5_gain_X5_checkYear rfl rfl rfl (by decide +kernel) ⟨Nat.le_of_ble_eq_true rfl, Nat.le_of_ble_eq_true rfl⟩) (mk_preS hK hN hW) rfl rfl hl.1 rfl (lv_room (Nat.le_of_ble_eq_true rfl)) dX5_gain_7 ⟨Nat.zero_le _, Nat.zero_le _⟩) hW (fun st1 hp7 H locs hW => ?_)
  rw [hp7] at hW
  refine lv_aload_n hx hb dX5_gain_10 rfl (lv_at hl 0 rfl) ?_
  refine mk_getN (ci := 1) (C := RX1) (T := TX1) (N := 4) hx hb hts inX1 hown hK hW 30 (by decide) rfl rfl 3 (by decide) fn147 (fun _ h9 => h9) rfl dX5_gain_11 ?_
  refine lv_iload_n hx hb dX5_gain_14 rfl (lv_at hl 3 rfl) ?_
  refine mk_goIE (EmbL1 cg ad) (va_runV (As := [.int (iI y)]) (rest := []) ⟨hx, hb, hml, hown, hts⟩ (c_X2_gainOfYear l cg D (fun j => ad (embL 1 j)) (sub (embL 1) st) y (bAA b 1 (xR st 1) (xD st 1)).length hG1.2.2.2.1.1 (hG1.len hX.1 (show 1 < 3 by omega)) (fun k hk => by obtain ⟨x, h0, h1, h2, h3, h4, h5, h6⟩ := hG1.get hX.1 (show 1 < 3 by omega) hk; rw [h5]; exact (hG1.RN hX.1 (show 1 < 3 by omega)).2.2.1 x.1 h1) (by omega)) (cwV 1 hts gX5_gain_X2_gainOfYear rfl rfl rfl (by decide +kernel) ⟨Nat.le_of_ble_eq_true rfl, Nat.le_of_ble_eq_true rfl⟩) (mk_preV hK hN (hW.emb (EmbL1 cg ad)) 14 (by decide) rfl rfl rfl) rfl rfl hl.1 rfl (lv_room (Nat.le_of_ble_eq_true rfl)) dX5_gain_15 ⟨Nat.zero_le _, Nat.zero_le _⟩) hW (fun g1 st3 hp15 H locs hW => ?_)
  obtain ⟨est3, hz1⟩ := hp15
  rw [est3, up_self (EmbL1 cg ad).2.1] at hW
  have hs1 : g1 = lsum (gG (xD st 1) y) (bMM b 1 (xR st 1) (xD st 1)) := by rw [hz1]; exact hG1.sum fun k x hk => by obtain ⟨h1, h2, h3, h4, h5, h6⟩ := hG1.2.2.2.1.2 k x hk; rw [h2, h5, h6]; rfl
  exact mk_retI hx hb hr hlocks hW ⟨rfl, hs1⟩ dX5_gain_18

set_option maxHeartbeats 4000000 in
set_option maxRecDepth 100000 in
theorem c_X5_gain_2 (l : Launch) (cg : Nat → ClassId) (D : va_G) (ad : Nat → Nat) (st : Nat → Nat → Int) (b : Nat → Nat → Int) (hX : XI st b) (y : Int) (hy : 0 ≤ y ∧ y < 5) : MI l yX5_gain wsX5_gain ({ frames := 1, cells := 0, slots := 0, locals := 46 }) D vwCl (TY cg) 73 (celX cg) ad st [.ref (ad 0), .int (iI 2), .int (iI y)] (fun z st1 => st1 = st ∧ z = lsum (gG (xD st 2) y) (bMM b 2 (xR st 2) (xD st 2))) := by
  refine mk_open (cc := cX5_gain) (maxL := 4) (ret := (some .int)) (by decide) rfl (Nat.le_of_ble_eq_true rfl) ?_
  intro p e s m args below meth c hx hb hml hr hown hts hlocks hK hN hargs ls hl hW
  have hown : s.vm.findClass RX5 = some m.cls := hown
  have hl : lv_has ls 4 [(0, .ref (ad 0)), (1, .int (iI 2)), (2, .int (iI y))] := hl
  have inX1 : ∀ w ∈ wsX10, w ∈ wsX5_gain := by decide +kernel
  have fn147 := hN.f (args := args) "GainsReckoner" 147 "GainsReckoner$Ledger" "matched" "LGainsReckoner$Matches;" (by decide +kernel)
  have hG2 := hX.2.2.1 2 (by omega)
  refine lv_aload_n hx hb dX5_gain_0 rfl (lv_at hl 0 rfl) ?_
  refine lv_iload_n hx hb dX5_gain_1 rfl (lv_at hl 1 rfl) ?_
  refine mk_goR (st9 := st) (va_runV (As := [.int (iI 2)]) (rest := []) ⟨hx, hb, hml, hown, hts⟩ (c_X5_ledgerOf_2 l cg D ad st) (cwV 1 hts gX5_gain_X5_ledgerOf rfl rfl rfl (by decide +kernel) ⟨Nat.le_of_ble_eq_true rfl, Nat.le_of_ble_eq_true rfl⟩) (mk_preV hK hN hW 0 (by decide) rfl rfl rfl) rfl rfl hl.1 rfl (lv_room (Nat.le_of_ble_eq_true rfl)) dX5_gain_2 ⟨Nat.zero_le _, Nat.zero_le _⟩) hW (fun H locs hW => ?_)
  refine lv_astore_n (lv' := [(3, .ref (ad 51)), (0, .ref (ad 0)), (1, .int (iI 2)), (2, .int (iI y))]) hx hb dX5_gain_5 rfl hl (by decide) rfl (fun ls hl => ?_)
  refine lv_iload_n hx hb dX5_gain_6 rfl (lv_at hl 3 rfl) ?_
  refine mk_goV (va_runS (As := [.int (iI y)]) (rest := []) ⟨hx, hb, hml, hown, hts⟩ (c_X5_checkYear l cg D ad st y hy) (cwS 1 hts gX5_gain_X5_checkYear rfl rfl rfl (by decide +kernel) ⟨Nat.le_of_ble_eq_true rfl, Nat.le_of_ble_eq_true rfl⟩) (mk_preS hK hN hW) rfl rfl hl.1 rfl (lv_room (Nat.le_of_ble_eq_true rfl)) dX5_gain_7 ⟨Nat.zero_le _, Nat.zero_le _⟩) hW (fun st1 hp7 H locs hW => ?_)
  rw [hp7] at hW
  refine lv_aload_n hx hb dX5_gain_10 rfl (lv_at hl 0 rfl) ?_
  refine mk_getN (ci := 1) (C := RX1) (T := TX1) (N := 4) hx hb hts inX1 hown hK hW 51 (by decide) rfl rfl 3 (by decide) fn147 (fun _ h9 => h9) rfl dX5_gain_11 ?_
  refine lv_iload_n hx hb dX5_gain_14 rfl (lv_at hl 3 rfl) ?_
  refine mk_goIE (EmbL2 cg ad) (va_runV (As := [.int (iI y)]) (rest := []) ⟨hx, hb, hml, hown, hts⟩ (c_X2_gainOfYear l cg D (fun j => ad (embL 2 j)) (sub (embL 2) st) y (bAA b 2 (xR st 2) (xD st 2)).length hG2.2.2.2.1.1 (hG2.len hX.1 (show 2 < 3 by omega)) (fun k hk => by obtain ⟨x, h0, h1, h2, h3, h4, h5, h6⟩ := hG2.get hX.1 (show 2 < 3 by omega) hk; rw [h5]; exact (hG2.RN hX.1 (show 2 < 3 by omega)).2.2.1 x.1 h1) (by omega)) (cwV 1 hts gX5_gain_X2_gainOfYear rfl rfl rfl (by decide +kernel) ⟨Nat.le_of_ble_eq_true rfl, Nat.le_of_ble_eq_true rfl⟩) (mk_preV hK hN (hW.emb (EmbL2 cg ad)) 14 (by decide) rfl rfl rfl) rfl rfl hl.1 rfl (lv_room (Nat.le_of_ble_eq_true rfl)) dX5_gain_15 ⟨Nat.zero_le _, Nat.zero_le _⟩) hW (fun g2 st3 hp15 H locs hW => ?_)
  obtain ⟨est3, hz2⟩ := hp15
  rw [est3, up_self (EmbL2 cg ad).2.1] at hW
  have hs2 : g2 = lsum (gG (xD st 2) y) (bMM b 2 (xR st 2) (xD st 2)) := by rw [hz2]; exact hG2.sum fun k x hk => by obtain ⟨h1, h2, h3, h4, h5, h6⟩ := hG2.2.2.2.1.2 k x hk; rw [h2, h5, h6]; rfl
  exact mk_retI hx hb hr hlocks hW ⟨rfl, hs2⟩ dX5_gain_18

set_option maxHeartbeats 4000000 in
set_option maxRecDepth 100000 in
theorem c_X5_netOfYear (l : Launch) (cg : Nat → ClassId) (D : va_G) (ad : Nat → Nat) (st : Nat → Nat → Int) (b : Nat → Nat → Int) (hX : XI st b) (y : Int) (hy : 0 ≤ y ∧ y < 5) : MI l yX5_netOfYear wsX5_netOfYear ({ frames := 1, cells := 0, slots := 0, locals := 46 }) D vwCl (TY cg) 73 (celX cg) ad st [.ref (ad 0), .int (iI y)] (fun z st1 => st1 = st ∧ z = yN b (xR st) (xD st) y) := by
  refine mk_open (cc := cX5_netOfYear) (maxL := 4) (ret := (some .int)) (by decide) rfl (Nat.le_of_ble_eq_true rfl) ?_
  intro p e s m args below meth c hx hb hml hr hown hts hlocks hK hN hargs ls hl hW
  have hown : s.vm.findClass RX5 = some m.cls := hown
  have hl : lv_has ls 4 [(0, .ref (ad 0)), (1, .int (iI y))] := hl
  have inX1 : ∀ w ∈ wsX10, w ∈ wsX5_netOfYear := by decide +kernel
  have inX5 : ∀ w ∈ wsX50, w ∈ wsX5_netOfYear := by decide +kernel
  have fl18 := hts (.fieldLink RX5 18 "GainsReckoner" "ledgers" "[LGainsReckoner$Ledger;") (by decide +kernel)
  have fn147 := hN.f (args := args) "GainsReckoner" 147 "GainsReckoner$Ledger" "matched" "LGainsReckoner$Matches;" (by decide +kernel)
  have hG0 := hX.2.2.1 0 (by omega)
  have hG1 := hX.2.2.1 1 (by omega)
  have hG2 := hX.2.2.1 2 (by omega)
  refine mk_iconst hx hb (0) dX5_netOfYear_0 ?_
  refine lv_istore_n (lv' := [(2, .int (iI 0)), (0, .ref (ad 0)), (1, .int (iI y))]) hx hb dX5_netOfYear_1 rfl hl (by decide) rfl (fun ls hl => ?_)
  refine mk_iconst hx hb (0) dX5_netOfYear_2 ?_
  refine lv_istore_n (lv' := [(3, .int (iI 0)), (2, .int (iI 0)), (0, .ref (ad 0)), (1, .int (iI y))]) hx hb dX5_netOfYear_3 rfl hl (by decide) rfl (fun ls hl => ?_)
  refine lv_iload_n hx hb dX5_netOfYear_4 rfl (lv_at hl 0 rfl) ?_
  refine mk_iconst hx hb (3) dX5_netOfYear_5 ?_
  refine mk_icmp_ge (tgt := 31) hx hb dX5_netOfYear_6 (by decide) (by omega) (by omega) (fun c_6 => ?_) (fun c_6 => ?_)
  · skip
    omega
  · skip
    refine lv_iload_n hx hb dX5_netOfYear_9 rfl (lv_at hl 1 rfl) ?_
    refine lv_aload_n hx hb dX5_netOfYear_10 rfl (lv_at hl 2 rfl) ?_
    refine mk_get (ci := 5) (C := RX5) (T := TX5) (N := 4) hx hb hts inX5 hown hK hW 0 (by decide) rfl rfl 1 (by decide) fl18 (fun _ h9 => h9) rfl dX5_netOfYear_11 ?_
    refine lv_iload_n hx hb dX5_netOfYear_14 rfl (lv_at hl 0 rfl) ?_
    refine mk_aald hx hb hK hW 8 (by decide) rfl 3 rfl (j := 0) rfl (by omega) (by decide) rfl dX5_netOfYear_15 ?_
    refine mk_getN (ci := 1) (C := RX1) (T := TX1) (N := 4) hx hb hts inX1 hown hK hW 9 (by decide) rfl rfl 3 (by decide) fn147 (fun _ h9 => h9) rfl dX5_netOfYear_16 ?_
    refine lv_iload_n hx hb dX5_netOfYear_19 rfl (lv_at hl 3 rfl) ?_
    refine mk_goIE (EmbL0 cg ad) (va_runV (As := [.int (iI y)]) (rest := [.int (iI 0)]) ⟨hx, hb, hml, hown, hts⟩ (c_X2_gainOfYear l cg D (fun j => ad (embL 0 j)) (sub (embL 0) st) y (bAA b 0 (xR st 0) (xD st 0)).length hG0.2.2.2.1.1 (hG0.len hX.1 (show 0 < 3 by omega)) (fun k hk => by obtain ⟨x, h0, h1, h2, h3, h4, h5, h6⟩ := hG0.get hX.1 (show 0 < 3 by omega) hk; rw [h5]; exact (hG0.RN hX.1 (show 0 < 3 by omega)).2.2.1 x.1 h1) (by omega)) (cwV 1 hts gX5_netOfYear_X2_gainOfYear rfl rfl rfl (by decide +kernel) ⟨Nat.le_of_ble_eq_true rfl, Nat.le_of_ble_eq_true rfl⟩) (mk_preV hK hN (hW.emb (EmbL0 cg ad)) 14 (by decide) rfl rfl rfl) rfl rfl hl.1 rfl (lv_room (Nat.le_of_ble_eq_true rfl)) dX5_netOfYear_20 ⟨Nat.zero_le _, Nat.zero_le _⟩) hW (fun g0 st1 hp20 H locs hW => ?_)
    obtain ⟨est1, hz0⟩ := hp20
    rw [est1, up_self (EmbL0 cg ad).2.1] at hW
    have hs0 : g0 = lsum (gG (xD st 0) y) (bMM b 0 (xR st 0) (xD st 0)) := by rw [hz0]; exact hG0.sum fun k x hk => by obtain ⟨h1, h2, h3, h4, h5, h6⟩ := hG0.2.2.2.1.2 k x hk; rw [h2, h5, h6]; rfl
    refine mk_iadd hx hb dX5_netOfYear_23 ?_
    refine lv_istore_n (lv' := [(2, .int (iI (0 + g0))), (3, .int (iI 0)), (0, .ref (ad 0)), (1, .int (iI y))]) hx hb dX5_netOfYear_24 rfl hl (by decide) rfl (fun ls hl => ?_)
    refine mk_iinc (w := 1) (lv' := [(3, .int (iI 1)), (2, .int (iI (0 + g0))), (0, .ref (ad 0)), (1, .int (iI y))]) hx hb dX5_netOfYear_25 hl (k := 1) rfl (by omega) (by decide) rfl (fun ls hl => ?_)
    refine lv_goto (tgt := 4) hx hb dX5_netOfYear_28 (by decide) ?_
    refine lv_iload_n hx hb dX5_netOfYear_4 rfl (lv_at hl 0 rfl) ?_
    refine mk_iconst hx hb (3) dX5_netOfYear_5 ?_
    refine mk_icmp_ge (tgt := 31) hx hb dX5_netOfYear_6 (by decide) (by omega) (by omega) (fun c_6 => ?_) (fun c_6 => ?_)
    · skip
      omega
    · skip
      refine lv_iload_n hx hb dX5_netOfYear_9 rfl (lv_at hl 1 rfl) ?_
      refine lv_aload_n hx hb dX5_netOfYear_10 rfl (lv_at hl 2 rfl) ?_
      refine mk_get (ci := 5) (C := RX5) (T := TX5) (N := 4) hx hb hts inX5 hown hK hW 0 (by decide) rfl rfl 1 (by decide) fl18 (fun _ h9 => h9) rfl dX5_netOfYear_11 ?_
      refine lv_iload_n hx hb dX5_netOfYear_14 rfl (lv_at hl 0 rfl) ?_
      refine mk_aald hx hb hK hW 8 (by decide) rfl 3 rfl (j := 1) rfl (by omega) (by decide) rfl dX5_netOfYear_15 ?_
      refine mk_getN (ci := 1) (C := RX1) (T := TX1) (N := 4) hx hb hts inX1 hown hK hW 30 (by decide) rfl rfl 3 (by decide) fn147 (fun _ h9 => h9) rfl dX5_netOfYear_16 ?_
      refine lv_iload_n hx hb dX5_netOfYear_19 rfl (lv_at hl 3 rfl) ?_
      refine mk_goIE (EmbL1 cg ad) (va_runV (As := [.int (iI y)]) (rest := [.int (iI (0 + g0))]) ⟨hx, hb, hml, hown, hts⟩ (c_X2_gainOfYear l cg D (fun j => ad (embL 1 j)) (sub (embL 1) st) y (bAA b 1 (xR st 1) (xD st 1)).length hG1.2.2.2.1.1 (hG1.len hX.1 (show 1 < 3 by omega)) (fun k hk => by obtain ⟨x, h0, h1, h2, h3, h4, h5, h6⟩ := hG1.get hX.1 (show 1 < 3 by omega) hk; rw [h5]; exact (hG1.RN hX.1 (show 1 < 3 by omega)).2.2.1 x.1 h1) (by omega)) (cwV 1 hts gX5_netOfYear_X2_gainOfYear rfl rfl rfl (by decide +kernel) ⟨Nat.le_of_ble_eq_true rfl, Nat.le_of_ble_eq_true rfl⟩) (mk_preV hK hN (hW.emb (EmbL1 cg ad)) 14 (by decide) rfl rfl rfl) rfl rfl hl.1 rfl (lv_room (Nat.le_of_ble_eq_true rfl)) dX5_netOfYear_20 ⟨Nat.zero_le _, Nat.zero_le _⟩) hW (fun g1 st2 hp20 H locs hW => ?_)
      obtain ⟨est2, hz1⟩ := hp20
      rw [est2, up_self (EmbL1 cg ad).2.1] at hW
      have hs1 : g1 = lsum (gG (xD st 1) y) (bMM b 1 (xR st 1) (xD st 1)) := by rw [hz1]; exact hG1.sum fun k x hk => by obtain ⟨h1, h2, h3, h4, h5, h6⟩ := hG1.2.2.2.1.2 k x hk; rw [h2, h5, h6]; rfl
      refine mk_iadd hx hb dX5_netOfYear_23 ?_
      refine lv_istore_n (lv' := [(2, .int (iI ((0 + g0) + g1))), (3, .int (iI 1)), (0, .ref (ad 0)), (1, .int (iI y))]) hx hb dX5_netOfYear_24 rfl hl (by decide) rfl (fun ls hl => ?_)
      refine mk_iinc (w := 2) (lv' := [(3, .int (iI 2)), (2, .int (iI ((0 + g0) + g1))), (0, .ref (ad 0)), (1, .int (iI y))]) hx hb dX5_netOfYear_25 hl (k := 1) rfl (by omega) (by decide) rfl (fun ls hl => ?_)
      refine lv_goto (tgt := 4) hx hb dX5_netOfYear_28 (by decide) ?_
      refine lv_iload_n hx hb dX5_netOfYear_4 rfl (lv_at hl 0 rfl) ?_
      refine mk_iconst hx hb (3) dX5_netOfYear_5 ?_
      refine mk_icmp_ge (tgt := 31) hx hb dX5_netOfYear_6 (by decide) (by omega) (by omega) (fun c_6 => ?_) (fun c_6 => ?_)
      · skip
        omega
      · skip
        refine lv_iload_n hx hb dX5_netOfYear_9 rfl (lv_at hl 1 rfl) ?_
        refine lv_aload_n hx hb dX5_netOfYear_10 rfl (lv_at hl 2 rfl) ?_
        refine mk_get (ci := 5) (C := RX5) (T := TX5) (N := 4) hx hb hts inX5 hown hK hW 0 (by decide) rfl rfl 1 (by decide) fl18 (fun _ h9 => h9) rfl dX5_netOfYear_11 ?_
        refine lv_iload_n hx hb dX5_netOfYear_14 rfl (lv_at hl 0 rfl) ?_
        refine mk_aald hx hb hK hW 8 (by decide) rfl 3 rfl (j := 2) rfl (by omega) (by decide) rfl dX5_netOfYear_15 ?_
        refine mk_getN (ci := 1) (C := RX1) (T := TX1) (N := 4) hx hb hts inX1 hown hK hW 51 (by decide) rfl rfl 3 (by decide) fn147 (fun _ h9 => h9) rfl dX5_netOfYear_16 ?_
        refine lv_iload_n hx hb dX5_netOfYear_19 rfl (lv_at hl 3 rfl) ?_
        refine mk_goIE (EmbL2 cg ad) (va_runV (As := [.int (iI y)]) (rest := [.int (iI ((0 + g0) + g1))]) ⟨hx, hb, hml, hown, hts⟩ (c_X2_gainOfYear l cg D (fun j => ad (embL 2 j)) (sub (embL 2) st) y (bAA b 2 (xR st 2) (xD st 2)).length hG2.2.2.2.1.1 (hG2.len hX.1 (show 2 < 3 by omega)) (fun k hk => by obtain ⟨x, h0, h1, h2, h3, h4, h5, h6⟩ := hG2.get hX.1 (show 2 < 3 by omega) hk; rw [h5]; exact (hG2.RN hX.1 (show 2 < 3 by omega)).2.2.1 x.1 h1) (by omega)) (cwV 1 hts gX5_netOfYear_X2_gainOfYear rfl rfl rfl (by decide +kernel) ⟨Nat.le_of_ble_eq_true rfl, Nat.le_of_ble_eq_true rfl⟩) (mk_preV hK hN (hW.emb (EmbL2 cg ad)) 14 (by decide) rfl rfl rfl) rfl rfl hl.1 rfl (lv_room (Nat.le_of_ble_eq_true rfl)) dX5_netOfYear_20 ⟨Nat.zero_le _, Nat.zero_le _⟩) hW (fun g2 st3 hp20 H locs hW => ?_)
        obtain ⟨est3, hz2⟩ := hp20
        rw [est3, up_self (EmbL2 cg ad).2.1] at hW
        have hs2 : g2 = lsum (gG (xD st 2) y) (bMM b 2 (xR st 2) (xD st 2)) := by rw [hz2]; exact hG2.sum fun k x hk => by obtain ⟨h1, h2, h3, h4, h5, h6⟩ := hG2.2.2.2.1.2 k x hk; rw [h2, h5, h6]; rfl
        refine mk_iadd hx hb dX5_netOfYear_23 ?_
        refine lv_istore_n (lv' := [(2, .int (iI (((0 + g0) + g1) + g2))), (3, .int (iI 2)), (0, .ref (ad 0)), (1, .int (iI y))]) hx hb dX5_netOfYear_24 rfl hl (by decide) rfl (fun ls hl => ?_)
        refine mk_iinc (w := 3) (lv' := [(3, .int (iI 3)), (2, .int (iI (((0 + g0) + g1) + g2))), (0, .ref (ad 0)), (1, .int (iI y))]) hx hb dX5_netOfYear_25 hl (k := 1) rfl (by omega) (by decide) rfl (fun ls hl => ?_)
        refine lv_goto (tgt := 4) hx hb dX5_netOfYear_28 (by decide) ?_
        refine lv_iload_n hx hb dX5_netOfYear_4 rfl (lv_at hl 0 rfl) ?_
        refine mk_iconst hx hb (3) dX5_netOfYear_5 ?_
        refine mk_icmp_ge (tgt := 31) hx hb dX5_netOfYear_6 (by decide) (by omega) (by omega) (fun c_6 => ?_) (fun c_6 => ?_)
        · skip
          refine lv_iload_n hx hb dX5_netOfYear_31 rfl (lv_at hl 1 rfl) ?_
          exact mk_retI hx hb hr hlocks hW ⟨rfl, by rw [hs0, hs1, hs2]; unfold yN yG; omega⟩ dX5_netOfYear_32
        · skip
          omega

set_option maxHeartbeats 4000000 in
set_option maxRecDepth 100000 in
theorem c_X5_net (l : Launch) (cg : Nat → ClassId) (D : va_G) (ad : Nat → Nat) (st : Nat → Nat → Int) (b : Nat → Nat → Int) (hX : XI st b) (y : Int) (hy : 0 ≤ y ∧ y < 5) : MI l yX5_net wsX5_net ({ frames := 2, cells := 0, slots := 0, locals := 70 }) D vwCl (TY cg) 73 (celX cg) ad st [.ref (ad 0), .int (iI y)] (fun z st1 => st1 = st ∧ z = yN b (xR st) (xD st) y) := by
  refine mk_open (cc := cX5_net) (maxL := 2) (ret := (some .int)) (by decide) rfl (Nat.le_of_ble_eq_true rfl) ?_
  intro p e s m args below meth c hx hb hml hr hown hts hlocks hK hN hargs ls hl hW
  have hown : s.vm.findClass RX5 = some m.cls := hown
  have hl : lv_has ls 2 [(0, .ref (ad 0)), (1, .int (iI y))] := hl
  refine lv_iload_n hx hb dX5_net_0 rfl (lv_at hl 1 rfl) ?_
  refine mk_goV (va_runS (As := [.int (iI y)]) (rest := []) ⟨hx, hb, hml, hown, hts⟩ (c_X5_checkYear l cg D ad st y hy) (cwS 1 hts gX5_net_X5_checkYear rfl rfl rfl (by decide +kernel) ⟨Nat.le_of_ble_eq_true rfl, Nat.le_of_ble_eq_true rfl⟩) (mk_preS hK hN hW) rfl rfl hl.1 rfl (lv_room (Nat.le_of_ble_eq_true rfl)) dX5_net_1 ⟨Nat.zero_le _, Nat.zero_le _⟩) hW (fun st1 hp1 H locs hW => ?_)
  rw [hp1] at hW
  refine lv_aload_n hx hb dX5_net_4 rfl (lv_at hl 0 rfl) ?_
  refine lv_iload_n hx hb dX5_net_5 rfl (lv_at hl 1 rfl) ?_
  refine mk_goI (va_runV (As := [.int (iI y)]) (rest := []) ⟨hx, hb, hml, hown, hts⟩ (c_X5_netOfYear l cg D ad st b hX y (by omega)) (cwV 1 hts gX5_net_X5_netOfYear rfl rfl rfl (by decide +kernel) ⟨Nat.le_of_ble_eq_true rfl, Nat.le_of_ble_eq_true rfl⟩) (mk_preV hK hN hW 0 (by decide) rfl rfl rfl) rfl rfl hl.1 rfl (lv_room (Nat.le_of_ble_eq_true rfl)) dX5_net_6 ⟨Nat.zero_le _, Nat.zero_le _⟩) hW (fun g st3 hp6 H locs hW => ?_)
  obtain ⟨est3, hg⟩ := hp6
  rw [est3] at hW
  exact mk_retI hx hb hr hlocks hW ⟨rfl, hg⟩ dX5_net_9

set_option maxHeartbeats 4000000 in
set_option maxRecDepth 100000 in
theorem c_X5_aboveAllowance (l : Launch) (cg : Nat → ClassId) (D : va_G) (ad : Nat → Nat) (st : Nat → Nat → Int) (b : Nat → Nat → Int) (hX : XI st b) (y : Nat) (hy : y < 5) : MI l yX5_aboveAllowance wsX5_aboveAllowance ({ frames := 2, cells := 0, slots := 0, locals := 70 }) D vwCl (TY cg) 73 (celX cg) ad st [.ref (ad 0), .int (iI ((y : Nat) : Int))] (fun z st1 => st1 = st ∧ z = yA b (xR st) (xD st) y) := by
  refine mk_open (cc := cX5_aboveAllowance) (maxL := 2) (ret := (some .int)) (by decide) rfl (Nat.le_of_ble_eq_true rfl) ?_
  intro p e s m args below meth c hx hb hml hr hown hts hlocks hK hN hargs ls hl hW
  have hown : s.vm.findClass RX5 = some m.cls := hown
  have hl : lv_has ls 2 [(0, .ref (ad 0)), (1, .int (iI ((y : Nat) : Int)))] := hl
  have inX5 : ∀ w ∈ wsX50, w ∈ wsX5_aboveAllowance := by decide +kernel
  have fl25 := hts (.fieldLink RX5 25 "GainsReckoner" "allowances" "[I") (by decide +kernel)
  have mlmax := hts (.methodLink RX5 197 Lib.Math.max.name) (by decide +kernel)
  have msmax := hts (.static Lib.Math.max.name) (by decide +kernel)
  have mimax := hts (.initialized "java/lang/Math") (by decide +kernel)
  have mcmax := hts (.code Lib.Math.max.name Lib.Math.max.code 2 (some .int)) (by decide +kernel)
  have hnb := yN_bd hX.1 hX.rows (y : Int)
  have hal := hX.1.2.2.2.2.2 y hy
  refine mk_iconst hx hb (0) dX5_aboveAllowance_0 ?_
  refine lv_aload_n hx hb dX5_aboveAllowance_1 rfl (lv_at hl 0 rfl) ?_
  refine lv_iload_n hx hb dX5_aboveAllowance_2 rfl (lv_at hl 1 rfl) ?_
  refine mk_goI (va_runV (As := [.int (iI ((y : Nat) : Int))]) (rest := [.int (iI 0)]) ⟨hx, hb, hml, hown, hts⟩ (c_X5_netOfYear l cg D ad st b hX (y : Int) (by omega)) (cwV 1 hts gX5_aboveAllowance_X5_netOfYear rfl rfl rfl (by decide +kernel) ⟨Nat.le_of_ble_eq_true rfl, Nat.le_of_ble_eq_true rfl⟩) (mk_preV hK hN hW 0 (by decide) rfl rfl rfl) rfl rfl hl.1 rfl (lv_room (Nat.le_of_ble_eq_true rfl)) dX5_aboveAllowance_3 ⟨Nat.zero_le _, Nat.zero_le _⟩) hW (fun g st1 hp3 H locs hW => ?_)
  obtain ⟨est1, hg⟩ := hp3
  rw [est1] at hW
  refine lv_aload_n hx hb dX5_aboveAllowance_6 rfl (lv_at hl 0 rfl) ?_
  refine mk_get (ci := 5) (C := RX5) (T := TX5) (N := 4) hx hb hts inX5 hown hK hW 0 (by decide) rfl rfl 2 (by decide) fl25 (fun _ h9 => h9) rfl dX5_aboveAllowance_7 ?_
  refine lv_iload_n hx hb dX5_aboveAllowance_10 rfl (lv_at hl 1 rfl) ?_
  refine mk_iald hx hb hK hW 72 (by decide) rfl 0 rfl (j := y) rfl (by omega) (by decide) dX5_aboveAllowance_11 ?_
  refine mk_sayi (y := (b 10 y)) (hX.2.1.2.2.2.2 y hy) ?_
  refine mk_isub hx hb dX5_aboveAllowance_12 ?_
  refine mk_mmax hx hb (hml.trans hl.1.symm) hown mlmax msmax mimax mcmax (Nat.le_of_ble_eq_true rfl) (Nat.le_of_ble_eq_true rfl) (Nat.zero_le _) (Nat.zero_le _) dX5_aboveAllowance_13 (by omega) (by omega) ?_
  exact mk_retI hx hb hr hlocks hW ⟨rfl, by rw [hg]; rfl⟩ dX5_aboveAllowance_16

set_option maxHeartbeats 4000000 in
set_option maxRecDepth 100000 in
theorem c_X5_lossesOutOf (l : Launch) (cg : Nat → ClassId) (D : va_G) (ad : Nat → Nat) (st : Nat → Nat → Int) (b : Nat → Nat → Int) (hX : XI st b) (y : Nat) (hy : y ≤ 5) : MI l yX5_lossesOutOf wsX5_lossesOutOf ({ frames := 3, cells := 0, slots := 0, locals := 100 }) D vwCl (TY cg) 73 (celX cg) ad st [.ref (ad 0), .int (iI ((y : Int) - 1))] (fun z st1 => st1 = st ∧ z = yL b (xR st) (xD st) y) := by
  refine mk_open (cc := cX5_lossesOutOf) (maxL := 5) (ret := (some .int)) (by decide) rfl (Nat.le_of_ble_eq_true rfl) ?_
  intro p e s m args below meth c hx hb hml hr hown hts hlocks hK hN hargs ls hl hW
  have hown : s.vm.findClass RX5 = some m.cls := hown
  have hl : lv_has ls 5 [(0, .ref (ad 0)), (1, .int (iI ((y : Int) - 1)))] := hl
  have mlmin := hts (.methodLink RX5 191 Lib.Math.min.name) (by decide +kernel)
  have msmin := hts (.static Lib.Math.min.name) (by decide +kernel)
  have mimin := hts (.initialized "java/lang/Math") (by decide +kernel)
  have mcmin := hts (.code Lib.Math.min.name Lib.Math.min.code 2 (some .int)) (by decide +kernel)
  refine mk_iconst hx hb (0) dX5_lossesOutOf_0 ?_
  refine lv_istore_n (lv' := [(2, .int (iI 0)), (0, .ref (ad 0)), (1, .int (iI ((y : Int) - 1)))]) hx hb dX5_lossesOutOf_1 rfl hl (by decide) rfl (fun ls hl => ?_)
  refine mk_iconst hx hb (0) dX5_lossesOutOf_2 ?_
  refine lv_istore_n (lv' := [(3, .int (iI 0)), (2, .int (iI 0)), (0, .ref (ad 0)), (1, .int (iI ((y : Int) - 1)))]) hx hb dX5_lossesOutOf_3 rfl hl (by decide) rfl (fun ls hl => ?_)
  have loop4 : ∀ (fuel : Nat) (k : Nat) (acc : Int), (k ≤ y) → (acc = yL b (xR st) (xD st) k) → y - k < fuel → ∀ (H : Heap) (locs : List Loc) (ls : Array Slot), GW D vwCl 73 (celX cg) ad (wA 73 ad) s.heap st H locs → lv_has ls 5 [(0, .ref (ad 0)), (1, .int (iI ((y : Int) - 1))), (2, .int (iI acc)), (3, .int (iI ((k : Nat) : Int)))] → W p l e (headSpec wsX5_lossesOutOf ({ frames := 3, cells := 0, slots := 0, locals := 100 })).room s m args below meth c H locs 0 0 (MQ below (va_Qi (fun (r : Int32) (u : Nat → Nat → Int) => ∃ z : Int, r = iI z ∧ (fun z st1 => st1 = st ∧ z = yL b (xR st) (xD st) y) z u) (mB D vwCl 73 (celX cg) ad) (wA 73 ad)) args s 0 0 (wA 73 ad)) (F0 m 4 ls []) := by
    intro fuel
    induction fuel with
    | zero => intro k acc hk hacc hmu; omega
    | succ fuel ih4 =>
      intro k acc hk hacc hmu H locs ls hW hl
      have hlb := yL_bd hX.1 hX.rows k
      rw [← hacc] at hlb
      refine lv_iload_n hx hb dX5_lossesOutOf_4 rfl (lv_at hl 3 rfl) ?_
      refine lv_iload_n hx hb dX5_lossesOutOf_5 rfl (lv_at hl 1 rfl) ?_
      refine mk_icmp_gt (tgt := 52) hx hb dX5_lossesOutOf_6 (by decide) (by omega) (by omega) (fun c_6 => ?_) (fun c_6 => ?_)
      · skip
        refine lv_iload_n hx hb dX5_lossesOutOf_52 rfl (lv_at hl 2 rfl) ?_
        exact mk_retI hx hb hr hlocks hW ⟨rfl, by rw [hacc, show k = y by omega]⟩ dX5_lossesOutOf_53
      · skip
        refine lv_iload_n hx hb dX5_lossesOutOf_9 rfl (lv_at hl 3 rfl) ?_
        refine mk_iconst hx hb (5) dX5_lossesOutOf_10 ?_
        refine mk_icmp_ge (tgt := 52) hx hb dX5_lossesOutOf_11 (by decide) (by omega) (by omega) (fun c_11 => ?_) (fun c_11 => ?_)
        · skip
          refine lv_iload_n hx hb dX5_lossesOutOf_52 rfl (lv_at hl 2 rfl) ?_
          exact mk_retI hx hb hr hlocks hW ⟨rfl, by rw [hacc, show k = y by omega]⟩ dX5_lossesOutOf_53
        · skip
          refine lv_aload_n hx hb dX5_lossesOutOf_14 rfl (lv_at hl 0 rfl) ?_
          refine lv_iload_n hx hb dX5_lossesOutOf_15 rfl (lv_at hl 3 rfl) ?_
          refine mk_goI (va_runV (As := [.int (iI ((k : Nat) : Int))]) (rest := []) ⟨hx, hb, hml, hown, hts⟩ (c_X5_netOfYear l cg D ad st b hX (k : Int) (by omega)) (cwV 1 hts gX5_lossesOutOf_X5_netOfYear rfl rfl rfl (by decide +kernel) ⟨Nat.le_of_ble_eq_true rfl, Nat.le_of_ble_eq_true rfl⟩) (mk_preV hK hN hW 0 (by decide) rfl rfl rfl) rfl rfl hl.1 rfl (lv_room (Nat.le_of_ble_eq_true rfl)) dX5_lossesOutOf_16 ⟨Nat.zero_le _, Nat.zero_le _⟩) hW (fun g st1 hp16 H locs hW => ?_)
          obtain ⟨est1, hg⟩ := hp16
          rw [est1] at hW
          have hnb := yN_bd hX.1 hX.rows (k : Int)
          rw [← hg] at hnb
          refine lv_istore (lv' := [(4, .int (iI g)), (0, .ref (ad 0)), (1, .int (iI ((y : Int) - 1))), (2, .int (iI acc)), (3, .int (iI ((k : Nat) : Int)))]) hx hb dX5_lossesOutOf_19 hl (by decide) rfl (fun ls hl => ?_)
          refine lv_iload hx hb dX5_lossesOutOf_21 (lv_at hl 0 rfl) ?_
          refine mk_if_ge (tgt := 34) hx hb dX5_lossesOutOf_23 (by decide) (by omega) (fun c_23 => ?_) (fun c_23 => ?_)
          · skip
            refine lv_iload_n hx hb dX5_lossesOutOf_34 rfl (lv_at hl 3 rfl) ?_
            refine lv_iload_n hx hb dX5_lossesOutOf_35 rfl (lv_at hl 3 rfl) ?_
            refine lv_aload_n hx hb dX5_lossesOutOf_36 rfl (lv_at hl 1 rfl) ?_
            refine lv_iload_n hx hb dX5_lossesOutOf_37 rfl (lv_at hl 4 rfl) ?_
            refine mk_goI (va_runV (As := [.int (iI ((k : Nat) : Int))]) (rest := [.int (iI acc), .int (iI acc)]) ⟨hx, hb, hml, hown, hts⟩ (c_X5_aboveAllowance l cg D ad st b hX k (by omega)) (cwV 1 hts gX5_lossesOutOf_X5_aboveAllowance rfl rfl rfl (by decide +kernel) ⟨Nat.le_of_ble_eq_true rfl, Nat.le_of_ble_eq_true rfl⟩) (mk_preV hK hN hW 0 (by decide) rfl rfl rfl) rfl rfl hl.1 rfl (lv_room (Nat.le_of_ble_eq_true rfl)) dX5_lossesOutOf_38 ⟨Nat.zero_le _, Nat.zero_le _⟩) hW (fun f st2 hp38 H locs hW => ?_)
            obtain ⟨est2, hf⟩ := hp38
            rw [est2] at hW
            have hfb : 0 ≤ f ∧ f ≤ 180000000 := by have h1 := yN_bd hX.1 hX.rows (k : Int); have h2 := hX.1.2.2.2.2.2 k (by omega); rw [hf]; unfold yA; omega
            refine mk_mmin hx hb (hml.trans hl.1.symm) hown mlmin msmin mimin mcmin (Nat.le_of_ble_eq_true rfl) (Nat.le_of_ble_eq_true rfl) (Nat.zero_le _) (Nat.zero_le _) dX5_lossesOutOf_41 (by omega) (by omega) ?_
            refine mk_isub hx hb dX5_lossesOutOf_44 ?_
            refine lv_istore_n (lv' := [(2, .int (iI (acc - (min acc f)))), (4, .int (iI g)), (0, .ref (ad 0)), (1, .int (iI ((y : Int) - 1))), (3, .int (iI ((k : Nat) : Int)))]) hx hb dX5_lossesOutOf_45 rfl hl (by decide) rfl (fun ls hl => ?_)
            refine mk_iinc (w := ((k + 1 : Nat) : Int)) (lv' := [(3, .int (iI ((k + 1 : Nat) : Int))), (2, .int (iI (acc - (min acc f)))), (4, .int (iI g)), (0, .ref (ad 0)), (1, .int (iI ((y : Int) - 1)))]) hx hb dX5_lossesOutOf_46 hl (k := 4) rfl (by omega) (by decide) rfl (fun ls hl => ?_)
            refine lv_goto (tgt := 4) hx hb dX5_lossesOutOf_49 (by decide) ?_
            exact ih4 (k + 1) (acc - (min acc f)) (by omega) (by rw [yL, if_neg (show ¬ yN b (xR st) (xD st) k < 0 by omega), hacc, hf]) (by omega) _ _ _ hW (lv_sub hl [3, 4, 1, 0] rfl)
          · skip
            refine lv_iload_n hx hb dX5_lossesOutOf_26 rfl (lv_at hl 3 rfl) ?_
            refine lv_iload hx hb dX5_lossesOutOf_27 (lv_at hl 0 rfl) ?_
            refine mk_isub hx hb dX5_lossesOutOf_29 ?_
            refine lv_istore_n (lv' := [(2, .int (iI (acc - g))), (4, .int (iI g)), (0, .ref (ad 0)), (1, .int (iI ((y : Int) - 1))), (3, .int (iI ((k : Nat) : Int)))]) hx hb dX5_lossesOutOf_30 rfl hl (by decide) rfl (fun ls hl => ?_)
            refine lv_goto (tgt := 46) hx hb dX5_lossesOutOf_31 (by decide) ?_
            refine mk_iinc (w := ((k + 1 : Nat) : Int)) (lv' := [(3, .int (iI ((k + 1 : Nat) : Int))), (2, .int (iI (acc - g))), (4, .int (iI g)), (0, .ref (ad 0)), (1, .int (iI ((y : Int) - 1)))]) hx hb dX5_lossesOutOf_46 hl (k := 4) rfl (by omega) (by decide) rfl (fun ls hl => ?_)
            refine lv_goto (tgt := 4) hx hb dX5_lossesOutOf_49 (by decide) ?_
            exact ih4 (k + 1) (acc - g) (by omega) (by rw [yL, if_pos (show yN b (xR st) (xD st) k < 0 by omega)]; omega) (by omega) _ _ _ hW (lv_sub hl [3, 4, 1, 0] rfl)
  exact loop4 _ 0 0 (Nat.zero_le _) rfl (Nat.lt_succ_self _) _ _ _ hW (lv_sub hl [2, 3, 1, 0] rfl)

set_option maxHeartbeats 4000000 in
set_option maxRecDepth 100000 in
theorem c_X5_carried (l : Launch) (cg : Nat → ClassId) (D : va_G) (ad : Nat → Nat) (st : Nat → Nat → Int) (b : Nat → Nat → Int) (hX : XI st b) (y : Nat) (hy : y < 5) : MI l yX5_carried wsX5_carried ({ frames := 4, cells := 0, slots := 0, locals := 130 }) D vwCl (TY cg) 73 (celX cg) ad st [.ref (ad 0), .int (iI ((y : Nat) : Int))] (fun z st1 => st1 = st ∧ z = yL b (xR st) (xD st) (y + 1)) := by
  refine mk_open (cc := cX5_carried) (maxL := 2) (ret := (some .int)) (by decide) rfl (Nat.le_of_ble_eq_true rfl) ?_
  intro p e s m args below meth c hx hb hml hr hown hts hlocks hK hN hargs ls hl hW
  have hown : s.vm.findClass RX5 = some m.cls := hown
  have hl : lv_has ls 2 [(0, .ref (ad 0)), (1, .int (iI ((y : Nat) : Int)))] := hl
  refine lv_iload_n hx hb dX5_carried_0 rfl (lv_at hl 1 rfl) ?_
  refine mk_goV (va_runS (As := [.int (iI ((y : Nat) : Int))]) (rest := []) ⟨hx, hb, hml, hown, hts⟩ (c_X5_checkYear l cg D ad st (y : Int) (by omega)) (cwS 1 hts gX5_carried_X5_checkYear rfl rfl rfl (by decide +kernel) ⟨Nat.le_of_ble_eq_true rfl, Nat.le_of_ble_eq_true rfl⟩) (mk_preS hK hN hW) rfl rfl hl.1 rfl (lv_room (Nat.le_of_ble_eq_true rfl)) dX5_carried_1 ⟨Nat.zero_le _, Nat.zero_le _⟩) hW (fun st1 hp1 H locs hW => ?_)
  rw [hp1] at hW
  refine lv_aload_n hx hb dX5_carried_4 rfl (lv_at hl 0 rfl) ?_
  refine lv_iload_n hx hb dX5_carried_5 rfl (lv_at hl 1 rfl) ?_
  refine mk_sayi (y := (((y + 1 : Nat) : Int) - 1)) (by omega) ?_
  refine mk_goI (va_runV (As := [.int (iI (((y + 1 : Nat) : Int) - 1))]) (rest := []) ⟨hx, hb, hml, hown, hts⟩ (c_X5_lossesOutOf l cg D ad st b hX (y + 1) (by omega)) (cwV 1 hts gX5_carried_X5_lossesOutOf rfl rfl rfl (by decide +kernel) ⟨Nat.le_of_ble_eq_true rfl, Nat.le_of_ble_eq_true rfl⟩) (mk_preV hK hN hW 0 (by decide) rfl rfl rfl) rfl rfl hl.1 rfl (lv_room (Nat.le_of_ble_eq_true rfl)) dX5_carried_6 ⟨Nat.zero_le _, Nat.zero_le _⟩) hW (fun g st3 hp6 H locs hW => ?_)
  obtain ⟨est3, hg⟩ := hp6
  rw [est3] at hW
  exact mk_retI hx hb hr hlocks hW ⟨rfl, hg⟩ dX5_carried_9

set_option maxHeartbeats 4000000 in
set_option maxRecDepth 100000 in
theorem c_X5_taxable (l : Launch) (cg : Nat → ClassId) (D : va_G) (ad : Nat → Nat) (st : Nat → Nat → Int) (b : Nat → Nat → Int) (hX : XI st b) (y : Nat) (hy : y < 5) : MI l yX5_taxable wsX5_taxable ({ frames := 4, cells := 0, slots := 0, locals := 130 }) D vwCl (TY cg) 73 (celX cg) ad st [.ref (ad 0), .int (iI ((y : Nat) : Int))] (fun z st1 => st1 = st ∧ z = max 0 (yA b (xR st) (xD st) y - yL b (xR st) (xD st) y)) := by
  refine mk_open (cc := cX5_taxable) (maxL := 3) (ret := (some .int)) (by decide) rfl (Nat.le_of_ble_eq_true rfl) ?_
  intro p e s m args below meth c hx hb hml hr hown hts hlocks hK hN hargs ls hl hW
  have hown : s.vm.findClass RX5 = some m.cls := hown
  have hl : lv_has ls 3 [(0, .ref (ad 0)), (1, .int (iI ((y : Nat) : Int)))] := hl
  have mlmin := hts (.methodLink RX5 191 Lib.Math.min.name) (by decide +kernel)
  have msmin := hts (.static Lib.Math.min.name) (by decide +kernel)
  have mimin := hts (.initialized "java/lang/Math") (by decide +kernel)
  have mcmin := hts (.code Lib.Math.min.name Lib.Math.min.code 2 (some .int)) (by decide +kernel)
  have hlb := yL_bd hX.1 hX.rows y
  refine lv_iload_n hx hb dX5_taxable_0 rfl (lv_at hl 1 rfl) ?_
  refine mk_goV (va_runS (As := [.int (iI ((y : Nat) : Int))]) (rest := []) ⟨hx, hb, hml, hown, hts⟩ (c_X5_checkYear l cg D ad st (y : Int) (by omega)) (cwS 1 hts gX5_taxable_X5_checkYear rfl rfl rfl (by decide +kernel) ⟨Nat.le_of_ble_eq_true rfl, Nat.le_of_ble_eq_true rfl⟩) (mk_preS hK hN hW) rfl rfl hl.1 rfl (lv_room (Nat.le_of_ble_eq_true rfl)) dX5_taxable_1 ⟨Nat.zero_le _, Nat.zero_le _⟩) hW (fun st1 hp1 H locs hW => ?_)
  rw [hp1] at hW
  refine lv_aload_n hx hb dX5_taxable_4 rfl (lv_at hl 0 rfl) ?_
  refine lv_iload_n hx hb dX5_taxable_5 rfl (lv_at hl 1 rfl) ?_
  refine mk_goI (va_runV (As := [.int (iI ((y : Nat) : Int))]) (rest := []) ⟨hx, hb, hml, hown, hts⟩ (c_X5_aboveAllowance l cg D ad st b hX y (by omega)) (cwV 1 hts gX5_taxable_X5_aboveAllowance rfl rfl rfl (by decide +kernel) ⟨Nat.le_of_ble_eq_true rfl, Nat.le_of_ble_eq_true rfl⟩) (mk_preV hK hN hW 0 (by decide) rfl rfl rfl) rfl rfl hl.1 rfl (lv_room (Nat.le_of_ble_eq_true rfl)) dX5_taxable_6 ⟨Nat.zero_le _, Nat.zero_le _⟩) hW (fun f st3 hp6 H locs hW => ?_)
  obtain ⟨est3, hf⟩ := hp6
  rw [est3] at hW
  have hfb : 0 ≤ f ∧ f ≤ 180000000 := by have h1 := yN_bd hX.1 hX.rows (y : Int); have h2 := hX.1.2.2.2.2.2 y (by omega); rw [hf]; unfold yA; omega
  refine lv_istore_n (lv' := [(2, .int (iI f)), (0, .ref (ad 0)), (1, .int (iI ((y : Nat) : Int)))]) hx hb dX5_taxable_9 rfl hl (by decide) rfl (fun ls hl => ?_)
  refine lv_iload_n hx hb dX5_taxable_10 rfl (lv_at hl 0 rfl) ?_
  refine lv_aload_n hx hb dX5_taxable_11 rfl (lv_at hl 1 rfl) ?_
  refine lv_iload_n hx hb dX5_taxable_12 rfl (lv_at hl 2 rfl) ?_
  refine mk_iconst hx hb (1) dX5_taxable_13 ?_
  refine mk_isub hx hb dX5_taxable_14 ?_
  refine mk_goI (va_runV (As := [.int (iI (((y : Nat) : Int) - 1))]) (rest := [.int (iI f)]) ⟨hx, hb, hml, hown, hts⟩ (c_X5_lossesOutOf l cg D ad st b hX y (by omega)) (cwV 1 hts gX5_taxable_X5_lossesOutOf rfl rfl rfl (by decide +kernel) ⟨Nat.le_of_ble_eq_true rfl, Nat.le_of_ble_eq_true rfl⟩) (mk_preV hK hN hW 0 (by decide) rfl rfl rfl) rfl rfl hl.1 rfl (lv_room (Nat.le_of_ble_eq_true rfl)) dX5_taxable_15 ⟨Nat.zero_le _, Nat.zero_le _⟩) hW (fun g st4 hp15 H locs hW => ?_)
  obtain ⟨est4, hg⟩ := hp15
  rw [est4] at hW
  rw [← hg] at hlb
  refine lv_iload_n hx hb dX5_taxable_18 rfl (lv_at hl 0 rfl) ?_
  refine mk_mmin hx hb (hml.trans hl.1.symm) hown mlmin msmin mimin mcmin (Nat.le_of_ble_eq_true rfl) (Nat.le_of_ble_eq_true rfl) (Nat.zero_le _) (Nat.zero_le _) dX5_taxable_19 (by omega) (by omega) ?_
  refine mk_isub hx hb dX5_taxable_22 ?_
  exact mk_retI hx hb hr hlocks hW ⟨rfl, by rw [← hf, ← hg]; omega⟩ dX5_taxable_23

