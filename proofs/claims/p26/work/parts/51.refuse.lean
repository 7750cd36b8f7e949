set_option maxHeartbeats 4000000 in
set_option maxRecDepth 100000 in
theorem c_X5_ledgerOf_no (l : Launch) (cg : Nat → ClassId) (D : va_G) (ad : Nat → Nat) (st : Nat → Nat → Int) (hst : l.stackTraces = false) (a : Int) (ha : -2147483648 ≤ a ∧ a < 2147483648) (hno : ¬ (0 ≤ a ∧ a < 3)) : TX l yX5_ledgerOf wsX5_ledgerOf ({ frames := 6, cells := 1, slots := 6, locals := 84 }) D vwCl (TY cg) 73 (celX cg) ad st [.ref (ad 0), .int (iI a)] (xE1) := by
  refine mx_open (cc := cX5_ledgerOf) (maxL := 2) (ret := (some (.object "GainsReckoner$Ledger"))) (by decide) rfl (Nat.le_of_ble_eq_true rfl) ?_
  intro p e s m args below meth c hx hb hml hr hown hts hlocks hK hN hargs ls hl hW hxK hxZ htab
  have hown : s.vm.findClass RX5 = some m.cls := hown
  have hl : lv_has ls 2 [(0, .ref (ad 0)), (1, .int (iI a))] := hl
  refine lv_iload_n hx hb dX5_ledgerOf_0 rfl (lv_at hl 1 rfl) ?_
  refine mk_if_lt (tgt := 9) hx hb dX5_ledgerOf_1 (by decide) (by omega) (fun c_1 => ?_) (fun c_1 => ?_)
  · skip
    exact mx_throw (text := "there is no such share") hx hb hst hown (by decide) (hts (.classLink RX5 88 xE1) (by decide +kernel)) (hts (.initialized xE1) (by decide +kernel)) (fun w h => hts w (List.mem_cons_of_mem _ (List.mem_append_right _ h))) xb1 xo1 hxK hxZ (by decide) (hml.trans hl.1.symm) htab hlocks hW dX5_ledgerOf_9 dX5_ledgerOf_12 dX5_ledgerOf_13 dX5_ledgerOf_15 dX5_ledgerOf_18 (Nat.le_of_ble_eq_true rfl) (Nat.le_of_ble_eq_true rfl) (Nat.le_refl _) (Nat.le_refl _)
  · skip
    refine lv_iload_n hx hb dX5_ledgerOf_4 rfl (lv_at hl 1 rfl) ?_
    refine mk_iconst hx hb (3) dX5_ledgerOf_5 ?_
    refine mk_icmp_lt (tgt := 19) hx hb dX5_ledgerOf_6 (by decide) (by omega) (by omega) (fun c_6 => ?_) (fun c_6 => ?_)
    · skip
      omega
    · skip
      exact mx_throw (text := "there is no such share") hx hb hst hown (by decide) (hts (.classLink RX5 88 xE1) (by decide +kernel)) (hts (.initialized xE1) (by decide +kernel)) (fun w h => hts w (List.mem_cons_of_mem _ (List.mem_append_right _ h))) xb1 xo1 hxK hxZ (by decide) (hml.trans hl.1.symm) htab hlocks hW dX5_ledgerOf_9 dX5_ledgerOf_12 dX5_ledgerOf_13 dX5_ledgerOf_15 dX5_ledgerOf_18 (Nat.le_of_ble_eq_true rfl) (Nat.le_of_ble_eq_true rfl) (Nat.le_refl _) (Nat.le_refl _)

set_option maxHeartbeats 4000000 in
set_option maxRecDepth 100000 in
theorem c_X5_ledgerAt_noA (l : Launch) (cg : Nat → ClassId) (D : va_G) (ad : Nat → Nat) (st : Nat → Nat → Int) (hst : l.stackTraces = false) (a d : Int) (ha : -2147483648 ≤ a ∧ a < 2147483648) (hno : ¬ (0 ≤ a ∧ a < 3)) : TX l yX5_ledgerAt wsX5_ledgerAt ({ frames := 7, cells := 1, slots := 6, locals := 110 }) D vwCl (TY cg) 73 (celX cg) ad st [.ref (ad 0), .int (iI a), .int (iI d)] (xE1) := by
  refine mx_open (cc := cX5_ledgerAt) (maxL := 4) (ret := (some (.object "GainsReckoner$Ledger"))) (by decide) rfl (Nat.le_of_ble_eq_true rfl) ?_
  intro p e s m args below meth c hx hb hml hr hown hts hlocks hK hN hargs ls hl hW hxK hxZ htab
  have hown : s.vm.findClass RX5 = some m.cls := hown
  have hl : lv_has ls 4 [(0, .ref (ad 0)), (1, .int (iI a)), (2, .int (iI d))] := hl
  refine lv_aload_n hx hb dX5_ledgerAt_0 rfl (lv_at hl 0 rfl) ?_
  refine lv_iload_n hx hb dX5_ledgerAt_1 rfl (lv_at hl 1 rfl) ?_
  exact mx_go (vx_runV (As := [.int (iI a)]) (rest := []) ⟨hx, hb, hml, hown, hts⟩ (c_X5_ledgerOf_no l cg D ad st hst a ha hno) (cwV 1 hts gX5_ledgerAt_X5_ledgerOf rfl rfl rfl (by decide +kernel) ⟨Nat.le_of_ble_eq_true rfl, Nat.le_of_ble_eq_true rfl⟩) (mx_preV hK hN hxK hxZ hW 0 (by decide) rfl rfl rfl) rfl rfl hl.1 rfl (lv_room (Nat.le_of_ble_eq_true rfl)) dX5_ledgerAt_2 ⟨Nat.le_refl _, Nat.le_refl _⟩) hW (fun ce q9 H1 locs1 hW1 _ hce hcv hcl => mx_out htab hlocks hW1 hce hcv hcl)

set_option maxHeartbeats 4000000 in
set_option maxRecDepth 100000 in
theorem c_X5_ledgerAt_noD_0 (l : Launch) (cg : Nat → ClassId) (D : va_G) (ad : Nat → Nat) (st : Nat → Nat → Int) (hst : l.stackTraces = false) (d : Int) (hd : -2147483648 ≤ d ∧ d < 2147483648) (hno : ¬ (0 ≤ d ∧ d < 1825)) : TX l yX5_ledgerAt wsX5_ledgerAt ({ frames := 7, cells := 1, slots := 6, locals := 110 }) D vwCl (TY cg) 73 (celX cg) ad st [.ref (ad 0), .int (iI 0), .int (iI d)] (xE1) := by
  refine mx_open (cc := cX5_ledgerAt) (maxL := 4) (ret := (some (.object "GainsReckoner$Ledger"))) (by decide) rfl (Nat.le_of_ble_eq_true rfl) ?_
  intro p e s m args below meth c hx hb hml hr hown hts hlocks hK hN hargs ls hl hW hxK hxZ htab
  have hown : s.vm.findClass RX5 = some m.cls := hown
  have hl : lv_has ls 4 [(0, .ref (ad 0)), (1, .int (iI 0)), (2, .int (iI d))] := hl
  refine lv_aload_n hx hb dX5_ledgerAt_0 rfl (lv_at hl 0 rfl) ?_
  refine lv_iload_n hx hb dX5_ledgerAt_1 rfl (lv_at hl 1 rfl) ?_
  refine mk_goR (st9 := st) (va_runV (As := [.int (iI 0)]) (rest := []) ⟨hx, hb, hml, hown, hts⟩ (c_X5_ledgerOf_0 l cg D ad st) (cwV 1 hts gX5_ledgerAt_X5_ledgerOf rfl rfl rfl (by decide +kernel) ⟨Nat.le_of_ble_eq_true rfl, Nat.le_of_ble_eq_true rfl⟩) (mk_preV hK hN hW 0 (by decide) rfl rfl rfl) rfl rfl hl.1 rfl (lv_room (Nat.le_of_ble_eq_true rfl)) dX5_ledgerAt_2 ⟨Nat.zero_le _, Nat.zero_le _⟩) hW (fun H locs hW => ?_)
  refine lv_astore_n (lv' := [(3, .ref (ad 9)), (0, .ref (ad 0)), (1, .int (iI 0)), (2, .int (iI d))]) hx hb dX5_ledgerAt_5 rfl hl (by decide) rfl (fun ls hl => ?_)
  refine lv_iload_n hx hb dX5_ledgerAt_6 rfl (lv_at hl 3 rfl) ?_
  refine mk_if_lt (tgt := 17) hx hb dX5_ledgerAt_7 (by decide) (by omega) (fun c_7 => ?_) (fun c_7 => ?_)
  · skip
    exact mx_throw (text := "there is no such day") hx hb hst hown (by decide) (hts (.classLink RX5 88 xE1) (by decide +kernel)) (hts (.initialized xE1) (by decide +kernel)) (fun w h => hts w (List.mem_cons_of_mem _ (List.mem_append_right _ h))) xb1 xo1 hxK hxZ (by decide) (hml.trans hl.1.symm) htab hlocks hW dX5_ledgerAt_17 dX5_ledgerAt_20 dX5_ledgerAt_21 dX5_ledgerAt_23 dX5_ledgerAt_26 (Nat.le_of_ble_eq_true rfl) (Nat.le_of_ble_eq_true rfl) (Nat.le_refl _) (Nat.le_refl _)
  · skip
    refine lv_iload_n hx hb dX5_ledgerAt_10 rfl (lv_at hl 3 rfl) ?_
    refine mk_sipush hx hb (1825) (by decide +kernel) dX5_ledgerAt_11 ?_
    refine mk_icmp_lt (tgt := 27) hx hb dX5_ledgerAt_14 (by decide) (by omega) (by omega) (fun c_14 => ?_) (fun c_14 => ?_)
    · skip
      omega
    · skip
      exact mx_throw (text := "there is no such day") hx hb hst hown (by decide) (hts (.classLink RX5 88 xE1) (by decide +kernel)) (hts (.initialized xE1) (by decide +kernel)) (fun w h => hts w (List.mem_cons_of_mem _ (List.mem_append_right _ h))) xb1 xo1 hxK hxZ (by decide) (hml.trans hl.1.symm) htab hlocks hW dX5_ledgerAt_17 dX5_ledgerAt_20 dX5_ledgerAt_21 dX5_ledgerAt_23 dX5_ledgerAt_26 (Nat.le_of_ble_eq_true rfl) (Nat.le_of_ble_eq_true rfl) (Nat.le_refl _) (Nat.le_refl _)

set_option maxHeartbeats 4000000 in
set_option maxRecDepth 100000 in
theorem c_X5_ledgerAt_noD_1 (l : Launch) (cg : Nat → ClassId) (D : va_G) (ad : Nat → Nat) (st : Nat → Nat → Int) (hst : l.stackTraces = false) (d : Int) (hd : -2147483648 ≤ d ∧ d < 2147483648) (hno : ¬ (0 ≤ d ∧ d < 1825)) : TX l yX5_ledgerAt wsX5_ledgerAt ({ frames := 7, cells := 1, slots := 6, locals := 110 }) D vwCl (TY cg) 73 (celX cg) ad st [.ref (ad 0), .int (iI 1), .int (iI d)] (xE1) := by
  refine mx_open (cc := cX5_ledgerAt) (maxL := 4) (ret := (some (.object "GainsReckoner$Ledger"))) (by decide) rfl (Nat.le_of_ble_eq_true rfl) ?_
  intro p e s m args below meth c hx hb hml hr hown hts hlocks hK hN hargs ls hl hW hxK hxZ htab
  have hown : s.vm.findClass RX5 = some m.cls := hown
  have hl : lv_has ls 4 [(0, .ref (ad 0)), (1, .int (iI 1)), (2, .int (iI d))] := hl
  refine lv_aload_n hx hb dX5_ledgerAt_0 rfl (lv_at hl 0 rfl) ?_
  refine lv_iload_n hx hb dX5_ledgerAt_1 rfl (lv_at hl 1 rfl) ?_
  refine mk_goR (st9 := st) (va_runV (As := [.int (iI 1)]) (rest := []) ⟨hx, hb, hml, hown, hts⟩ (c_X5_ledgerOf_1 l cg D ad st) (cwV 1 hts gX5_ledgerAt_X5_ledgerOf rfl rfl rfl (by decide +kernel) ⟨Nat.le_of_ble_eq_true rfl, Nat.le_of_ble_eq_true rfl⟩) (mk_preV hK hN hW 0 (by decide) rfl rfl rfl) rfl rfl hl.1 rfl (lv_room (Nat.le_of_ble_eq_true rfl)) dX5_ledgerAt_2 ⟨Nat.zero_le _, Nat.zero_le _⟩) hW (fun H locs hW => ?_)
  refine lv_astore_n (lv' := [(3, .ref (ad 30)), (0, .ref (ad 0)), (1, .int (iI 1)), (2, .int (iI d))]) hx hb dX5_ledgerAt_5 rfl hl (by decide) rfl (fun ls hl => ?_)
  refine lv_iload_n hx hb dX5_ledgerAt_6 rfl (lv_at hl 3 rfl) ?_
  refine mk_if_lt (tgt := 17) hx hb dX5_ledgerAt_7 (by decide) (by omega) (fun c_7 => ?_) (fun c_7 => ?_)
  · skip
    exact mx_throw (text := "there is no such day") hx hb hst hown (by decide) (hts (.classLink RX5 88 xE1) (by decide +kernel)) (hts (.initialized xE1) (by decide +kernel)) (fun w h => hts w (List.mem_cons_of_mem _ (List.mem_append_right _ h))) xb1 xo1 hxK hxZ (by decide) (hml.trans hl.1.symm) htab hlocks hW dX5_ledgerAt_17 dX5_ledgerAt_20 dX5_ledgerAt_21 dX5_ledgerAt_23 dX5_ledgerAt_26 (Nat.le_of_ble_eq_true rfl) (Nat.le_of_ble_eq_true rfl) (Nat.le_refl _) (Nat.le_refl _)
  · skip
    refine lv_iload_n hx hb dX5_ledgerAt_10 rfl (lv_at hl 3 rfl) ?_
    refine mk_sipush hx hb (1825) (by decide +kernel) dX5_ledgerAt_11 ?_
    refine mk_icmp_lt (tgt := 27) hx hb dX5_ledgerAt_14 (by decide) (by omega) (by omega) (fun c_14 => ?_) (fun c_14 => ?_)
    · skip
      omega
    · skip
      exact mx_throw (text := "there is no such day") hx hb hst hown (by decide) (hts (.classLink RX5 88 xE1) (by decide +kernel)) (hts (.initialized xE1) (by decide +kernel)) (fun w h => hts w (List.mem_cons_of_mem _ (List.mem_append_right _ h))) xb1 xo1 hxK hxZ (by decide) (hml.trans hl.1.symm) htab hlocks hW dX5_ledgerAt_17 dX5_ledgerAt_20 dX5_ledgerAt_21 dX5_ledgerAt_23 dX5_ledgerAt_26 (Nat.le_of_ble_eq_true rfl) (Nat.le_of_ble_eq_true rfl) (Nat.le_refl _) (Nat.le_refl _)

set_option maxHeartbeats 4000000 in
set_option maxRecDepth 100000 in
theorem c_X5_ledgerAt_noD_2 (l : Launch) (cg : Nat → ClassId) (D : va_G) (ad : Nat → Nat) (st : Nat → Nat → Int) (hst : l.stackTraces = false) (d : Int) (hd : -2147483648 ≤ d ∧ d < 2147483648) (hno : ¬ (0 ≤ d ∧ d < 1825)) : TX l yX5_ledgerAt wsX5_ledgerAt ({ frames := 7, cells := 1, slots := 6, locals := 110 }) D vwCl (TY cg) 73 (celX cg) ad st [.ref (ad 0), .int (iI 2), .int (iI d)] (xE1) := by
  refine mx_open (cc := cX5_ledgerAt) (maxL := 4) (ret := (some (.object "GainsReckoner$Ledger"))) (by decide) rfl (Nat.le_of_ble_eq_true rfl) ?_
  intro p e s m args below meth c hx hb hml hr hown hts hlocks hK hN hargs ls hl hW hxK hxZ htab
  have hown : s.vm.findClass RX5 = some m.cls := hown
  have hl : lv_has ls 4 [(0, .ref (ad 0)), (1, .int (iI 2)), (2, .int (iI d))] := hl
  refine lv_aload_n hx hb dX5_ledgerAt_0 rfl (lv_at hl 0 rfl) ?_
  refine lv_iload_n hx hb dX5_ledgerAt_1 rfl (lv_at hl 1 rfl) ?_
  refine mk_goR (st9 := st) (va_runV (As := [.int (iI 2)]) (rest := []) ⟨hx, hb, hml, hown, hts⟩ (c_X5_ledgerOf_2 l cg D ad st) (cwV 1 hts gX5_ledgerAt_X5_ledgerOf rfl rfl rfl (by decide +kernel) ⟨Nat.le_of_ble_eq_true rfl, Nat.le_of_ble_eq_true rfl⟩) (mk_preV hK hN hW 0 (by decide) rfl rfl rfl) rfl rfl hl.1 rfl (lv_room (Nat.le_of_ble_eq_true rfl)) dX5_ledgerAt_2 ⟨Nat.zero_le _, Nat.zero_le _⟩) hW (fun H locs hW => ?_)
  refine lv_astore_n (lv' := [(3, .ref (ad 51)), (0, .ref (ad 0)), (1, .int (iI 2)), (2, .int (iI d))]) hx hb dX5_ledgerAt_5 rfl hl (by decide) rfl (fun ls hl => ?_)
  refine lv_iload_n hx hb dX5_ledgerAt_6 rfl (lv_at hl 3 rfl) ?_
  refine mk_if_lt (tgt := 17) hx hb dX5_ledgerAt_7 (by decide) (by omega) (fun c_7 => ?_) (fun c_7 => ?_)
  · skip
    exact mx_throw (text := "there is no such day") hx hb hst hown (by decide) (hts (.classLink RX5 88 xE1) (by decide +kernel)) (hts (.initialized xE1) (by decide +kernel)) (fun w h => hts w (List.mem_cons_of_mem _ (List.mem_append_right _ h))) xb1 xo1 hxK hxZ (by decide) (hml.trans hl.1.symm) htab hlocks hW dX5_ledgerAt_17 dX5_ledgerAt_20 dX5_ledgerAt_21 dX5_ledgerAt_23 dX5_ledgerAt_26 (Nat.le_of_ble_eq_true rfl) (Nat.le_of_ble_eq_true rfl) (Nat.le_refl _) (Nat.le_refl _)
  · skip
    refine lv_iload_n hx hb dX5_ledgerAt_10 rfl (lv_at hl 3 rfl) ?_
    refine mk_sipush hx hb (1825) (by decide +kernel) dX5_ledgerAt_11 ?_
    refine mk_icmp_lt (tgt := 27) hx hb dX5_ledgerAt_14 (by decide) (by omega) (by omega) (fun c_14 => ?_) (fun c_14 => ?_)
    · skip
      omega
    · skip
      exact mx_throw (text := "there is no such day") hx hb hst hown (by decide) (hts (.classLink RX5 88 xE1) (by decide +kernel)) (hts (.initialized xE1) (by decide +kernel)) (fun w h => hts w (List.mem_cons_of_mem _ (List.mem_append_right _ h))) xb1 xo1 hxK hxZ (by decide) (hml.trans hl.1.symm) htab hlocks hW dX5_ledgerAt_17 dX5_ledgerAt_20 dX5_ledgerAt_21 dX5_ledgerAt_23 dX5_ledgerAt_26 (Nat.le_of_ble_eq_true rfl) (Nat.le_of_ble_eq_true rfl) (Nat.le_refl _) (Nat.le_refl _)

set_option maxHeartbeats 4000000 in
set_option maxRecDepth 100000 in
theorem c_X5_matchesWith_noA (l : Launch) (cg : Nat → ClassId) (D : va_G) (ad : Nat → Nat) (st : Nat → Nat → Int) (hst : l.stackTraces = false) (a pl : Int) (ha : -2147483648 ≤ a ∧ a < 2147483648) (hno : ¬ (0 ≤ a ∧ a < 3)) : TX l yX5_matchesWith wsX5_matchesWith ({ frames := 7, cells := 1, slots := 6, locals := 110 }) D vwCl (TY cg) 73 (celX cg) ad st [.ref (ad 0), .int (iI a), .int (iI pl)] (xE1) := by
  refine mx_open (cc := cX5_matchesWith) (maxL := 4) (ret := (some (.object "GainsReckoner$Matches"))) (by decide) rfl (Nat.le_of_ble_eq_true rfl) ?_
  intro p e s m args below meth c hx hb hml hr hown hts hlocks hK hN hargs ls hl hW hxK hxZ htab
  have hown : s.vm.findClass RX5 = some m.cls := hown
  have hl : lv_has ls 4 [(0, .ref (ad 0)), (1, .int (iI a)), (2, .int (iI pl))] := hl
  refine lv_aload_n hx hb dX5_matchesWith_0 rfl (lv_at hl 0 rfl) ?_
  refine lv_iload_n hx hb dX5_matchesWith_1 rfl (lv_at hl 1 rfl) ?_
  exact mx_go (vx_runV (As := [.int (iI a)]) (rest := []) ⟨hx, hb, hml, hown, hts⟩ (c_X5_ledgerOf_no l cg D ad st hst a ha hno) (cwV 1 hts gX5_matchesWith_X5_ledgerOf rfl rfl rfl (by decide +kernel) ⟨Nat.le_of_ble_eq_true rfl, Nat.le_of_ble_eq_true rfl⟩) (mx_preV hK hN hxK hxZ hW 0 (by decide) rfl rfl rfl) rfl rfl hl.1 rfl (lv_room (Nat.le_of_ble_eq_true rfl)) dX5_matchesWith_2 ⟨Nat.le_refl _, Nat.le_refl _⟩) hW (fun ce q9 H1 locs1 hW1 _ hce hcv hcl => mx_out htab hlocks hW1 hce hcv hcl)

set_option maxHeartbeats 4000000 in
set_option maxRecDepth 100000 in
theorem c_X5_matchesWith_noM_0 (l : Launch) (cg : Nat → ClassId) (D : va_G) (ad : Nat → Nat) (st : Nat → Nat → Int) (hst : l.stackTraces = false) (b : Nat → Nat → Int) (hX : XI st b) (pl : Int) (hpl : -2147483648 ≤ pl ∧ pl < 2147483648) (hno : ¬ (0 ≤ pl ∧ pl < (bAA b 0 (xR st 0) (xD st 0)).length)) : TX l yX5_matchesWith wsX5_matchesWith ({ frames := 7, cells := 1, slots := 6, locals := 110 }) D vwCl (TY cg) 73 (celX cg) ad st [.ref (ad 0), .int (iI 0), .int (iI pl)] (xE1) := by
  refine mx_open (cc := cX5_matchesWith) (maxL := 4) (ret := (some (.object "GainsReckoner$Matches"))) (by decide) rfl (Nat.le_of_ble_eq_true rfl) ?_
  intro p e s m args below meth c hx hb hml hr hown hts hlocks hK hN hargs ls hl hW hxK hxZ htab
  have hown : s.vm.findClass RX5 = some m.cls := hown
  have hl : lv_has ls 4 [(0, .ref (ad 0)), (1, .int (iI 0)), (2, .int (iI pl))] := hl
  have inX1 : ∀ w ∈ wsX10, w ∈ wsX5_matchesWith := by decide +kernel
  have inX2 : ∀ w ∈ wsX20, w ∈ wsX5_matchesWith := by decide +kernel
  have fn147 := hN.f (args := args) "GainsReckoner" 147 "GainsReckoner$Ledger" "matched" "LGainsReckoner$Matches;" (by decide +kernel)
  have fn156 := hN.f (args := args) "GainsReckoner" 156 "GainsReckoner$Matches" "size" "I" (by decide +kernel)
  have hG := hX.2.2.1 0 (by omega)
  have hRN := hG.RN hX.1 (show 0 < 3 by omega)
  have hlen : (bAA b 0 (xR st 0) (xD st 0)).length ≤ 60 := hG.len hX.1 (show 0 < 3 by omega)
  have hR60 := hRN.1
  refine lv_aload_n hx hb dX5_matchesWith_0 rfl (lv_at hl 0 rfl) ?_
  refine lv_iload_n hx hb dX5_matchesWith_1 rfl (lv_at hl 1 rfl) ?_
  refine mk_goR (st9 := st) (va_runV (As := [.int (iI 0)]) (rest := []) ⟨hx, hb, hml, hown, hts⟩ (c_X5_ledgerOf_0 l cg D ad st) (cwV 1 hts gX5_matchesWith_X5_ledgerOf rfl rfl rfl (by decide +kernel) ⟨Nat.le_of_ble_eq_true rfl, Nat.le_of_ble_eq_true rfl⟩) (mk_preV hK hN hW 0 (by decide) rfl rfl rfl) rfl rfl hl.1 rfl (lv_room (Nat.le_of_ble_eq_true rfl)) dX5_matchesWith_2 ⟨Nat.zero_le _, Nat.zero_le _⟩) hW (fun H locs hW => ?_)
  refine mk_getN (ci := 1) (C := RX1) (T := TX1) (N := 4) hx hb hts inX1 hown hK hW 9 (by decide) rfl rfl 3 (by decide) fn147 (fun _ h9 => h9) rfl dX5_matchesWith_5 ?_
  refine lv_astore_n (lv' := [(3, .ref (ad 23)), (0, .ref (ad 0)), (1, .int (iI 0)), (2, .int (iI pl))]) hx hb dX5_matchesWith_8 rfl hl (by decide) rfl (fun ls hl => ?_)
  refine lv_iload_n hx hb dX5_matchesWith_9 rfl (lv_at hl 3 rfl) ?_
  refine mk_if_lt (tgt := 21) hx hb dX5_matchesWith_10 (by decide) (by omega) (fun c_10 => ?_) (fun c_10 => ?_)
  · skip
    exact mx_throw (text := "there is no such match") hx hb hst hown (by decide) (hts (.classLink RX5 88 xE1) (by decide +kernel)) (hts (.initialized xE1) (by decide +kernel)) (fun w h => hts w (List.mem_cons_of_mem _ (List.mem_append_right _ h))) xb1 xo1 hxK hxZ (by decide) (hml.trans hl.1.symm) htab hlocks hW dX5_matchesWith_21 dX5_matchesWith_24 dX5_matchesWith_25 dX5_matchesWith_27 dX5_matchesWith_30 (Nat.le_of_ble_eq_true rfl) (Nat.le_of_ble_eq_true rfl) (Nat.le_refl _) (Nat.le_refl _)
  · skip
    refine lv_iload_n hx hb dX5_matchesWith_13 rfl (lv_at hl 3 rfl) ?_
    refine lv_aload_n hx hb dX5_matchesWith_14 rfl (lv_at hl 0 rfl) ?_
    refine mk_getN (ci := 2) (C := RX2) (T := TX2) (N := 7) hx hb hts inX2 hown hK hW 23 (by decide) rfl rfl 6 (by decide) fn156 (fun _ h9 => h9) rfl dX5_matchesWith_15 ?_
    refine mk_sayi (y := ((bAA b 0 (xR st 0) (xD st 0)).length : Int)) hG.2.2.2.1.1 ?_
    refine mk_icmp_lt (tgt := 31) hx hb dX5_matchesWith_18 (by decide) (by omega) (by omega) (fun c_18 => ?_) (fun c_18 => ?_)
    · skip
      omega
    · skip
      exact mx_throw (text := "there is no such match") hx hb hst hown (by decide) (hts (.classLink RX5 88 xE1) (by decide +kernel)) (hts (.initialized xE1) (by decide +kernel)) (fun w h => hts w (List.mem_cons_of_mem _ (List.mem_append_right _ h))) xb1 xo1 hxK hxZ (by decide) (hml.trans hl.1.symm) htab hlocks hW dX5_matchesWith_21 dX5_matchesWith_24 dX5_matchesWith_25 dX5_matchesWith_27 dX5_matchesWith_30 (Nat.le_of_ble_eq_true rfl) (Nat.le_of_ble_eq_true rfl) (Nat.le_refl _) (Nat.le_refl _)

set_option maxHeartbeats 4000000 in
set_option maxRecDepth 100000 in
theorem c_X5_matchesWith_noM_1 (l : Launch) (cg : Nat → ClassId) (D : va_G) (ad : Nat → Nat) (st : Nat → Nat → Int) (hst : l.stackTraces = false) (b : Nat → Nat → Int) (hX : XI st b) (pl : Int) (hpl : -2147483648 ≤ pl ∧ pl < 2147483648) (hno : ¬ (0 ≤ pl ∧ pl < (bAA b 1 (xR st 1) (xD st 1)).length)) : TX l yX5_matchesWith wsX5_matchesWith ({ frames := 7, cells := 1, slots := 6, locals := 110 }) D vwCl (TY cg) 73 (celX cg) ad st [.ref (ad 0), .int (iI 1), .int (iI pl)] (xE1) := by
  refine mx_open (cc := cX5_matchesWith) (maxL := 4) (ret := (some (.object "GainsReckoner$Matches"))) (by decide) rfl (Nat.le_of_ble_eq_true rfl) ?_
  intro p e s m args below meth c hx hb hml hr hown hts hlocks hK hN hargs ls hl hW hxK hxZ htab
  have hown : s.vm.findClass RX5 = some m.cls := hown
  have hl : lv_has ls 4 [(0, .ref (ad 0)), (1, .int (iI 1)), (2, .int (iI pl))] := hl
  have inX1 : ∀ w ∈ wsX10, w ∈ wsX5_matchesWith := by decide +kernel
  have inX2 : ∀ w ∈ wsX20, w ∈ wsX5_matchesWith := by decide +kernel
  have fn147 := hN.f (args := args) "GainsReckoner" 147 "GainsReckoner$Ledger" "matched" "LGainsReckoner$Matches;" (by decide +kernel)
  have fn156 := hN.f (args := args) "GainsReckoner" 156 "GainsReckoner$Matches" "size" "I" (by decide +kernel)
  have hG := hX.2.2.1 1 (by omega)
  have hRN := hG.RN hX.1 (show 1 < 3 by omega)
  have hlen : (bAA b 1 (xR st 1) (xD st 1)).length ≤ 60 := hG.len hX.1 (show 1 < 3 by omega)
  have hR60 := hRN.1
  refine lv_aload_n hx hb dX5_matchesWith_0 rfl (lv_at hl 0 rfl) ?_
  refine lv_iload_n hx hb dX5_matchesWith_1 rfl (lv_at hl 1 rfl) ?_
  refine mk_goR (st9 := st) (va_runV (As := [.int (iI 1)]) (rest := []) ⟨hx, hb, hml, hown, hts⟩ (c_X5_ledgerOf_1 l cg D ad st) (cwV 1 hts gX5_matchesWith_X5_ledgerOf rfl rfl rfl (by decide +kernel) ⟨Nat.le_of_ble_eq_true rfl, Nat.le_of_ble_eq_true rfl⟩) (mk_preV hK hN hW 0 (by decide) rfl rfl rfl) rfl rfl hl.1 rfl (lv_room (Nat.le_of_ble_eq_true rfl)) dX5_matchesWith_2 ⟨Nat.zero_le _, Nat.zero_le _⟩) hW (fun H locs hW => ?_)
  refine mk_getN (ci := 1) (C := RX1) (T := TX1) (N := 4) hx hb hts inX1 hown hK hW 30 (by decide) rfl rfl 3 (by decide) fn147 (fun _ h9 => h9) rfl dX5_matchesWith_5 ?_
  refine lv_astore_n (lv' := [(3, .ref (ad 44)), (0, .ref (ad 0)), (1, .int (iI 1)), (2, .int (iI pl))]) hx hb dX5_matchesWith_8 rfl hl (by decide) rfl (fun ls hl => ?_)
  refine lv_iload_n hx hb dX5_matchesWith_9 rfl (lv_at hl 3 rfl) ?_
  refine mk_if_lt (tgt := 21) hx hb dX5_matchesWith_10 (by decide) (by omega) (fun c_10 => ?_) (fun c_10 => ?_)
  · skip
    exact mx_throw (text := "there is no such match") hx hb hst hown (by decide) (hts (.classLink RX5 88 xE1) (by decide +kernel)) (hts (.initialized xE1) (by decide +kernel)) (fun w h => hts w (List.mem_cons_of_mem _ (List.mem_append_right _ h))) xb1 xo1 hxK hxZ (by decide) (hml.trans hl.1.symm) htab hlocks hW dX5_matchesWith_21 dX5_matchesWith_24 dX5_matchesWith_25 dX5_matchesWith_27 dX5_matchesWith_30 (Nat.le_of_ble_eq_true rfl) (Nat.le_of_ble_eq_true rfl) (Nat.le_refl _) (Nat.le_refl _)
  · skip
    refine lv_iload_n hx hb dX5_matchesWith_13 rfl (lv_at hl 3 rfl) ?_
    refine lv_aload_n hx hb dX5_matchesWith_14 rfl (lv_at hl 0 rfl) ?_
    refine mk_getN (ci := 2) (C := RX2) (T := TX2) (N := 7) hx hb hts inX2 hown hK hW 44 (by decide) rfl rfl 6 (by decide) fn156 (fun _ h9 => h9) rfl dX5_matchesWith_15 ?_
    refine mk_sayi (y := ((bAA b 1 (xR st 1) (xD st 1)).length : Int)) hG.2.2.2.1.1 ?_
    refine mk_icmp_lt (tgt := 31) hx hb dX5_matchesWith_18 (by decide) (by omega) (by omega) (fun c_18 => ?_) (fun c_18 => ?_)
    · skip
      omega
    · skip
      exact mx_throw (text := "there is no such match") hx hb hst hown (by decide) (hts (.classLink RX5 88 xE1) (by decide +kernel)) (hts (.initialized xE1) (by decide +kernel)) (fun w h => hts w (List.mem_cons_of_mem _ (List.mem_append_right _ h))) xb1 xo1 hxK hxZ (by decide) (hml.trans hl.1.symm) htab hlocks hW dX5_matchesWith_21 dX5_matchesWith_24 dX5_matchesWith_25 dX5_matchesWith_27 dX5_matchesWith_30 (Nat.le_of_ble_eq_true rfl) (Nat.le_of_ble_eq_true rfl) (Nat.le_refl _) (Nat.le_refl _)

set_option maxHeartbeats 4000000 in
set_option maxRecDepth 100000 in
theorem c_X5_matchesWith_noM_2 (l : Launch) (cg : Nat → ClassId) (D : va_G) (ad : Nat → Nat) (st : Nat → Nat → Int) (hst : l.stackTraces = false) (b : Nat → Nat → Int) (hX : XI st b) (pl : Int) (hpl : -2147483648 ≤ pl ∧ pl < 2147483648) (hno : ¬ (0 ≤ pl ∧ pl < (bAA b 2 (xR st 2) (xD st 2)).length)) : TX l yX5_matchesWith wsX5_matchesWith ({ frames := 7, cells := 1, slots := 6, locals := 110 }) D vwCl (TY cg) 73 (celX cg) ad st [.ref (ad 0), .int (iI 2), .int (iI pl)] (xE1) := by
  refine mx_open (cc := cX5_matchesWith) (maxL := 4) (ret := (some (.object "GainsReckoner$Matches"))) (by decide) rfl (Nat.le_of_ble_eq_true rfl) ?_
  intro p e s m args below meth c hx hb hml hr hown hts hlocks hK hN hargs ls hl hW hxK hxZ htab
  have hown : s.vm.findClass RX5 = some m.cls := hown
  have hl : lv_has ls 4 [(0, .ref (ad 0)), (1, .int (iI 2)), (2, .int (iI pl))] := hl
  have inX1 : ∀ w ∈ wsX10, w ∈ wsX5_matchesWith := by decide +kernel
  have inX2 : ∀ w ∈ wsX20, w ∈ wsX5_matchesWith := by decide +kernel
  have fn147 := hN.f (args := args) "GainsReckoner" 147 "GainsReckoner$Ledger" "matched" "LGainsReckoner$Matches;" (by decide +kernel)
  have fn156 := hN.f (args := args) "GainsReckoner" 156 "GainsReckoner$Matches" "size" "I" (by decide +kernel)
  have hG := hX.2.2.1 2 (by omega)
  have hRN := hG.RN hX.1 (show 2 < 3 by omega)
  have hlen : (bAA b 2 (xR st 2) (xD st 2)).length ≤ 60 := hG.len hX.1 (show 2 < 3 by omega)
  have hR60 := hRN.1
  refine lv_aload_n hx hb dX5_matchesWith_0 rfl (lv_at hl 0 rfl) ?_
  refine lv_iload_n hx hb dX5_matchesWith_1 rfl (lv_at hl 1 rfl) ?_
  refine mk_goR (st9 := st) (va_runV (As := [.int (iI 2)]) (rest := []) ⟨hx, hb, hml, hown, hts⟩ (c_X5_ledgerOf_2 l cg D ad st) (cwV 1 hts gX5_matchesWith_X5_ledgerOf rfl rfl rfl (by decide +kernel) ⟨Nat.le_of_ble_eq_true rfl, Nat.le_of_ble_eq_true rfl⟩) (mk_preV hK hN hW 0 (by decide) rfl rfl rfl) rfl rfl hl.1 rfl (lv_room (Nat.le_of_ble_eq_true rfl)) dX5_matchesWith_2 ⟨Nat.zero_le _, Nat.zero_le _⟩) hW (fun H locs hW => ?_)
  refine mk_getN (ci := 1) (C := RX1) (T := TX1) (N := 4) hx hb hts inX1 hown hK hW 51 (by decide) rfl rfl 3 (by decide) fn147 (fun _ h9 => h9) rfl dX5_matchesWith_5 ?_
  refine lv_astore_n (lv' := [(3, .ref (ad 65)), (0, .ref (ad 0)), (1, .int (iI 2)), (2, .int (iI pl))]) hx hb dX5_matchesWith_8 rfl hl (by decide) rfl (fun ls hl => ?_)
  refine lv_iload_n hx hb dX5_matchesWith_9 rfl (lv_at hl 3 rfl) ?_
  refine mk_if_lt (tgt := 21) hx hb dX5_matchesWith_10 (by decide) (by omega) (fun c_10 => ?_) (fun c_10 => ?_)
  · skip
    exact mx_throw (text := "there is no such match") hx hb hst hown (by decide) (hts (.classLink RX5 88 xE1) (by decide +kernel)) (hts (.initialized xE1) (by decide +kernel)) (fun w h => hts w (List.mem_cons_of_mem _ (List.mem_append_right _ h))) xb1 xo1 hxK hxZ (by decide) (hml.trans hl.1.symm) htab hlocks hW dX5_matchesWith_21 dX5_matchesWith_24 dX5_matchesWith_25 dX5_matchesWith_27 dX5_matchesWith_30 (Nat.le_of_ble_eq_true rfl) (Nat.le_of_ble_eq_true rfl) (Nat.le_refl _) (Nat.le_refl _)
  · skip
    refine lv_iload_n hx hb dX5_matchesWith_13 rfl (lv_at hl 3 rfl) ?_
    refine lv_aload_n hx hb dX5_matchesWith_14 rfl (lv_at hl 0 rfl) ?_
    refine mk_getN (ci := 2) (C := RX2) (T := TX2) (N := 7) hx hb hts inX2 hown hK hW 65 (by decide) rfl rfl 6 (by decide) fn156 (fun _ h9 => h9) rfl dX5_matchesWith_15 ?_
    refine mk_sayi (y := ((bAA b 2 (xR st 2) (xD st 2)).length : Int)) hG.2.2.2.1.1 ?_
    refine mk_icmp_lt (tgt := 31) hx hb dX5_matchesWith_18 (by decide) (by omega) (by omega) (fun c_18 => ?_) (fun c_18 => ?_)
    · skip
      omega
    · skip
      exact mx_throw (text := "there is no such match") hx hb hst hown (by decide) (hts (.classLink RX5 88 xE1) (by decide +kernel)) (hts (.initialized xE1) (by decide +kernel)) (fun w h => hts w (List.mem_cons_of_mem _ (List.mem_append_right _ h))) xb1 xo1 hxK hxZ (by decide) (hml.trans hl.1.symm) htab hlocks hW dX5_matchesWith_21 dX5_matchesWith_24 dX5_matchesWith_25 dX5_matchesWith_27 dX5_matchesWith_30 (Nat.le_of_ble_eq_true rfl) (Nat.le_of_ble_eq_true rfl) (Nat.le_refl _) (Nat.le_refl _)

set_option maxHeartbeats 4000000 in
set_option maxRecDepth 100000 in
theorem c_X5_checkRoomForTrade_no (l : Launch) (cg : Nat → ClassId) (D : va_G) (ad : Nat → Nat) (st : Nat → Nat → Int) (hst : l.stackTraces = false) (hn : st 1 6 = (60 : Nat)) : TX l yX5_checkRoomForTrade wsX5_checkRoomForTrade ({ frames := 6, cells := 1, slots := 6, locals := 84 }) D vwCl (TY cg) 73 (celX cg) ad st [.ref (ad 0)] (xE3) := by
  refine mx_open (cc := cX5_checkRoomForTrade) (maxL := 1) (ret := none) (by decide) rfl (Nat.le_of_ble_eq_true rfl) ?_
  intro p e s m args below meth c hx hb hml hr hown hts hlocks hK hN hargs ls hl hW hxK hxZ htab
  have hown : s.vm.findClass RX5 = some m.cls := hown
  have hl : lv_has ls 1 [(0, .ref (ad 0))] := hl
  have inX5 : ∀ w ∈ wsX50, w ∈ wsX5_checkRoomForTrade := by decide +kernel
  have fl10 := hts (.fieldLink RX5 10 "GainsReckoner" "journal" "LGainsReckoner$Journal;") (by decide +kernel)
  refine lv_aload_n hx hb dX5_checkRoomForTrade_0 rfl (lv_at hl 0 rfl) ?_
  refine mk_get (ci := 5) (C := RX5) (T := TX5) (N := 4) hx hb hts inX5 hown hK hW 0 (by decide) rfl rfl 0 (by decide) fl10 (fun _ h9 => h9) rfl dX5_checkRoomForTrade_1 ?_
  refine mk_goI (va_runV (As := []) (rest := []) ⟨hx, hb, hml, hown, hts⟩ (c_X0_isFull l cg D ad st 60 hn (by omega)) (cwV 0 hts gX5_checkRoomForTrade_X0_isFull rfl rfl rfl (by decide +kernel) ⟨Nat.le_of_ble_eq_true rfl, Nat.le_of_ble_eq_true rfl⟩) (mk_preV hK hN hW 1 (by decide) rfl rfl rfl) rfl rfl hl.1 rfl (lv_room (Nat.le_of_ble_eq_true rfl)) dX5_checkRoomForTrade_4 ⟨Nat.zero_le _, Nat.zero_le _⟩) hW (fun z st1 hp4 H locs hW => ?_)
  obtain ⟨est1, hz⟩ := hp4
  rw [est1] at hW
  refine mk_if_eq (tgt := 20) hx hb dX5_checkRoomForTrade_7 (by decide) (by omega) (fun c_7 => ?_) (fun c_7 => ?_)
  · skip
    omega
  · skip
    exact mx_throw (text := "60 trades were entered") hx hb hst hown (by decide) (hts (.classLink RX5 77 xE3) (by decide +kernel)) (hts (.initialized xE3) (by decide +kernel)) (fun w h => hts w (List.mem_cons_of_mem _ (List.mem_append_right _ h))) xb3 xo3 hxK hxZ (by decide) (hml.trans hl.1.symm) htab hlocks hW dX5_checkRoomForTrade_10 dX5_checkRoomForTrade_13 dX5_checkRoomForTrade_14 dX5_checkRoomForTrade_16 dX5_checkRoomForTrade_19 (Nat.le_of_ble_eq_true rfl) (Nat.le_of_ble_eq_true rfl) (Nat.le_refl _) (Nat.le_refl _)

set_option maxHeartbeats 4000000 in
set_option maxRecDepth 100000 in
theorem c_X5_checkYear_no (l : Launch) (cg : Nat → ClassId) (D : va_G) (ad : Nat → Nat) (st : Nat → Nat → Int) (hst : l.stackTraces = false) (y : Int) (hy : -2147483648 ≤ y ∧ y < 2147483648) (hno : ¬ (0 ≤ y ∧ y < 5)) : TX l yX5_checkYear wsX5_checkYear ({ frames := 6, cells := 1, slots := 6, locals := 84 }) D vwCl (TY cg) 73 (celX cg) ad st [.int (iI y)] (xE1) := by
  refine mx_open (cc := cX5_checkYear) (maxL := 1) (ret := none) (by decide) rfl (Nat.le_of_ble_eq_true rfl) ?_
  intro p e s m args below meth c hx hb hml hr hown hts hlocks hK hN hargs ls hl hW hxK hxZ htab
  have hown : s.vm.findClass RX5 = some m.cls := hown
  have hl : lv_has ls 1 [(0, .int (iI y))] := hl
  refine lv_iload_n hx hb dX5_checkYear_0 rfl (lv_at hl 0 rfl) ?_
  refine mk_if_lt (tgt := 9) hx hb dX5_checkYear_1 (by decide) (by omega) (fun c_1 => ?_) (fun c_1 => ?_)
  · skip
    exact mx_throw (text := "there is no such year") hx hb hst hown (by decide) (hts (.classLink RX5 88 xE1) (by decide +kernel)) (hts (.initialized xE1) (by decide +kernel)) (fun w h => hts w (List.mem_cons_of_mem _ (List.mem_append_right _ h))) xb1 xo1 hxK hxZ (by decide) (hml.trans hl.1.symm) htab hlocks hW dX5_checkYear_9 dX5_checkYear_12 dX5_checkYear_13 dX5_checkYear_15 dX5_checkYear_18 (Nat.le_of_ble_eq_true rfl) (Nat.le_of_ble_eq_true rfl) (Nat.le_refl _) (Nat.le_refl _)
  · skip
    refine lv_iload_n hx hb dX5_checkYear_4 rfl (lv_at hl 0 rfl) ?_
    refine mk_iconst hx hb (5) dX5_checkYear_5 ?_
    refine mk_icmp_lt (tgt := 19) hx hb dX5_checkYear_6 (by decide) (by omega) (by omega) (fun c_6 => ?_) (fun c_6 => ?_)
    · skip
      omega
    · skip
      exact mx_throw (text := "there is no such year") hx hb hst hown (by decide) (hts (.classLink RX5 88 xE1) (by decide +kernel)) (hts (.initialized xE1) (by decide +kernel)) (fun w h => hts w (List.mem_cons_of_mem _ (List.mem_append_right _ h))) xb1 xo1 hxK hxZ (by decide) (hml.trans hl.1.symm) htab hlocks hW dX5_checkYear_9 dX5_checkYear_12 dX5_checkYear_13 dX5_checkYear_15 dX5_checkYear_18 (Nat.le_of_ble_eq_true rfl) (Nat.le_of_ble_eq_true rfl) (Nat.le_refl _) (Nat.le_refl _)

set_option maxHeartbeats 4000000 in
set_option maxRecDepth 100000 in
theorem c_X5_checkMoney_no (l : Launch) (cg : Nat → ClassId) (D : va_G) (ad : Nat → Nat) (st : Nat → Nat → Int) (hst : l.stackTraces = false) (mo : Int) (hm : -2147483648 ≤ mo ∧ mo < 2147483648) (hno : ¬ (0 ≤ mo ∧ mo ≤ 1000000)) : TX l yX5_checkMoney wsX5_checkMoney ({ frames := 6, cells := 1, slots := 6, locals := 84 }) D vwCl (TY cg) 73 (celX cg) ad st [.int (iI mo)] (xE2) := by
  refine mx_open (cc := cX5_checkMoney) (maxL := 1) (ret := none) (by decide) rfl (Nat.le_of_ble_eq_true rfl) ?_
  intro p e s m args below meth c hx hb hml hr hown hts hlocks hK hN hargs ls hl hW hxK hxZ htab
  have hown : s.vm.findClass RX5 = some m.cls := hown
  have hl : lv_has ls 1 [(0, .int (iI mo))] := hl
  have kc213 := hts (.constant RX5 213 (1000000)) (by decide +kernel)
  refine lv_iload_n hx hb dX5_checkMoney_0 rfl (lv_at hl 0 rfl) ?_
  refine mk_if_lt (tgt := 10) hx hb dX5_checkMoney_1 (by decide) (by omega) (fun c_1 => ?_) (fun c_1 => ?_)
  · skip
    exact mx_throw (text := "the amount of money is out of range") hx hb hst hown (by decide) (hts (.classLink RX5 56 xE2) (by decide +kernel)) (hts (.initialized xE2) (by decide +kernel)) (fun w h => hts w (List.mem_cons_of_mem _ (List.mem_append_right _ h))) xb2 xo2 hxK hxZ (by decide) (hml.trans hl.1.symm) htab hlocks hW dX5_checkMoney_10 dX5_checkMoney_13 dX5_checkMoney_14 dX5_checkMoney_16 dX5_checkMoney_19 (Nat.le_of_ble_eq_true rfl) (Nat.le_of_ble_eq_true rfl) (Nat.le_refl _) (Nat.le_refl _)
  · skip
    refine lv_iload_n hx hb dX5_checkMoney_4 rfl (lv_at hl 0 rfl) ?_
    refine mk_ldc hx hb (1000000) hown kc213 dX5_checkMoney_5 ?_
    refine mk_icmp_le (tgt := 20) hx hb dX5_checkMoney_7 (by decide) (by omega) (by omega) (fun c_7 => ?_) (fun c_7 => ?_)
    · skip
      omega
    · skip
      exact mx_throw (text := "the amount of money is out of range") hx hb hst hown (by decide) (hts (.classLink RX5 56 xE2) (by decide +kernel)) (hts (.initialized xE2) (by decide +kernel)) (fun w h => hts w (List.mem_cons_of_mem _ (List.mem_append_right _ h))) xb2 xo2 hxK hxZ (by decide) (hml.trans hl.1.symm) htab hlocks hW dX5_checkMoney_10 dX5_checkMoney_13 dX5_checkMoney_14 dX5_checkMoney_16 dX5_checkMoney_19 (Nat.le_of_ble_eq_true rfl) (Nat.le_of_ble_eq_true rfl) (Nat.le_refl _) (Nat.le_refl _)

set_option maxHeartbeats 4000000 in
set_option maxRecDepth 100000 in
theorem c_X5_checkTrade_noC (l : Launch) (cg : Nat → ClassId) (D : va_G) (ad : Nat → Nat) (st : Nat → Nat → Int) (hst : l.stackTraces = false) (ct mo : Int) (hc : -2147483648 ≤ ct ∧ ct < 2147483648) (hno : ¬ (1 ≤ ct ∧ ct ≤ 1000)) : TX l yX5_checkTrade wsX5_checkTrade ({ frames := 7, cells := 1, slots := 6, locals := 110 }) D vwCl (TY cg) 73 (celX cg) ad st [.int (iI ct), .int (iI mo)] (xE2) := by
  refine mx_open (cc := cX5_checkTrade) (maxL := 2) (ret := none) (by decide) rfl (Nat.le_of_ble_eq_true rfl) ?_
  intro p e s m args below meth c hx hb hml hr hown hts hlocks hK hN hargs ls hl hW hxK hxZ htab
  have hown : s.vm.findClass RX5 = some m.cls := hown
  have hl : lv_has ls 2 [(0, .int (iI ct)), (1, .int (iI mo))] := hl
  refine lv_iload_n hx hb dX5_checkTrade_0 rfl (lv_at hl 0 rfl) ?_
  refine mk_iconst hx hb (1) dX5_checkTrade_1 ?_
  refine mk_icmp_lt (tgt := 12) hx hb dX5_checkTrade_2 (by decide) (by omega) (by omega) (fun c_2 => ?_) (fun c_2 => ?_)
  · skip
    exact mx_throw (text := "the count is out of range") hx hb hst hown (by decide) (hts (.classLink RX5 56 xE2) (by decide +kernel)) (hts (.initialized xE2) (by decide +kernel)) (fun w h => hts w (List.mem_cons_of_mem _ (List.mem_append_right _ h))) xb2 xo2 hxK hxZ (by decide) (hml.trans hl.1.symm) htab hlocks hW dX5_checkTrade_12 dX5_checkTrade_15 dX5_checkTrade_16 dX5_checkTrade_18 dX5_checkTrade_21 (Nat.le_of_ble_eq_true rfl) (Nat.le_of_ble_eq_true rfl) (Nat.le_refl _) (Nat.le_refl _)
  · skip
    refine lv_iload_n hx hb dX5_checkTrade_5 rfl (lv_at hl 0 rfl) ?_
    refine mk_sipush hx hb (1000) (by decide +kernel) dX5_checkTrade_6 ?_
    refine mk_icmp_le (tgt := 22) hx hb dX5_checkTrade_9 (by decide) (by omega) (by omega) (fun c_9 => ?_) (fun c_9 => ?_)
    · skip
      omega
    · skip
      exact mx_throw (text := "the count is out of range") hx hb hst hown (by decide) (hts (.classLink RX5 56 xE2) (by decide +kernel)) (hts (.initialized xE2) (by decide +kernel)) (fun w h => hts w (List.mem_cons_of_mem _ (List.mem_append_right _ h))) xb2 xo2 hxK hxZ (by decide) (hml.trans hl.1.symm) htab hlocks hW dX5_checkTrade_12 dX5_checkTrade_15 dX5_checkTrade_16 dX5_checkTrade_18 dX5_checkTrade_21 (Nat.le_of_ble_eq_true rfl) (Nat.le_of_ble_eq_true rfl) (Nat.le_refl _) (Nat.le_refl _)

set_option maxHeartbeats 4000000 in
set_option maxRecDepth 100000 in
theorem c_X5_checkTrade_noM (l : Launch) (cg : Nat → ClassId) (D : va_G) (ad : Nat → Nat) (st : Nat → Nat → Int) (hst : l.stackTraces = false) (ct mo : Int) (hc : 1 ≤ ct ∧ ct ≤ 1000) (hm : -2147483648 ≤ mo ∧ mo < 2147483648) (hno : ¬ (0 ≤ mo ∧ mo ≤ 1000000)) : TX l yX5_checkTrade wsX5_checkTrade ({ frames := 7, cells := 1, slots := 6, locals := 110 }) D vwCl (TY cg) 73 (celX cg) ad st [.int (iI ct), .int (iI mo)] (xE2) := by
  refine mx_open (cc := cX5_checkTrade) (maxL := 2) (ret := none) (by decide) rfl (Nat.le_of_ble_eq_true rfl) ?_
  intro p e s m args below meth c hx hb hml hr hown hts hlocks hK hN hargs ls hl hW hxK hxZ htab
  have hown : s.vm.findClass RX5 = some m.cls := hown
  have hl : lv_has ls 2 [(0, .int (iI ct)), (1, .int (iI mo))] := hl
  refine lv_iload_n hx hb dX5_checkTrade_0 rfl (lv_at hl 0 rfl) ?_
  refine mk_iconst hx hb (1) dX5_checkTrade_1 ?_
  refine mk_icmp_lt (tgt := 12) hx hb dX5_checkTrade_2 (by decide) (by omega) (by omega) (fun c_2 => ?_) (fun c_2 => ?_)
  · skip
    omega
  · skip
    refine lv_iload_n hx hb dX5_checkTrade_5 rfl (lv_at hl 0 rfl) ?_
    refine mk_sipush hx hb (1000) (by decide +kernel) dX5_checkTrade_6 ?_
    refine mk_icmp_le (tgt := 22) hx hb dX5_checkTrade_9 (by decide) (by omega) (by omega) (fun c_9 => ?_) (fun c_9 => ?_)
    · skip
      refine lv_iload_n hx hb dX5_checkTrade_22 rfl (lv_at hl 1 rfl) ?_
      exact mx_go (vx_runS (As := [.int (iI mo)]) (rest := []) ⟨hx, hb, hml, hown, hts⟩ (c_X5_checkMoney_no l cg D ad st hst mo hm hno) (cwS 1 hts gX5_checkTrade_X5_checkMoney rfl rfl rfl (by decide +kernel) ⟨Nat.le_of_ble_eq_true rfl, Nat.le_of_ble_eq_true rfl⟩) (mx_preS hK hN hxK hxZ hW) rfl rfl hl.1 rfl (lv_room (Nat.le_of_ble_eq_true rfl)) dX5_checkTrade_23 ⟨Nat.le_refl _, Nat.le_refl _⟩) hW (fun ce q9 H1 locs1 hW1 _ hce hcv hcl => mx_out htab hlocks hW1 hce hcv hcl)
    · skip
      omega

set_option maxHeartbeats 4000000 in
set_option maxRecDepth 100000 in
theorem c_X5_checkCanSpare_no_0 (l : Launch) (cg : Nat → ClassId) (D : va_G) (ad : Nat → Nat) (st : Nat → Nat → Int) (hst : l.stackTraces = false) (b : Nat → Nat → Int) (hX : XI st b) (d ct : Int) (hd : 0 ≤ d ∧ d < 1825) (hc : 1 ≤ ct ∧ ct ≤ 1000) (hsp : ∃ e, d ≤ e ∧ bH b 0 e < ct * fla (bSD b 0) (bSF b 0) (bM b 0) d) : TX l yX5_checkCanSpare wsX5_checkCanSpare ({ frames := 6, cells := 1, slots := 6, locals := 84 }) D vwCl (TY cg) 73 (celX cg) ad st [.ref (ad 9), .int (iI d), .int (iI ct)] (xE3) := by
  refine mx_open (cc := cX5_checkCanSpare) (maxL := 4) (ret := none) (by decide) rfl (Nat.le_of_ble_eq_true rfl) ?_
  intro p e s m args below meth c hx hb hml hr hown hts hlocks hK hN hargs ls hl hW hxK hxZ htab
  have hown : s.vm.findClass RX5 = some m.cls := hown
  have hl : lv_has ls 4 [(0, .ref (ad 9)), (1, .int (iI d)), (2, .int (iI ct))] := hl
  have inX1 : ∀ w ∈ wsX10, w ∈ wsX5_checkCanSpare := by decide +kernel
  have fn63 := hN.f (args := args) "GainsReckoner" 63 "GainsReckoner$Ledger" "splits" "LGainsReckoner$Splits;" (by decide +kernel)
  have fn123 := hN.f (args := args) "GainsReckoner" 123 "GainsReckoner$Ledger" "sheet" "LGainsReckoner$Sheet;" (by decide +kernel)
  have hG := hX.2.2.1 0 (by omega)
  have hRN := hG.RN hX.1 (show 0 < 3 by omega)
  have hlen : (bAA b 0 (xR st 0) (xD st 0)).length ≤ 60 := hG.len hX.1 (show 0 < 3 by omega)
  have hR60 := hRN.1
  refine lv_iload_n hx hb dX5_checkCanSpare_0 rfl (lv_at hl 2 rfl) ?_
  refine lv_aload_n hx hb dX5_checkCanSpare_1 rfl (lv_at hl 0 rfl) ?_
  refine mk_getN (ci := 1) (C := RX1) (T := TX1) (N := 4) hx hb hts inX1 hown hK hW 9 (by decide) rfl rfl 1 (by decide) fn63 (fun _ h9 => h9) rfl dX5_checkCanSpare_2 ?_
  refine lv_iload_n hx hb dX5_checkCanSpare_5 rfl (lv_at hl 1 rfl) ?_
  refine mk_sipush hx hb (1825) (by decide +kernel) dX5_checkCanSpare_6 ?_
  refine mk_goIE (EmbL0 cg ad) (va_runV (As := [.int (iI d), .int (iI 1825)]) (rest := [.int (iI ct)]) ⟨hx, hb, hml, hown, hts⟩ (c_X4_factorBetween l cg D (fun j => ad (embL 0 j)) (sub (embL 0) st) d 1825 (bM b 0) (hX.2.1.m hX.1.j (show 0 < 3 by omega)) (hX.2.1.S hX.1.j (show 0 < 3 by omega)) (by omega) (by omega)) (cwV 2 hts gX5_checkCanSpare_X4_factorBetween rfl rfl rfl (by decide +kernel) ⟨Nat.le_of_ble_eq_true rfl, Nat.le_of_ble_eq_true rfl⟩) (mk_preV hK hN (hW.emb (EmbL0 cg ad)) 1 (by decide) rfl rfl rfl) rfl rfl hl.1 rfl (lv_room (Nat.le_of_ble_eq_true rfl)) dX5_checkCanSpare_9 ⟨Nat.zero_le _, Nat.zero_le _⟩) hW (fun f st1 hp9 H locs hW => ?_)
  obtain ⟨est1, hf9⟩ := hp9
  rw [est1, up_self (EmbL0 cg ad).2.1] at hW
  have hf8 : f = fla (bSD b 0) (bSF b 0) (bM b 0) d := by rw [hf9, fac_fla (hX.2.1.S hX.1.j (show 0 < 3 by omega)), hX.2.1.fl (show 0 < 3 by omega)]
  have hfb := fla_bd (hX.1.2.2.1 0 (by omega)).2 d
  rw [← hf8] at hfb
  have hcf1 : 1 * 1 ≤ ct * f := Int.mul_le_mul hc.1 hfb.1 (by omega) (by omega)
  have hcf2 : ct * f ≤ 1000 * 625 := Int.mul_le_mul hc.2 hfb.2 (by omega) (by omega)
  refine mk_imul hx hb dX5_checkCanSpare_12 ?_
  refine lv_istore_n (lv' := [(3, .int (iI (ct * f))), (0, .ref (ad 9)), (1, .int (iI d)), (2, .int (iI ct))]) hx hb dX5_checkCanSpare_13 rfl hl (by decide) rfl (fun ls hl => ?_)
  refine lv_aload_n hx hb dX5_checkCanSpare_14 rfl (lv_at hl 1 rfl) ?_
  refine mk_getN (ci := 1) (C := RX1) (T := TX1) (N := 4) hx hb hts inX1 hown hK hW 9 (by decide) rfl rfl 2 (by decide) fn123 (fun _ h9 => h9) rfl dX5_checkCanSpare_15 ?_
  refine lv_iload_n hx hb dX5_checkCanSpare_18 rfl (lv_at hl 2 rfl) ?_
  refine mk_goIE (EmbL0 cg ad) (va_runV (As := [.int (iI d)]) (rest := []) ⟨hx, hb, hml, hown, hts⟩ (c_X3_leastUnitsFrom l cg D (fun j => ad (embL 0 j)) (sub (embL 0) st) d (lR (sub (embL 0) st)) hG.R hR60 (fun r hr => by have h9 := hRN.2.2.1 r hr; omega) (by omega) (fun r hr => by have h9 := hG.rng hX.1 (show 0 < 3 by omega) r hr; omega)) (cwV 1 hts gX5_checkCanSpare_X3_leastUnitsFrom rfl rfl rfl (by decide +kernel) ⟨Nat.le_of_ble_eq_true rfl, Nat.le_of_ble_eq_true rfl⟩) (mk_preV hK hN (hW.emb (EmbL0 cg ad)) 4 (by decide) rfl rfl rfl) rfl rfl hl.1 rfl (lv_room (Nat.le_of_ble_eq_true rfl)) dX5_checkCanSpare_19 ⟨Nat.zero_le _, Nat.zero_le _⟩) hW (fun z st2 hp19 H locs hW => ?_)
  obtain ⟨est2, hl9⟩ := hp19
  rw [est2, up_self (EmbL0 cg ad).2.1] at hW
  obtain ⟨hzr, -, hzm⟩ := hG.least hX.1 (show 0 < 3 by omega) hl9
  obtain ⟨e9, he9, hs9⟩ := hsp
  have hz9 := hzm e9 he9
  rw [← hf8] at hs9
  refine lv_iload_n hx hb dX5_checkCanSpare_22 rfl (lv_at hl 0 rfl) ?_
  refine mk_icmp_ge (tgt := 36) hx hb dX5_checkCanSpare_23 (by decide) (by omega) (by omega) (fun c_23 => ?_) (fun c_23 => ?_)
  · skip
    omega
  · skip
    exact mx_throw (text := "the holding would be below 0 at the end of some day") hx hb hst hown (by decide) (hts (.classLink RX5 77 xE3) (by decide +kernel)) (hts (.initialized xE3) (by decide +kernel)) (fun w h => hts w (List.mem_cons_of_mem _ (List.mem_append_right _ h))) xb3 xo3 hxK hxZ (by decide) (hml.trans hl.1.symm) htab hlocks hW dX5_checkCanSpare_26 dX5_checkCanSpare_29 dX5_checkCanSpare_30 dX5_checkCanSpare_32 dX5_checkCanSpare_35 (Nat.le_of_ble_eq_true rfl) (Nat.le_of_ble_eq_true rfl) (Nat.le_refl _) (Nat.le_refl _)

set_option maxHeartbeats 4000000 in
set_option maxRecDepth 100000 in
theorem c_X5_checkCanSpare_no_1 (l : Launch) (cg : Nat → ClassId) (D : va_G) (ad : Nat → Nat) (st : Nat → Nat → Int) (hst : l.stackTraces = false) (b : Nat → Nat → Int) (hX : XI st b) (d ct : Int) (hd : 0 ≤ d ∧ d < 1825) (hc : 1 ≤ ct ∧ ct ≤ 1000) (hsp : ∃ e, d ≤ e ∧ bH b 1 e < ct * fla (bSD b 1) (bSF b 1) (bM b 1) d) : TX l yX5_checkCanSpare wsX5_checkCanSpare ({ frames := 6, cells := 1, slots := 6, locals := 84 }) D vwCl (TY cg) 73 (celX cg) ad st [.ref (ad 30), .int (iI d), .int (iI ct)] (xE3) := by
  refine mx_open (cc := cX5_checkCanSpare) (maxL := 4) (ret := none) (by decide) rfl (Nat.le_of_ble_eq_true rfl) ?_
  intro p e s m args below meth c hx hb hml hr hown hts hlocks hK hN hargs ls hl hW hxK hxZ htab
  have hown : s.vm.findClass RX5 = some m.cls := hown
  have hl : lv_has ls 4 [(0, .ref (ad 30)), (1, .int (iI d)), (2, .int (iI ct))] := hl
  have inX1 : ∀ w ∈ wsX10, w ∈ wsX5_checkCanSpare := by decide +kernel
  have fn63 := hN.f (args := args) "GainsReckoner" 63 "GainsReckoner$Ledger" "splits" "LGainsReckoner$Splits;" (by decide +kernel)
  have fn123 := hN.f (args := args) "GainsReckoner" 123 "GainsReckoner$Ledger" "sheet" "LGainsReckoner$Sheet;" (by decide +kernel)
  have hG := hX.2.2.1 1 (by omega)
  have hRN := hG.RN hX.1 (show 1 < 3 by omega)
  have hlen : (bAA b 1 (xR st 1) (xD st 1)).length ≤ 60 := hG.len hX.1 (show 1 < 3 by omega)
  have hR60 := hRN.1
  refine lv_iload_n hx hb dX5_checkCanSpare_0 rfl (lv_at hl 2 rfl) ?_
  refine lv_aload_n hx hb dX5_checkCanSpare_1 rfl (lv_at hl 0 rfl) ?_
  refine mk_getN (ci := 1) (C := RX1) (T := TX1) (N := 4) hx hb hts inX1 hown hK hW 30 (by decide) rfl rfl 1 (by decide) fn63 (fun _ h9 => h9) rfl dX5_checkCanSpare_2 ?_
  refine lv_iload_n hx hb dX5_checkCanSpare_5 rfl (lv_at hl 1 rfl) ?_
  refine mk_sipush hx hb (1825) (by decide +kernel) dX5_checkCanSpare_6 ?_
  refine mk_goIE (EmbL1 cg ad) (va_runV (As := [.int (iI d), .int (iI 1825)]) (rest := [.int (iI ct)]) ⟨hx, hb, hml, hown, hts⟩ (c_X4_factorBetween l cg D (fun j => ad (embL 1 j)) (sub (embL 1) st) d 1825 (bM b 1) (hX.2.1.m hX.1.j (show 1 < 3 by omega)) (hX.2.1.S hX.1.j (show 1 < 3 by omega)) (by omega) (by omega)) (cwV 2 hts gX5_checkCanSpare_X4_factorBetween rfl rfl rfl (by decide +kernel) ⟨Nat.le_of_ble_eq_true rfl, Nat.le_of_ble_eq_true rfl⟩) (mk_preV hK hN (hW.emb (EmbL1 cg ad)) 1 (by decide) rfl rfl rfl) rfl rfl hl.1 rfl (lv_room (Nat.le_of_ble_eq_true rfl)) dX5_checkCanSpare_9 ⟨Nat.zero_le _, Nat.zero_le _⟩) hW (fun f st1 hp9 H locs hW => ?_)
  obtain ⟨est1, hf9⟩ := hp9
  rw [est1, up_self (EmbL1 cg ad).2.1] at hW
  have hf8 : f = fla (bSD b 1) (bSF b 1) (bM b 1) d := by rw [hf9, fac_fla (hX.2.1.S hX.1.j (show 1 < 3 by omega)), hX.2.1.fl (show 1 < 3 by omega)]
  have hfb := fla_bd (hX.1.2.2.1 1 (by omega)).2 d
  rw [← hf8] at hfb
  have hcf1 : 1 * 1 ≤ ct * f := Int.mul_le_mul hc.1 hfb.1 (by omega) (by omega)
  have hcf2 : ct * f ≤ 1000 * 625 := Int.mul_le_mul hc.2 hfb.2 (by omega) (by omega)
  refine mk_imul hx hb dX5_checkCanSpare_12 ?_
  refine lv_istore_n (lv' := [(3, .int (iI (ct * f))), (0, .ref (ad 30)), (1, .int (iI d)), (2, .int (iI ct))]) hx hb dX5_checkCanSpare_13 rfl hl (by decide) rfl (fun ls hl => ?_)
  refine lv_aload_n hx hb dX5_checkCanSpare_14 rfl (lv_at hl 1 rfl) ?_
  refine mk_getN (ci := 1) (C := RX1) (T := TX1) (N := 4) hx hb hts inX1 hown hK hW 30 (by decide) rfl rfl 2 (by decide) fn123 (fun _ h9 => h9) rfl dX5_checkCanSpare_15 ?_
  refine lv_iload_n hx hb dX5_checkCanSpare_18 rfl (lv_at hl 2 rfl) ?_
  refine mk_goIE (EmbL1 cg ad) (va_runV (As := [.int (iI d)]) (rest := []) ⟨hx, hb, hml, hown, hts⟩ (c_X3_leastUnitsFrom l cg D (fun j => ad (embL 1 j)) (sub (embL 1) st) d (lR (sub (embL 1) st)) hG.R hR60 (fun r hr => by have h9 := hRN.2.2.1 r hr; omega) (by omega) (fun r hr => by have h9 := hG.rng hX.1 (show 1 < 3 by omega) r hr; omega)) (cwV 1 hts gX5_checkCanSpare_X3_leastUnitsFrom rfl rfl rfl (by decide +kernel) ⟨Nat.le_of_ble_eq_true rfl, Nat.le_of_ble_eq_true rfl⟩) (mk_preV hK hN (hW.emb (EmbL1 cg ad)) 4 (by decide) rfl rfl rfl) rfl rfl hl.1 rfl (lv_room (Nat.le_of_ble_eq_true rfl)) dX5_checkCanSpare_19 ⟨Nat.zero_le _, Nat.zero_le _⟩) hW (fun z st2 hp19 H locs hW => ?_)
  obtain ⟨est2, hl9⟩ := hp19
  rw [est2, up_self (EmbL1 cg ad).2.1] at hW
  obtain ⟨hzr, -, hzm⟩ := hG.least hX.1 (show 1 < 3 by omega) hl9
  obtain ⟨e9, he9, hs9⟩ := hsp
  have hz9 := hzm e9 he9
  rw [← hf8] at hs9
  refine lv_iload_n hx hb dX5_checkCanSpare_22 rfl (lv_at hl 0 rfl) ?_
  refine mk_icmp_ge (tgt := 36) hx hb dX5_checkCanSpare_23 (by decide) (by omega) (by omega) (fun c_23 => ?_) (fun c_23 => ?_)
  · skip
    omega
  · skip
    exact mx_throw (text := "the holding would be below 0 at the end of some day") hx hb hst hown (by decide) (hts (.classLink RX5 77 xE3) (by decide +kernel)) (hts (.initialized xE3) (by decide +kernel)) (fun w h => hts w (List.mem_cons_of_mem _ (List.mem_append_right _ h))) xb3 xo3 hxK hxZ (by decide) (hml.trans hl.1.symm) htab hlocks hW dX5_checkCanSpare_26 dX5_checkCanSpare_29 dX5_checkCanSpare_30 dX5_checkCanSpare_32 dX5_checkCanSpare_35 (Nat.le_of_ble_eq_true rfl) (Nat.le_of_ble_eq_true rfl) (Nat.le_refl _) (Nat.le_refl _)

set_option maxHeartbeats 4000000 in
set_option maxRecDepth 100000 in
theorem c_X5_checkCanSpare_no_2 (l : Launch) (cg : Nat → ClassId) (D : va_G) (ad : Nat → Nat) (st : Nat → Nat → Int) (hst : l.stackTraces = false) (b : Nat → Nat → Int) (hX : XI st b) (d ct : Int) (hd : 0 ≤ d ∧ d < 1825) (hc : 1 ≤ ct ∧ ct ≤ 1000) (hsp : ∃ e, d ≤ e ∧ bH b 2 e < ct * fla (bSD b 2) (bSF b 2) (bM b 2) d) : TX l yX5_checkCanSpare wsX5_checkCanSpare ({ frames := 6, cells := 1, slots := 6, locals := 84 }) D vwCl (TY cg) 73 (celX cg) ad st [.ref (ad 51), .int (iI d), .int (iI ct)] (xE3) := by
  refine mx_open (cc := cX5_checkCanSpare) (maxL := 4) (ret := none) (by decide) rfl (Nat.le_of_ble_eq_true rfl) ?_
  intro p e s m args below meth c hx hb hml hr hown hts hlocks hK hN hargs ls hl hW hxK hxZ htab
  have hown : s.vm.findClass RX5 = some m.cls := hown
  have hl : lv_has ls 4 [(0, .ref (ad 51)), (1, .int (iI d)), (2, .int (iI ct))] := hl
  have inX1 : ∀ w ∈ wsX10, w ∈ wsX5_checkCanSpare := by decide +kernel
  have fn63 := hN.f (args := args) "GainsReckoner" 63 "GainsReckoner$Ledger" "splits" "LGainsReckoner$Splits;" (by decide +kernel)
  have fn123 := hN.f (args := args) "GainsReckoner" 123 "GainsReckoner$Ledger" "sheet" "LGainsReckoner$Sheet;" (by decide +kernel)
  have hG := hX.2.2.1 2 (by omega)
  have hRN := hG.RN hX.1 (show 2 < 3 by omega)
  have hlen : (bAA b 2 (xR st 2) (xD st 2)).length ≤ 60 := hG.len hX.1 (show 2 < 3 by omega)
  have hR60 := hRN.1
  refine lv_iload_n hx hb dX5_checkCanSpare_0 rfl (lv_at hl 2 rfl) ?_
  refine lv_aload_n hx hb dX5_checkCanSpare_1 rfl (lv_at hl 0 rfl) ?_
  refine mk_getN (ci := 1) (C := RX1) (T := TX1) (N := 4) hx hb hts inX1 hown hK hW 51 (by decide) rfl rfl 1 (by decide) fn63 (fun _ h9 => h9) rfl dX5_checkCanSpare_2 ?_
  refine lv_iload_n hx hb dX5_checkCanSpare_5 rfl (lv_at hl 1 rfl) ?_
  refine mk_sipush hx hb (1825) (by decide +kernel) dX5_checkCanSpare_6 ?_
  refine mk_goIE (EmbL2 cg ad) (va_runV (As := [.int (iI d), .int (iI 1825)]) (rest := [.int (iI ct)]) ⟨hx, hb, hml, hown, hts⟩ (c_X4_factorBetween l cg D (fun j => ad (embL 2 j)) (sub (embL 2) st) d 1825 (bM b 2) (hX.2.1.m hX.1.j (show 2 < 3 by omega)) (hX.2.1.S hX.1.j (show 2 < 3 by omega)) (by omega) (by omega)) (cwV 2 hts gX5_checkCanSpare_X4_factorBetween rfl rfl rfl (by decide +kernel) ⟨Nat.le_of_ble_eq_true rfl, Nat.le_of_ble_eq_true rfl⟩) (mk_preV hK hN (hW.emb (EmbL2 cg ad)) 1 (by decide) rfl rfl rfl) rfl rfl hl.1 rfl (lv_room (Nat.le_of_ble_eq_true rfl)) dX5_checkCanSpare_9 ⟨Nat.zero_le _, Nat.zero_le _⟩) hW (fun f st1 hp9 H locs hW => ?_)
  obtain ⟨est1, hf9⟩ := hp9
  rw [est1, up_self (EmbL2 cg ad).2.1] at hW
  have hf8 : f = fla (bSD b 2) (bSF b 2) (bM b 2) d := by rw [hf9, fac_fla (hX.2.1.S hX.1.j (show 2 < 3 by omega)), hX.2.1.fl (show 2 < 3 by omega)]
  have hfb := fla_bd (hX.1.2.2.1 2 (by omega)).2 d
  rw [← hf8] at hfb
  have hcf1 : 1 * 1 ≤ ct * f := Int.mul_le_mul hc.1 hfb.1 (by omega) (by omega)
  have hcf2 : ct * f ≤ 1000 * 625 := Int.mul_le_mul hc.2 hfb.2 (by omega) (by omega)
  refine mk_imul hx hb dX5_checkCanSpare_12 ?_
  refine lv_istore_n (lv' := [(3, .int (iI (ct * f))), (0, .ref (ad 51)), (1, .int (iI d)), (2, .int (iI ct))]) hx hb dX5_checkCanSpare_13 rfl hl (by decide) rfl (fun ls hl => ?_)
  refine lv_aload_n hx hb dX5_checkCanSpare_14 rfl (lv_at hl 1 rfl) ?_
  refine mk_getN (ci := 1) (C := RX1) (T := TX1) (N := 4) hx hb hts inX1 hown hK hW 51 (by decide) rfl rfl 2 (by decide) fn123 (fun _ h9 => h9) rfl dX5_checkCanSpare_15 ?_
  refine lv_iload_n hx hb dX5_checkCanSpare_18 rfl (lv_at hl 2 rfl) ?_
  refine mk_goIE (EmbL2 cg ad) (va_runV (As := [.int (iI d)]) (rest := []) ⟨hx, hb, hml, hown, hts⟩ (c_X3_leastUnitsFrom l cg D (fun j => ad (embL 2 j)) (sub (embL 2) st) d (lR (sub (embL 2) st)) hG.R hR60 (fun r hr => by have h9 := hRN.2.2.1 r hr; omega) (by omega) (fun r hr => by have h9 := hG.rng hX.1 (show 2 < 3 by omega) r hr; omega)) (cwV 1 hts gX5_checkCanSpare_X3_leastUnitsFrom rfl rfl rfl (by decide +kernel) ⟨Nat.le_of_ble_eq_true rfl, Nat.le_of_ble_eq_true rfl⟩) (mk_preV hK hN (hW.emb (EmbL2 cg ad)) 4 (by decide) rfl rfl rfl) rfl rfl hl.1 rfl (lv_room (Nat.le_of_ble_eq_true rfl)) dX5_checkCanSpare_19 ⟨Nat.zero_le _, Nat.zero_le _⟩) hW (fun z st2 hp19 H locs hW => ?_)
  obtain ⟨est2, hl9⟩ := hp19
  rw [est2, up_self (EmbL2 cg ad).2.1] at hW
  obtain ⟨hzr, -, hzm⟩ := hG.least hX.1 (show 2 < 3 by omega) hl9
  obtain ⟨e9, he9, hs9⟩ := hsp
  have hz9 := hzm e9 he9
  rw [← hf8] at hs9
  refine lv_iload_n hx hb dX5_checkCanSpare_22 rfl (lv_at hl 0 rfl) ?_
  refine mk_icmp_ge (tgt := 36) hx hb dX5_checkCanSpare_23 (by decide) (by omega) (by omega) (fun c_23 => ?_) (fun c_23 => ?_)
  · skip
    omega
  · skip
    exact mx_throw (text := "the holding would be below 0 at the end of some day") hx hb hst hown (by decide) (hts (.classLink RX5 77 xE3) (by decide +kernel)) (hts (.initialized xE3) (by decide +kernel)) (fun w h => hts w (List.mem_cons_of_mem _ (List.mem_append_right _ h))) xb3 xo3 hxK hxZ (by decide) (hml.trans hl.1.symm) htab hlocks hW dX5_checkCanSpare_26 dX5_checkCanSpare_29 dX5_checkCanSpare_30 dX5_checkCanSpare_32 dX5_checkCanSpare_35 (Nat.le_of_ble_eq_true rfl) (Nat.le_of_ble_eq_true rfl) (Nat.le_refl _) (Nat.le_refl _)

set_option maxHeartbeats 4000000 in
set_option maxRecDepth 100000 in
theorem c_X5_holding_noA (l : Launch) (cg : Nat → ClassId) (D : va_G) (ad : Nat → Nat) (st : Nat → Nat → Int) (hst : l.stackTraces = false) (a d : Int) (ha : -2147483648 ≤ a ∧ a < 2147483648) (hno : ¬ (0 ≤ a ∧ a < 3)) : TX l yX5_holding wsX5_holding ({ frames := 8, cells := 1, slots := 6, locals := 150 }) D vwCl (TY cg) 73 (celX cg) ad st [.ref (ad 0), .int (iI a), .int (iI d)] (xE1) := by
  refine mx_open (cc := cX5_holding) (maxL := 3) (ret := (some .int)) (by decide) rfl (Nat.le_of_ble_eq_true rfl) ?_
  intro p e s m args below meth c hx hb hml hr hown hts hlocks hK hN hargs ls hl hW hxK hxZ htab
  have hown : s.vm.findClass RX5 = some m.cls := hown
  have hl : lv_has ls 3 [(0, .ref (ad 0)), (1, .int (iI a)), (2, .int (iI d))] := hl
  refine lv_aload_n hx hb dX5_holding_0 rfl (lv_at hl 0 rfl) ?_
  refine lv_iload_n hx hb dX5_holding_1 rfl (lv_at hl 1 rfl) ?_
  refine lv_iload_n hx hb dX5_holding_2 rfl (lv_at hl 2 rfl) ?_
  exact mx_go (vx_runV (As := [.int (iI a), .int (iI d)]) (rest := []) ⟨hx, hb, hml, hown, hts⟩ (c_X5_ledgerAt_noA l cg D ad st hst a d ha hno) (cwV 2 hts gX5_holding_X5_ledgerAt rfl rfl rfl (by decide +kernel) ⟨Nat.le_of_ble_eq_true rfl, Nat.le_of_ble_eq_true rfl⟩) (mx_preV hK hN hxK hxZ hW 0 (by decide) rfl rfl rfl) rfl rfl hl.1 rfl (lv_room (Nat.le_of_ble_eq_true rfl)) dX5_holding_3 ⟨Nat.le_refl _, Nat.le_refl _⟩) hW (fun ce q9 H1 locs1 hW1 _ hce hcv hcl => mx_out htab hlocks hW1 hce hcv hcl)

set_option maxHeartbeats 4000000 in
set_option maxRecDepth 100000 in
theorem c_X5_holding_noD_0 (l : Launch) (cg : Nat → ClassId) (D : va_G) (ad : Nat → Nat) (st : Nat → Nat → Int) (hst : l.stackTraces = false) (d : Int) (hd : -2147483648 ≤ d ∧ d < 2147483648) (hno : ¬ (0 ≤ d ∧ d < 1825)) : TX l yX5_holding wsX5_holding ({ frames := 8, cells := 1, slots := 6, locals := 150 }) D vwCl (TY cg) 73 (celX cg) ad st [.ref (ad 0), .int (iI 0), .int (iI d)] (xE1) := by
  refine mx_open (cc := cX5_holding) (maxL := 3) (ret := (some .int)) (by decide) rfl (Nat.le_of_ble_eq_true rfl) ?_
  intro p e s m args below meth c hx hb hml hr hown hts hlocks hK hN hargs ls hl hW hxK hxZ htab
  have hown : s.vm.findClass RX5 = some m.cls := hown
  have hl : lv_has ls 3 [(0, .ref (ad 0)), (1, .int (iI 0)), (2, .int (iI d))] := hl
  refine lv_aload_n hx hb dX5_holding_0 rfl (lv_at hl 0 rfl) ?_
  refine lv_iload_n hx hb dX5_holding_1 rfl (lv_at hl 1 rfl) ?_
  refine lv_iload_n hx hb dX5_holding_2 rfl (lv_at hl 2 rfl) ?_
  exact mx_go (vx_runV (As := [.int (iI 0), .int (iI d)]) (rest := []) ⟨hx, hb, hml, hown, hts⟩ (c_X5_ledgerAt_noD_0 l cg D ad st hst d hd hno) (cwV 2 hts gX5_holding_X5_ledgerAt rfl rfl rfl (by decide +kernel) ⟨Nat.le_of_ble_eq_true rfl, Nat.le_of_ble_eq_true rfl⟩) (mx_preV hK hN hxK hxZ hW 0 (by decide) rfl rfl rfl) rfl rfl hl.1 rfl (lv_room (Nat.le_of_ble_eq_true rfl)) dX5_holding_3 ⟨Nat.le_refl _, Nat.le_refl _⟩) hW (fun ce q9 H1 locs1 hW1 _ hce hcv hcl => mx_out htab hlocks hW1 hce hcv hcl)

set_option maxHeartbeats 4000000 in
set_option maxRecDepth 100000 in
theorem c_X5_holding_noD_1 (l : Launch) (cg : Nat → ClassId) (D : va_G) (ad : Nat → Nat) (st : Nat → Nat → Int) (hst : l.stackTraces = false) (d : Int) (hd : -2147483648 ≤ d ∧ d < 2147483648) (hno : ¬ (0 ≤ d ∧ d < 1825)) : TX l yX5_holding wsX5_holding ({ frames := 8, cells := 1, slots := 6, locals := 150 }) D vwCl (TY cg) 73 (celX cg) ad st [.ref (ad 0), .int (iI 1), .int (iI d)] (xE1) := by
  refine mx_open (cc := cX5_holding) (maxL := 3) (ret := (some .int)) (by decide) rfl (Nat.le_of_ble_eq_true rfl) ?_
  intro p e s m args below meth c hx hb hml hr hown hts hlocks hK hN hargs ls hl hW hxK hxZ htab
  have hown : s.vm.findClass RX5 = some m.cls := hown
  have hl : lv_has ls 3 [(0, .ref (ad 0)), (1, .int (iI 1)), (2, .int (iI d))] := hl
  refine lv_aload_n hx hb dX5_holding_0 rfl (lv_at hl 0 rfl) ?_
  refine lv_iload_n hx hb dX5_holding_1 rfl (lv_at hl 1 rfl) ?_
  refine lv_iload_n hx hb dX5_holding_2 rfl (lv_at hl 2 rfl) ?_
  exact mx_go (vx_runV (As := [.int (iI 1), .int (iI d)]) (rest := []) ⟨hx, hb, hml, hown, hts⟩ (c_X5_ledgerAt_noD_1 l cg D ad st hst d hd hno) (cwV 2 hts gX5_holding_X5_ledgerAt rfl rfl rfl (by decide +kernel) ⟨Nat.le_of_ble_eq_true rfl, Nat.le_of_ble_eq_true rfl⟩) (mx_preV hK hN hxK hxZ hW 0 (by decide) rfl rfl rfl) rfl rfl hl.1 rfl (lv_room (Nat.le_of_ble_eq_true rfl)) dX5_holding_3 ⟨Nat.le_refl _, Nat.le_refl _⟩) hW (fun ce q9 H1 locs1 hW1 _ hce hcv hcl => mx_out htab hlocks hW1 hce hcv hcl)

set_option maxHeartbeats 4000000 in
set_option maxRecDepth 100000 in
theorem c_X5_holding_noD_2 (l : Launch) (cg : Nat → ClassId) (D : va_G) (ad : Nat → Nat) (st : Nat → Nat → Int) (hst : l.stackTraces = false) (d : Int) (hd : -2147483648 ≤ d ∧ d < 2147483648) (hno : ¬ (0 ≤ d ∧ d < 1825)) : TX l yX5_holding wsX5_holding ({ frames := 8, cells := 1, slots := 6, locals := 150 }) D vwCl (TY cg) 73 (celX cg) ad st [.ref (ad 0), .int (iI 2), .int (iI d)] (xE1) := by
  refine mx_open (cc := cX5_holding) (maxL := 3) (ret := (some .int)) (by decide) rfl (Nat.le_of_ble_eq_true rfl) ?_
  intro p e s m args below meth c hx hb hml hr hown hts hlocks hK hN hargs ls hl hW hxK hxZ htab
  have hown : s.vm.findClass RX5 = some m.cls := hown
  have hl : lv_has ls 3 [(0, .ref (ad 0)), (1, .int (iI 2)), (2, .int (iI d))] := hl
  refine lv_aload_n hx hb dX5_holding_0 rfl (lv_at hl 0 rfl) ?_
  refine lv_iload_n hx hb dX5_holding_1 rfl (lv_at hl 1 rfl) ?_
  refine lv_iload_n hx hb dX5_holding_2 rfl (lv_at hl 2 rfl) ?_
  exact mx_go (vx_runV (As := [.int (iI 2), .int (iI d)]) (rest := []) ⟨hx, hb, hml, hown, hts⟩ (c_X5_ledgerAt_noD_2 l cg D ad st hst d hd hno) (cwV 2 hts gX5_holding_X5_ledgerAt rfl rfl rfl (by decide +kernel) ⟨Nat.le_of_ble_eq_true rfl, Nat.le_of_ble_eq_true rfl⟩) (mx_preV hK hN hxK hxZ hW 0 (by decide) rfl rfl rfl) rfl rfl hl.1 rfl (lv_room (Nat.le_of_ble_eq_true rfl)) dX5_holding_3 ⟨Nat.le_refl _, Nat.le_refl _⟩) hW (fun ce q9 H1 locs1 hW1 _ hce hcv hcl => mx_out htab hlocks hW1 hce hcv hcl)

set_option maxHeartbeats 4000000 in
set_option maxRecDepth 100000 in
theorem c_X5_poolUnits_noA (l : Launch) (cg : Nat → ClassId) (D : va_G) (ad : Nat → Nat) (st : Nat → Nat → Int) (hst : l.stackTraces = false) (a d : Int) (ha : -2147483648 ≤ a ∧ a < 2147483648) (hno : ¬ (0 ≤ a ∧ a < 3)) : TX l yX5_poolUnits wsX5_poolUnits ({ frames := 8, cells := 1, slots := 6, locals := 150 }) D vwCl (TY cg) 73 (celX cg) ad st [.ref (ad 0), .int (iI a), .int (iI d)] (xE1) := by
  refine mx_open (cc := cX5_poolUnits) (maxL := 5) (ret := (some .int)) (by decide) rfl (Nat.le_of_ble_eq_true rfl) ?_
  intro p e s m args below meth c hx hb hml hr hown hts hlocks hK hN hargs ls hl hW hxK hxZ htab
  have hown : s.vm.findClass RX5 = some m.cls := hown
  have hl : lv_has ls 5 [(0, .ref (ad 0)), (1, .int (iI a)), (2, .int (iI d))] := hl
  refine lv_aload_n hx hb dX5_poolUnits_0 rfl (lv_at hl 0 rfl) ?_
  refine lv_iload_n hx hb dX5_poolUnits_1 rfl (lv_at hl 1 rfl) ?_
  refine lv_iload_n hx hb dX5_poolUnits_2 rfl (lv_at hl 2 rfl) ?_
  exact mx_go (vx_runV (As := [.int (iI a), .int (iI d)]) (rest := []) ⟨hx, hb, hml, hown, hts⟩ (c_X5_ledgerAt_noA l cg D ad st hst a d ha hno) (cwV 2 hts gX5_poolUnits_X5_ledgerAt rfl rfl rfl (by decide +kernel) ⟨Nat.le_of_ble_eq_true rfl, Nat.le_of_ble_eq_true rfl⟩) (mx_preV hK hN hxK hxZ hW 0 (by decide) rfl rfl rfl) rfl rfl hl.1 rfl (lv_room (Nat.le_of_ble_eq_true rfl)) dX5_poolUnits_3 ⟨Nat.le_refl _, Nat.le_refl _⟩) hW (fun ce q9 H1 locs1 hW1 _ hce hcv hcl => mx_out htab hlocks hW1 hce hcv hcl)

set_option maxHeartbeats 4000000 in
set_option maxRecDepth 100000 in
theorem c_X5_poolUnits_noD_0 (l : Launch) (cg : Nat → ClassId) (D : va_G) (ad : Nat → Nat) (st : Nat → Nat → Int) (hst : l.stackTraces = false) (d : Int) (hd : -2147483648 ≤ d ∧ d < 2147483648) (hno : ¬ (0 ≤ d ∧ d < 1825)) : TX l yX5_poolUnits wsX5_poolUnits ({ frames := 8, cells := 1, slots := 6, locals := 150 }) D vwCl (TY cg) 73 (celX cg) ad st [.ref (ad 0), .int (iI 0), .int (iI d)] (xE1) := by
  refine mx_open (cc := cX5_poolUnits) (maxL := 5) (ret := (some .int)) (by decide) rfl (Nat.le_of_ble_eq_true rfl) ?_
  intro p e s m args below meth c hx hb hml hr hown hts hlocks hK hN hargs ls hl hW hxK hxZ htab
  have hown : s.vm.findClass RX5 = some m.cls := hown
  have hl : lv_has ls 5 [(0, .ref (ad 0)), (1, .int (iI 0)), (2, .int (iI d))] := hl
  refine lv_aload_n hx hb dX5_poolUnits_0 rfl (lv_at hl 0 rfl) ?_
  refine lv_iload_n hx hb dX5_poolUnits_1 rfl (lv_at hl 1 rfl) ?_
  refine lv_iload_n hx hb dX5_poolUnits_2 rfl (lv_at hl 2 rfl) ?_
  exact mx_go (vx_runV (As := [.int (iI 0), .int (iI d)]) (rest := []) ⟨hx, hb, hml, hown, hts⟩ (c_X5_ledgerAt_noD_0 l cg D ad st hst d hd hno) (cwV 2 hts gX5_poolUnits_X5_ledgerAt rfl rfl rfl (by decide +kernel) ⟨Nat.le_of_ble_eq_true rfl, Nat.le_of_ble_eq_true rfl⟩) (mx_preV hK hN hxK hxZ hW 0 (by decide) rfl rfl rfl) rfl rfl hl.1 rfl (lv_room (Nat.le_of_ble_eq_true rfl)) dX5_poolUnits_3 ⟨Nat.le_refl _, Nat.le_refl _⟩) hW (fun ce q9 H1 locs1 hW1 _ hce hcv hcl => mx_out htab hlocks hW1 hce hcv hcl)

set_option maxHeartbeats 4000000 in
set_option maxRecDepth 100000 in
theorem c_X5_poolUnits_noD_1 (l : Launch) (cg : Nat → ClassId) (D : va_G) (ad : Nat → Nat) (st : Nat → Nat → Int) (hst : l.stackTraces = false) (d : Int) (hd : -2147483648 ≤ d ∧ d < 2147483648) (hno : ¬ (0 ≤ d ∧ d < 1825)) : TX l yX5_poolUnits wsX5_poolUnits ({ frames := 8, cells := 1, slots := 6, locals := 150 }) D vwCl (TY cg) 73 (celX cg) ad st [.ref (ad 0), .int (iI 1), .int (iI d)] (xE1) := by
  refine mx_open (cc := cX5_poolUnits) (maxL := 5) (ret := (some .int)) (by decide) rfl (Nat.le_of_ble_eq_true rfl) ?_
  intro p e s m args below meth c hx hb hml hr hown hts hlocks hK hN hargs ls hl hW hxK hxZ htab
  have hown : s.vm.findClass RX5 = some m.cls := hown
  have hl : lv_has ls 5 [(0, .ref (ad 0)), (1, .int (iI 1)), (2, .int (iI d))] := hl
  refine lv_aload_n hx hb dX5_poolUnits_0 rfl (lv_at hl 0 rfl) ?_
  refine lv_iload_n hx hb dX5_poolUnits_1 rfl (lv_at hl 1 rfl) ?_
  refine lv_iload_n hx hb dX5_poolUnits_2 rfl (lv_at hl 2 rfl) ?_
  exact mx_go (vx_runV (As := [.int (iI 1), .int (iI d)]) (rest := []) ⟨hx, hb, hml, hown, hts⟩ (c_X5_ledgerAt_noD_1 l cg D ad st hst d hd hno) (cwV 2 hts gX5_poolUnits_X5_ledgerAt rfl rfl rfl (by decide +kernel) ⟨Nat.le_of_ble_eq_true rfl, Nat.le_of_ble_eq_true rfl⟩) (mx_preV hK hN hxK hxZ hW 0 (by decide) rfl rfl rfl) rfl rfl hl.1 rfl (lv_room (Nat.le_of_ble_eq_true rfl)) dX5_poolUnits_3 ⟨Nat.le_refl _, Nat.le_refl _⟩) hW (fun ce q9 H1 locs1 hW1 _ hce hcv hcl => mx_out htab hlocks hW1 hce hcv hcl)

set_option maxHeartbeats 4000000 in
set_option maxRecDepth 100000 in
theorem c_X5_poolUnits_noD_2 (l : Launch) (cg : Nat → ClassId) (D : va_G) (ad : Nat → Nat) (st : Nat → Nat → Int) (hst : l.stackTraces = false) (d : Int) (hd : -2147483648 ≤ d ∧ d < 2147483648) (hno : ¬ (0 ≤ d ∧ d < 1825)) : TX l yX5_poolUnits wsX5_poolUnits ({ frames := 8, cells := 1, slots := 6, locals := 150 }) D vwCl (TY cg) 73 (celX cg) ad st [.ref (ad 0), .int (iI 2), .int (iI d)] (xE1) := by
  refine mx_open (cc := cX5_poolUnits) (maxL := 5) (ret := (some .int)) (by decide) rfl (Nat.le_of_ble_eq_true rfl) ?_
  intro p e s m args below meth c hx hb hml hr hown hts hlocks hK hN hargs ls hl hW hxK hxZ htab
  have hown : s.vm.findClass RX5 = some m.cls := hown
  have hl : lv_has ls 5 [(0, .ref (ad 0)), (1, .int (iI 2)), (2, .int (iI d))] := hl
  refine lv_aload_n hx hb dX5_poolUnits_0 rfl (lv_at hl 0 rfl) ?_
  refine lv_iload_n hx hb dX5_poolUnits_1 rfl (lv_at hl 1 rfl) ?_
  refine lv_iload_n hx hb dX5_poolUnits_2 rfl (lv_at hl 2 rfl) ?_
  exact mx_go (vx_runV (As := [.int (iI 2), .int (iI d)]) (rest := []) ⟨hx, hb, hml, hown, hts⟩ (c_X5_ledgerAt_noD_2 l cg D ad st hst d hd hno) (cwV 2 hts gX5_poolUnits_X5_ledgerAt rfl rfl rfl (by decide +kernel) ⟨Nat.le_of_ble_eq_true rfl, Nat.le_of_ble_eq_true rfl⟩) (mx_preV hK hN hxK hxZ hW 0 (by decide) rfl rfl rfl) rfl rfl hl.1 rfl (lv_room (Nat.le_of_ble_eq_true rfl)) dX5_poolUnits_3 ⟨Nat.le_refl _, Nat.le_refl _⟩) hW (fun ce q9 H1 locs1 hW1 _ hce hcv hcl => mx_out htab hlocks hW1 hce hcv hcl)

set_option maxHeartbeats 4000000 in
set_option maxRecDepth 100000 in
theorem c_X5_poolCost_noA (l : Launch) (cg : Nat → ClassId) (D : va_G) (ad : Nat → Nat) (st : Nat → Nat → Int) (hst : l.stackTraces = false) (a d : Int) (ha : -2147483648 ≤ a ∧ a < 2147483648) (hno : ¬ (0 ≤ a ∧ a < 3)) : TX l yX5_poolCost wsX5_poolCost ({ frames := 8, cells := 1, slots := 6, locals := 150 }) D vwCl (TY cg) 73 (celX cg) ad st [.ref (ad 0), .int (iI a), .int (iI d)] (xE1) := by
  refine mx_open (cc := cX5_poolCost) (maxL := 5) (ret := (some .int)) (by decide) rfl (Nat.le_of_ble_eq_true rfl) ?_
  intro p e s m args below meth c hx hb hml hr hown hts hlocks hK hN hargs ls hl hW hxK hxZ htab
  have hown : s.vm.findClass RX5 = some m.cls := hown
  have hl : lv_has ls 5 [(0, .ref (ad 0)), (1, .int (iI a)), (2, .int (iI d))] := hl
  refine lv_aload_n hx hb dX5_poolCost_0 rfl (lv_at hl 0 rfl) ?_
  refine lv_iload_n hx hb dX5_poolCost_1 rfl (lv_at hl 1 rfl) ?_
  refine lv_iload_n hx hb dX5_poolCost_2 rfl (lv_at hl 2 rfl) ?_
  exact mx_go (vx_runV (As := [.int (iI a), .int (iI d)]) (rest := []) ⟨hx, hb, hml, hown, hts⟩ (c_X5_ledgerAt_noA l cg D ad st hst a d ha hno) (cwV 2 hts gX5_poolCost_X5_ledgerAt rfl rfl rfl (by decide +kernel) ⟨Nat.le_of_ble_eq_true rfl, Nat.le_of_ble_eq_true rfl⟩) (mx_preV hK hN hxK hxZ hW 0 (by decide) rfl rfl rfl) rfl rfl hl.1 rfl (lv_room (Nat.le_of_ble_eq_true rfl)) dX5_poolCost_3 ⟨Nat.le_refl _, Nat.le_refl _⟩) hW (fun ce q9 H1 locs1 hW1 _ hce hcv hcl => mx_out htab hlocks hW1 hce hcv hcl)

set_option maxHeartbeats 4000000 in
set_option maxRecDepth 100000 in
theorem c_X5_poolCost_noD_0 (l : Launch) (cg : Nat → ClassId) (D : va_G) (ad : Nat → Nat) (st : Nat → Nat → Int) (hst : l.stackTraces = false) (d : Int) (hd : -2147483648 ≤ d ∧ d < 2147483648) (hno : ¬ (0 ≤ d ∧ d < 1825)) : TX l yX5_poolCost wsX5_poolCost ({ frames := 8, cells := 1, slots := 6, locals := 150 }) D vwCl (TY cg) 73 (celX cg) ad st [.ref (ad 0), .int (iI 0), .int (iI d)] (xE1) := by
  refine mx_open (cc := cX5_poolCost) (maxL := 5) (ret := (some .int)) (by decide) rfl (Nat.le_of_ble_eq_true rfl) ?_
  intro p e s m args below meth c hx hb hml hr hown hts hlocks hK hN hargs ls hl hW hxK hxZ htab
  have hown : s.vm.findClass RX5 = some m.cls := hown
  have hl : lv_has ls 5 [(0, .ref (ad 0)), (1, .int (iI 0)), (2, .int (iI d))] := hl
  refine lv_aload_n hx hb dX5_poolCost_0 rfl (lv_at hl 0 rfl) ?_
  refine lv_iload_n hx hb dX5_poolCost_1 rfl (lv_at hl 1 rfl) ?_
  refine lv_iload_n hx hb dX5_poolCost_2 rfl (lv_at hl 2 rfl) ?_
  exact mx_go (vx_runV (As := [.int (iI 0), .int (iI d)]) (rest := []) ⟨hx, hb, hml, hown, hts⟩ (c_X5_ledgerAt_noD_0 l cg D ad st hst d hd hno) (cwV 2 hts gX5_poolCost_X5_ledgerAt rfl rfl rfl (by decide +kernel) ⟨Nat.le_of_ble_eq_true rfl, Nat.le_of_ble_eq_true rfl⟩) (mx_preV hK hN hxK hxZ hW 0 (by decide) rfl rfl rfl) rfl rfl hl.1 rfl (lv_room (Nat.le_of_ble_eq_true rfl)) dX5_poolCost_3 ⟨Nat.le_refl _, Nat.le_refl _⟩) hW (fun ce q9 H1 locs1 hW1 _ hce hcv hcl => mx_out htab hlocks hW1 hce hcv hcl)

set_option maxHeartbeats 4000000 in
set_option maxRecDepth 100000 in
theorem c_X5_poolCost_noD_1 (l : Launch) (cg : Nat → ClassId) (D : va_G) (ad : Nat → Nat) (st : Nat → Nat → Int) (hst : l.stackTraces = false) (d : Int) (hd : -2147483648 ≤ d ∧ d < 2147483648) (hno : ¬ (0 ≤ d ∧ d < 1825)) : TX l yX5_poolCost wsX5_poolCost ({ frames := 8, cells := 1, slots := 6, locals := 150 }) D vwCl (TY cg) 73 (celX cg) ad st [.ref (ad 0), .int (iI 1), .int (iI d)] (xE1) := by
  refine mx_open (cc := cX5_poolCost) (maxL := 5) (ret := (some .int)) (by decide) rfl (Nat.le_of_ble_eq_true rfl) ?_
  intro p e s m args below meth c hx hb hml hr hown hts hlocks hK hN hargs ls hl hW hxK hxZ htab
  have hown : s.vm.findClass RX5 = some m.cls := hown
  have hl : lv_has ls 5 [(0, .ref (ad 0)), (1, .int (iI 1)), (2, .int (iI d))] := hl
  refine lv_aload_n hx hb dX5_poolCost_0 rfl (lv_at hl 0 rfl) ?_
  refine lv_iload_n hx hb dX5_poolCost_1 rfl (lv_at hl 1 rfl) ?_
  refine lv_iload_n hx hb dX5_poolCost_2 rfl (lv_at hl 2 rfl) ?_
  exact mx_go (vx_runV (As := [.int (iI 1), .int (iI d)]) (rest := []) ⟨hx, hb, hml, hown, hts⟩ (c_X5_ledgerAt_noD_1 l cg D ad st hst d hd hno) (cwV 2 hts gX5_poolCost_X5_ledgerAt rfl rfl rfl (by decide +kernel) ⟨Nat.le_of_ble_eq_true rfl, Nat.le_of_ble_eq_true rfl⟩) (mx_preV hK hN hxK hxZ hW 0 (by decide) rfl rfl rfl) rfl rfl hl.1 rfl (lv_room (Nat.le_of_ble_eq_true rfl)) dX5_poolCost_3 ⟨Nat.le_refl _, Nat.le_refl _⟩) hW (fun ce q9 H1 locs1 hW1 _ hce hcv hcl => mx_out htab hlocks hW1 hce hcv hcl)

set_option maxHeartbeats 4000000 in
set_option maxRecDepth 100000 in
theorem c_X5_poolCost_noD_2 (l : Launch) (cg : Nat → ClassId) (D : va_G) (ad : Nat → Nat) (st : Nat → Nat → Int) (hst : l.stackTraces = false) (d : Int) (hd : -2147483648 ≤ d ∧ d < 2147483648) (hno : ¬ (0 ≤ d ∧ d < 1825)) : TX l yX5_poolCost wsX5_poolCost ({ frames := 8, cells := 1, slots := 6, locals := 150 }) D vwCl (TY cg) 73 (celX cg) ad st [.ref (ad 0), .int (iI 2), .int (iI d)] (xE1) := by
  refine mx_open (cc := cX5_poolCost) (maxL := 5) (ret := (some .int)) (by decide) rfl (Nat.le_of_ble_eq_true rfl) ?_
  intro p e s m args below meth c hx hb hml hr hown hts hlocks hK hN hargs ls hl hW hxK hxZ htab
  have hown : s.vm.findClass RX5 = some m.cls := hown
  have hl : lv_has ls 5 [(0, .ref (ad 0)), (1, .int (iI 2)), (2, .int (iI d))] := hl
  refine lv_aload_n hx hb dX5_poolCost_0 rfl (lv_at hl 0 rfl) ?_
  refine lv_iload_n hx hb dX5_poolCost_1 rfl (lv_at hl 1 rfl) ?_
  refine lv_iload_n hx hb dX5_poolCost_2 rfl (lv_at hl 2 rfl) ?_
  exact mx_go (vx_runV (As := [.int (iI 2), .int (iI d)]) (rest := []) ⟨hx, hb, hml, hown, hts⟩ (c_X5_ledgerAt_noD_2 l cg D ad st hst d hd hno) (cwV 2 hts gX5_poolCost_X5_ledgerAt rfl rfl rfl (by decide +kernel) ⟨Nat.le_of_ble_eq_true rfl, Nat.le_of_ble_eq_true rfl⟩) (mx_preV hK hN hxK hxZ hW 0 (by decide) rfl rfl rfl) rfl rfl hl.1 rfl (lv_room (Nat.le_of_ble_eq_true rfl)) dX5_poolCost_3 ⟨Nat.le_refl _, Nat.le_refl _⟩) hW (fun ce q9 H1 locs1 hW1 _ hce hcv hcl => mx_out htab hlocks hW1 hce hcv hcl)

set_option maxHeartbeats 4000000 in
set_option maxRecDepth 100000 in
theorem c_X5_costIn_noA (l : Launch) (cg : Nat → ClassId) (D : va_G) (ad : Nat → Nat) (st : Nat → Nat → Int) (hst : l.stackTraces = false) (a : Int) (ha : -2147483648 ≤ a ∧ a < 2147483648) (hno : ¬ (0 ≤ a ∧ a < 3)) : TX l yX5_costIn wsX5_costIn ({ frames := 8, cells := 1, slots := 6, locals := 150 }) D vwCl (TY cg) 73 (celX cg) ad st [.ref (ad 0), .int (iI a)] (xE1) := by
  refine mx_open (cc := cX5_costIn) (maxL := 2) (ret := (some .int)) (by decide) rfl (Nat.le_of_ble_eq_true rfl) ?_
  intro p e s m args below meth c hx hb hml hr hown hts hlocks hK hN hargs ls hl hW hxK hxZ htab
  have hown : s.vm.findClass RX5 = some m.cls := hown
  have hl : lv_has ls 2 [(0, .ref (ad 0)), (1, .int (iI a))] := hl
  refine lv_aload_n hx hb dX5_costIn_0 rfl (lv_at hl 0 rfl) ?_
  refine lv_iload_n hx hb dX5_costIn_1 rfl (lv_at hl 1 rfl) ?_
  exact mx_go (vx_runV (As := [.int (iI a)]) (rest := []) ⟨hx, hb, hml, hown, hts⟩ (c_X5_ledgerOf_no l cg D ad st hst a ha hno) (cwV 1 hts gX5_costIn_X5_ledgerOf rfl rfl rfl (by decide +kernel) ⟨Nat.le_of_ble_eq_true rfl, Nat.le_of_ble_eq_true rfl⟩) (mx_preV hK hN hxK hxZ hW 0 (by decide) rfl rfl rfl) rfl rfl hl.1 rfl (lv_room (Nat.le_of_ble_eq_true rfl)) dX5_costIn_2 ⟨Nat.le_refl _, Nat.le_refl _⟩) hW (fun ce q9 H1 locs1 hW1 _ hce hcv hcl => mx_out htab hlocks hW1 hce hcv hcl)

set_option maxHeartbeats 4000000 in
set_option maxRecDepth 100000 in
theorem c_X5_costMatched_noA (l : Launch) (cg : Nat → ClassId) (D : va_G) (ad : Nat → Nat) (st : Nat → Nat → Int) (hst : l.stackTraces = false) (a : Int) (ha : -2147483648 ≤ a ∧ a < 2147483648) (hno : ¬ (0 ≤ a ∧ a < 3)) : TX l yX5_costMatched wsX5_costMatched ({ frames := 8, cells := 1, slots := 6, locals := 150 }) D vwCl (TY cg) 73 (celX cg) ad st [.ref (ad 0), .int (iI a)] (xE1) := by
  refine mx_open (cc := cX5_costMatched) (maxL := 2) (ret := (some .int)) (by decide) rfl (Nat.le_of_ble_eq_true rfl) ?_
  intro p e s m args below meth c hx hb hml hr hown hts hlocks hK hN hargs ls hl hW hxK hxZ htab
  have hown : s.vm.findClass RX5 = some m.cls := hown
  have hl : lv_has ls 2 [(0, .ref (ad 0)), (1, .int (iI a))] := hl
  refine lv_aload_n hx hb dX5_costMatched_0 rfl (lv_at hl 0 rfl) ?_
  refine lv_iload_n hx hb dX5_costMatched_1 rfl (lv_at hl 1 rfl) ?_
  exact mx_go (vx_runV (As := [.int (iI a)]) (rest := []) ⟨hx, hb, hml, hown, hts⟩ (c_X5_ledgerOf_no l cg D ad st hst a ha hno) (cwV 1 hts gX5_costMatched_X5_ledgerOf rfl rfl rfl (by decide +kernel) ⟨Nat.le_of_ble_eq_true rfl, Nat.le_of_ble_eq_true rfl⟩) (mx_preV hK hN hxK hxZ hW 0 (by decide) rfl rfl rfl) rfl rfl hl.1 rfl (lv_room (Nat.le_of_ble_eq_true rfl)) dX5_costMatched_2 ⟨Nat.le_refl _, Nat.le_refl _⟩) hW (fun ce q9 H1 locs1 hW1 _ hce hcv hcl => mx_out htab hlocks hW1 hce hcv hcl)

set_option maxHeartbeats 4000000 in
set_option maxRecDepth 100000 in
theorem c_X5_matches_noA (l : Launch) (cg : Nat → ClassId) (D : va_G) (ad : Nat → Nat) (st : Nat → Nat → Int) (hst : l.stackTraces = false) (a : Int) (ha : -2147483648 ≤ a ∧ a < 2147483648) (hno : ¬ (0 ≤ a ∧ a < 3)) : TX l yX5_matches wsX5_matches ({ frames := 8, cells := 1, slots := 6, locals := 150 }) D vwCl (TY cg) 73 (celX cg) ad st [.ref (ad 0), .int (iI a)] (xE1) := by
  refine mx_open (cc := cX5_matches) (maxL := 2) (ret := (some .int)) (by decide) rfl (Nat.le_of_ble_eq_true rfl) ?_
  intro p e s m args below meth c hx hb hml hr hown hts hlocks hK hN hargs ls hl hW hxK hxZ htab
  have hown : s.vm.findClass RX5 = some m.cls := hown
  have hl : lv_has ls 2 [(0, .ref (ad 0)), (1, .int (iI a))] := hl
  refine lv_aload_n hx hb dX5_matches_0 rfl (lv_at hl 0 rfl) ?_
  refine lv_iload_n hx hb dX5_matches_1 rfl (lv_at hl 1 rfl) ?_
  exact mx_go (vx_runV (As := [.int (iI a)]) (rest := []) ⟨hx, hb, hml, hown, hts⟩ (c_X5_ledgerOf_no l cg D ad st hst a ha hno) (cwV 1 hts gX5_matches_X5_ledgerOf rfl rfl rfl (by decide +kernel) ⟨Nat.le_of_ble_eq_true rfl, Nat.le_of_ble_eq_true rfl⟩) (mx_preV hK hN hxK hxZ hW 0 (by decide) rfl rfl rfl) rfl rfl hl.1 rfl (lv_room (Nat.le_of_ble_eq_true rfl)) dX5_matches_2 ⟨Nat.le_refl _, Nat.le_refl _⟩) hW (fun ce q9 H1 locs1 hW1 _ hce hcv hcl => mx_out htab hlocks hW1 hce hcv hcl)

set_option maxHeartbeats 4000000 in
set_option maxRecDepth 100000 in
theorem c_X5_kindOf_noA (l : Launch) (cg : Nat → ClassId) (D : va_G) (ad : Nat → Nat) (st : Nat → Nat → Int) (hst : l.stackTraces = false) (a pl : Int) (ha : -2147483648 ≤ a ∧ a < 2147483648) (hno : ¬ (0 ≤ a ∧ a < 3)) : TX l yX5_kindOf wsX5_kindOf ({ frames := 8, cells := 1, slots := 6, locals := 150 }) D vwCl (TY cg) 73 (celX cg) ad st [.ref (ad 0), .int (iI a), .int (iI pl)] (xE1) := by
  refine mx_open (cc := cX5_kindOf) (maxL := 3) (ret := (some .int)) (by decide) rfl (Nat.le_of_ble_eq_true rfl) ?_
  intro p e s m args below meth c hx hb hml hr hown hts hlocks hK hN hargs ls hl hW hxK hxZ htab
  have hown : s.vm.findClass RX5 = some m.cls := hown
  have hl : lv_has ls 3 [(0, .ref (ad 0)), (1, .int (iI a)), (2, .int (iI pl))] := hl
  refine lv_aload_n hx hb dX5_kindOf_0 rfl (lv_at hl 0 rfl) ?_
  refine lv_iload_n hx hb dX5_kindOf_1 rfl (lv_at hl 1 rfl) ?_
  refine lv_iload_n hx hb dX5_kindOf_2 rfl (lv_at hl 2 rfl) ?_
  exact mx_go (vx_runV (As := [.int (iI a), .int (iI pl)]) (rest := []) ⟨hx, hb, hml, hown, hts⟩ (c_X5_matchesWith_noA l cg D ad st hst a pl ha hno) (cwV 2 hts gX5_kindOf_X5_matchesWith rfl rfl rfl (by decide +kernel) ⟨Nat.le_of_ble_eq_true rfl, Nat.le_of_ble_eq_true rfl⟩) (mx_preV hK hN hxK hxZ hW 0 (by decide) rfl rfl rfl) rfl rfl hl.1 rfl (lv_room (Nat.le_of_ble_eq_true rfl)) dX5_kindOf_3 ⟨Nat.le_refl _, Nat.le_refl _⟩) hW (fun ce q9 H1 locs1 hW1 _ hce hcv hcl => mx_out htab hlocks hW1 hce hcv hcl)

set_option maxHeartbeats 4000000 in
set_option maxRecDepth 100000 in
theorem c_X5_kindOf_noM_0 (l : Launch) (cg : Nat → ClassId) (D : va_G) (ad : Nat → Nat) (st : Nat → Nat → Int) (hst : l.stackTraces = false) (b : Nat → Nat → Int) (hX : XI st b) (pl : Int) (hpl : -2147483648 ≤ pl ∧ pl < 2147483648) (hno : ¬ (0 ≤ pl ∧ pl < (bAA b 0 (xR st 0) (xD st 0)).length)) : TX l yX5_kindOf wsX5_kindOf ({ frames := 8, cells := 1, slots := 6, locals := 150 }) D vwCl (TY cg) 73 (celX cg) ad st [.ref (ad 0), .int (iI 0), .int (iI pl)] (xE1) := by
  refine mx_open (cc := cX5_kindOf) (maxL := 3) (ret := (some .int)) (by decide) rfl (Nat.le_of_ble_eq_true rfl) ?_
  intro p e s m args below meth c hx hb hml hr hown hts hlocks hK hN hargs ls hl hW hxK hxZ htab
  have hown : s.vm.findClass RX5 = some m.cls := hown
  have hl : lv_has ls 3 [(0, .ref (ad 0)), (1, .int (iI 0)), (2, .int (iI pl))] := hl
  refine lv_aload_n hx hb dX5_kindOf_0 rfl (lv_at hl 0 rfl) ?_
  refine lv_iload_n hx hb dX5_kindOf_1 rfl (lv_at hl 1 rfl) ?_
  refine lv_iload_n hx hb dX5_kindOf_2 rfl (lv_at hl 2 rfl) ?_
  exact mx_go (vx_runV (As := [.int (iI 0), .int (iI pl)]) (rest := []) ⟨hx, hb, hml, hown, hts⟩ (c_X5_matchesWith_noM_0 l cg D ad st hst b hX pl hpl hno) (cwV 2 hts gX5_kindOf_X5_matchesWith rfl rfl rfl (by decide +kernel) ⟨Nat.le_of_ble_eq_true rfl, Nat.le_of_ble_eq_true rfl⟩) (mx_preV hK hN hxK hxZ hW 0 (by decide) rfl rfl rfl) rfl rfl hl.1 rfl (lv_room (Nat.le_of_ble_eq_true rfl)) dX5_kindOf_3 ⟨Nat.le_refl _, Nat.le_refl _⟩) hW (fun ce q9 H1 locs1 hW1 _ hce hcv hcl => mx_out htab hlocks hW1 hce hcv hcl)

set_option maxHeartbeats 4000000 in
set_option maxRecDepth 100000 in
theorem c_X5_kindOf_noM_1 (l : Launch) (cg : Nat → ClassId) (D : va_G) (ad : Nat → Nat) (st : Nat → Nat → Int) (hst : l.stackTraces = false) (b : Nat → Nat → Int) (hX : XI st b) (pl : Int) (hpl : -2147483648 ≤ pl ∧ pl < 2147483648) (hno : ¬ (0 ≤ pl ∧ pl < (bAA b 1 (xR st 1) (xD st 1)).length)) : TX l yX5_kindOf wsX5_kindOf ({ frames := 8, cells := 1, slots := 6, locals := 150 }) D vwCl (TY cg) 73 (celX cg) ad st [.ref (ad 0), .int (iI 1), .int (iI pl)] (xE1) := by
  refine mx_open (cc := cX5_kindOf) (maxL := 3) (ret := (some .int)) (by decide) rfl (Nat.le_of_ble_eq_true rfl) ?_
  intro p e s m args below meth c hx hb hml hr hown hts hlocks hK hN hargs ls hl hW hxK hxZ htab
  have hown : s.vm.findClass RX5 = some m.cls := hown
  have hl : lv_has ls 3 [(0, .ref (ad 0)), (1, .int (iI 1)), (2, .int (iI pl))] := hl
  refine lv_aload_n hx hb dX5_kindOf_0 rfl (lv_at hl 0 rfl) ?_
  refine lv_iload_n hx hb dX5_kindOf_1 rfl (lv_at hl 1 rfl) ?_
  refine lv_iload_n hx hb dX5_kindOf_2 rfl (lv_at hl 2 rfl) ?_
  exact mx_go (vx_runV (As := [.int (iI 1), .int (iI pl)]) (rest := []) ⟨hx, hb, hml, hown, hts⟩ (c_X5_matchesWith_noM_1 l cg D ad st hst b hX pl hpl hno) (cwV 2 hts gX5_kindOf_X5_matchesWith rfl rfl rfl (by decide +kernel) ⟨Nat.le_of_ble_eq_true rfl, Nat.le_of_ble_eq_true rfl⟩) (mx_preV hK hN hxK hxZ hW 0 (by decide) rfl rfl rfl) rfl rfl hl.1 rfl (lv_room (Nat.le_of_ble_eq_true rfl)) dX5_kindOf_3 ⟨Nat.le_refl _, Nat.le_refl _⟩) hW (fun ce q9 H1 locs1 hW1 _ hce hcv hcl => mx_out htab hlocks hW1 hce hcv hcl)

set_option maxHeartbeats 4000000 in
set_option maxRecDepth 100000 in
theorem c_X5_kindOf_noM_2 (l : Launch) (cg : Nat → ClassId) (D : va_G) (ad : Nat → Nat) (st : Nat → Nat → Int) (hst : l.stackTraces = false) (b : Nat → Nat → Int) (hX : XI st b) (pl : Int) (hpl : -2147483648 ≤ pl ∧ pl < 2147483648) (hno : ¬ (0 ≤ pl ∧ pl < (bAA b 2 (xR st 2) (xD st 2)).length)) : TX l yX5_kindOf wsX5_kindOf ({ frames := 8, cells := 1, slots := 6, locals := 150 }) D vwCl (TY cg) 73 (celX cg) ad st [.ref (ad 0), .int (iI 2), .int (iI pl)] (xE1) := by
  refine mx_open (cc := cX5_kindOf) (maxL := 3) (ret := (some .int)) (by decide) rfl (Nat.le_of_ble_eq_true rfl) ?_
  intro p e s m args below meth c hx hb hml hr hown hts hlocks hK hN hargs ls hl hW hxK hxZ htab
  have hown : s.vm.findClass RX5 = some m.cls := hown
  have hl : lv_has ls 3 [(0, .ref (ad 0)), (1, .int (iI 2)), (2, .int (iI pl))] := hl
  refine lv_aload_n hx hb dX5_kindOf_0 rfl (lv_at hl 0 rfl) ?_
  refine lv_iload_n hx hb dX5_kindOf_1 rfl (lv_at hl 1 rfl) ?_
  refine lv_iload_n hx hb dX5_kindOf_2 rfl (lv_at hl 2 rfl) ?_
  exact mx_go (vx_runV (As := [.int (iI 2), .int (iI pl)]) (rest := []) ⟨hx, hb, hml, hown, hts⟩ (c_X5_matchesWith_noM_2 l cg D ad st hst b hX pl hpl hno) (cwV 2 hts gX5_kindOf_X5_matchesWith rfl rfl rfl (by decide +kernel) ⟨Nat.le_of_ble_eq_true rfl, Nat.le_of_ble_eq_true rfl⟩) (mx_preV hK hN hxK hxZ hW 0 (by decide) rfl rfl rfl) rfl rfl hl.1 rfl (lv_room (Nat.le_of_ble_eq_true rfl)) dX5_kindOf_3 ⟨Nat.le_refl _, Nat.le_refl _⟩) hW (fun ce q9 H1 locs1 hW1 _ hce hcv hcl => mx_out htab hlocks hW1 hce hcv hcl)

set_option maxHeartbeats 4000000 in
set_option maxRecDepth 100000 in
theorem c_X5_saleDay_noA (l : Launch) (cg : Nat → ClassId) (D : va_G) (ad : Nat → Nat) (st : Nat → Nat → Int) (hst : l.stackTraces = false) (a pl : Int) (ha : -2147483648 ≤ a ∧ a < 2147483648) (hno : ¬ (0 ≤ a ∧ a < 3)) : TX l yX5_saleDay wsX5_saleDay ({ frames := 8, cells := 1, slots := 6, locals := 150 }) D vwCl (TY cg) 73 (celX cg) ad st [.ref (ad 0), .int (iI a), .int (iI pl)] (xE1) := by
  refine mx_open (cc := cX5_saleDay) (maxL := 3) (ret := (some .int)) (by decide) rfl (Nat.le_of_ble_eq_true rfl) ?_
  intro p e s m args below meth c hx hb hml hr hown hts hlocks hK hN hargs ls hl hW hxK hxZ htab
  have hown : s.vm.findClass RX5 = some m.cls := hown
  have hl : lv_has ls 3 [(0, .ref (ad 0)), (1, .int (iI a)), (2, .int (iI pl))] := hl
  refine lv_aload_n hx hb dX5_saleDay_0 rfl (lv_at hl 0 rfl) ?_
  refine lv_iload_n hx hb dX5_saleDay_1 rfl (lv_at hl 1 rfl) ?_
  refine lv_iload_n hx hb dX5_saleDay_2 rfl (lv_at hl 2 rfl) ?_
  exact mx_go (vx_runV (As := [.int (iI a), .int (iI pl)]) (rest := []) ⟨hx, hb, hml, hown, hts⟩ (c_X5_matchesWith_noA l cg D ad st hst a pl ha hno) (cwV 2 hts gX5_saleDay_X5_matchesWith rfl rfl rfl (by decide +kernel) ⟨Nat.le_of_ble_eq_true rfl, Nat.le_of_ble_eq_true rfl⟩) (mx_preV hK hN hxK hxZ hW 0 (by decide) rfl rfl rfl) rfl rfl hl.1 rfl (lv_room (Nat.le_of_ble_eq_true rfl)) dX5_saleDay_3 ⟨Nat.le_refl _, Nat.le_refl _⟩) hW (fun ce q9 H1 locs1 hW1 _ hce hcv hcl => mx_out htab hlocks hW1 hce hcv hcl)

set_option maxHeartbeats 4000000 in
set_option maxRecDepth 100000 in
theorem c_X5_saleDay_noM_0 (l : Launch) (cg : Nat → ClassId) (D : va_G) (ad : Nat → Nat) (st : Nat → Nat → Int) (hst : l.stackTraces = false) (b : Nat → Nat → Int) (hX : XI st b) (pl : Int) (hpl : -2147483648 ≤ pl ∧ pl < 2147483648) (hno : ¬ (0 ≤ pl ∧ pl < (bAA b 0 (xR st 0) (xD st 0)).length)) : TX l yX5_saleDay wsX5_saleDay ({ frames := 8, cells := 1, slots := 6, locals := 150 }) D vwCl (TY cg) 73 (celX cg) ad st [.ref (ad 0), .int (iI 0), .int (iI pl)] (xE1) := by
  refine mx_open (cc := cX5_saleDay) (maxL := 3) (ret := (some .int)) (by decide) rfl (Nat.le_of_ble_eq_true rfl) ?_
  intro p e s m args below meth c hx hb hml hr hown hts hlocks hK hN hargs ls hl hW hxK hxZ htab
  have hown : s.vm.findClass RX5 = some m.cls := hown
  have hl : lv_has ls 3 [(0, .ref (ad 0)), (1, .int (iI 0)), (2, .int (iI pl))] := hl
  refine lv_aload_n hx hb dX5_saleDay_0 rfl (lv_at hl 0 rfl) ?_
  refine lv_iload_n hx hb dX5_saleDay_1 rfl (lv_at hl 1 rfl) ?_
  refine lv_iload_n hx hb dX5_saleDay_2 rfl (lv_at hl 2 rfl) ?_
  exact mx_go (vx_runV (As := [.int (iI 0), .int (iI pl)]) (rest := []) ⟨hx, hb, hml, hown, hts⟩ (c_X5_matchesWith_noM_0 l cg D ad st hst b hX pl hpl hno) (cwV 2 hts gX5_saleDay_X5_matchesWith rfl rfl rfl (by decide +kernel) ⟨Nat.le_of_ble_eq_true rfl, Nat.le_of_ble_eq_true rfl⟩) (mx_preV hK hN hxK hxZ hW 0 (by decide) rfl rfl rfl) rfl rfl hl.1 rfl (lv_room (Nat.le_of_ble_eq_true rfl)) dX5_saleDay_3 ⟨Nat.le_refl _, Nat.le_refl _⟩) hW (fun ce q9 H1 locs1 hW1 _ hce hcv hcl => mx_out htab hlocks hW1 hce hcv hcl)

set_option maxHeartbeats 4000000 in
set_option maxRecDepth 100000 in
theorem c_X5_saleDay_noM_1 (l : Launch) (cg : Nat → ClassId) (D : va_G) (ad : Nat → Nat) (st : Nat → Nat → Int) (hst : l.stackTraces = false) (b : Nat → Nat → Int) (hX : XI st b) (pl : Int) (hpl : -2147483648 ≤ pl ∧ pl < 2147483648) (hno : ¬ (0 ≤ pl ∧ pl < (bAA b 1 (xR st 1) (xD st 1)).length)) : TX l yX5_saleDay wsX5_saleDay ({ frames := 8, cells := 1, slots := 6, locals := 150 }) D vwCl (TY cg) 73 (celX cg) ad st [.ref (ad 0), .int (iI 1), .int (iI pl)] (xE1) := by
  refine mx_open (cc := cX5_saleDay) (maxL := 3) (ret := (some .int)) (by decide) rfl (Nat.le_of_ble_eq_true rfl) ?_
  intro p e s m args below meth c hx hb hml hr hown hts hlocks hK hN hargs ls hl hW hxK hxZ htab
  have hown : s.vm.findClass RX5 = some m.cls := hown
  have hl : lv_has ls 3 [(0, .ref (ad 0)), (1, .int (iI 1)), (2, .int (iI pl))] := hl
  refine lv_aload_n hx hb dX5_saleDay_0 rfl (lv_at hl 0 rfl) ?_
  refine lv_iload_n hx hb dX5_saleDay_1 rfl (lv_at hl 1 rfl) ?_
  refine lv_iload_n hx hb dX5_saleDay_2 rfl (lv_at hl 2 rfl) ?_
  exact mx_go (vx_runV (As := [.int (iI 1), .int (iI pl)]) (rest := []) ⟨hx, hb, hml, hown, hts⟩ (c_X5_matchesWith_noM_1 l cg D ad st hst b hX pl hpl hno) (cwV 2 hts gX5_saleDay_X5_matchesWith rfl rfl rfl (by decide +kernel) ⟨Nat.le_of_ble_eq_true rfl, Nat.le_of_ble_eq_true rfl⟩) (mx_preV hK hN hxK hxZ hW 0 (by decide) rfl rfl rfl) rfl rfl hl.1 rfl (lv_room (Nat.le_of_ble_eq_true rfl)) dX5_saleDay_3 ⟨Nat.le_refl _, Nat.le_refl _⟩) hW (fun ce q9 H1 locs1 hW1 _ hce hcv hcl => mx_out htab hlocks hW1 hce hcv hcl)

set_option maxHeartbeats 4000000 in
set_option maxRecDepth 100000 in
theorem c_X5_saleDay_noM_2 (l : Launch) (cg : Nat → ClassId) (D : va_G) (ad : Nat → Nat) (st : Nat → Nat → Int) (hst : l.stackTraces = false) (b : Nat → Nat → Int) (hX : XI st b) (pl : Int) (hpl : -2147483648 ≤ pl ∧ pl < 2147483648) (hno : ¬ (0 ≤ pl ∧ pl < (bAA b 2 (xR st 2) (xD st 2)).length)) : TX l yX5_saleDay wsX5_saleDay ({ frames := 8, cells := 1, slots := 6, locals := 150 }) D vwCl (TY cg) 73 (celX cg) ad st [.ref (ad 0), .int (iI 2), .int (iI pl)] (xE1) := by
  refine mx_open (cc := cX5_saleDay) (maxL := 3) (ret := (some .int)) (by decide) rfl (Nat.le_of_ble_eq_true rfl) ?_
  intro p e s m args below meth c hx hb hml hr hown hts hlocks hK hN hargs ls hl hW hxK hxZ htab
  have hown : s.vm.findClass RX5 = some m.cls := hown
  have hl : lv_has ls 3 [(0, .ref (ad 0)), (1, .int (iI 2)), (2, .int (iI pl))] := hl
  refine lv_aload_n hx hb dX5_saleDay_0 rfl (lv_at hl 0 rfl) ?_
  refine lv_iload_n hx hb dX5_saleDay_1 rfl (lv_at hl 1 rfl) ?_
  refine lv_iload_n hx hb dX5_saleDay_2 rfl (lv_at hl 2 rfl) ?_
  exact mx_go (vx_runV (As := [.int (iI 2), .int (iI pl)]) (rest := []) ⟨hx, hb, hml, hown, hts⟩ (c_X5_matchesWith_noM_2 l cg D ad st hst b hX pl hpl hno) (cwV 2 hts gX5_saleDay_X5_matchesWith rfl rfl rfl (by decide +kernel) ⟨Nat.le_of_ble_eq_true rfl, Nat.le_of_ble_eq_true rfl⟩) (mx_preV hK hN hxK hxZ hW 0 (by decide) rfl rfl rfl) rfl rfl hl.1 rfl (lv_room (Nat.le_of_ble_eq_true rfl)) dX5_saleDay_3 ⟨Nat.le_refl _, Nat.le_refl _⟩) hW (fun ce q9 H1 locs1 hW1 _ hce hcv hcl => mx_out htab hlocks hW1 hce hcv hcl)

set_option maxHeartbeats 4000000 in
set_option maxRecDepth 100000 in
theorem c_X5_buyDay_noA (l : Launch) (cg : Nat → ClassId) (D : va_G) (ad : Nat → Nat) (st : Nat → Nat → Int) (hst : l.stackTraces = false) (a pl : Int) (ha : -2147483648 ≤ a ∧ a < 2147483648) (hno : ¬ (0 ≤ a ∧ a < 3)) : TX l yX5_buyDay wsX5_buyDay ({ frames := 8, cells := 1, slots := 6, locals := 150 }) D vwCl (TY cg) 73 (celX cg) ad st [.ref (ad 0), .int (iI a), .int (iI pl)] (xE1) := by
  refine mx_open (cc := cX5_buyDay) (maxL := 3) (ret := (some .int)) (by decide) rfl (Nat.le_of_ble_eq_true rfl) ?_
  intro p e s m args below meth c hx hb hml hr hown hts hlocks hK hN hargs ls hl hW hxK hxZ htab
  have hown : s.vm.findClass RX5 = some m.cls := hown
  have hl : lv_has ls 3 [(0, .ref (ad 0)), (1, .int (iI a)), (2, .int (iI pl))] := hl
  refine lv_aload_n hx hb dX5_buyDay_0 rfl (lv_at hl 0 rfl) ?_
  refine lv_iload_n hx hb dX5_buyDay_1 rfl (lv_at hl 1 rfl) ?_
  refine lv_iload_n hx hb dX5_buyDay_2 rfl (lv_at hl 2 rfl) ?_
  exact mx_go (vx_runV (As := [.int (iI a), .int (iI pl)]) (rest := []) ⟨hx, hb, hml, hown, hts⟩ (c_X5_matchesWith_noA l cg D ad st hst a pl ha hno) (cwV 2 hts gX5_buyDay_X5_matchesWith rfl rfl rfl (by decide +kernel) ⟨Nat.le_of_ble_eq_true rfl, Nat.le_of_ble_eq_true rfl⟩) (mx_preV hK hN hxK hxZ hW 0 (by decide) rfl rfl rfl) rfl rfl hl.1 rfl (lv_room (Nat.le_of_ble_eq_true rfl)) dX5_buyDay_3 ⟨Nat.le_refl _, Nat.le_refl _⟩) hW (fun ce q9 H1 locs1 hW1 _ hce hcv hcl => mx_out htab hlocks hW1 hce hcv hcl)

set_option maxHeartbeats 4000000 in
set_option maxRecDepth 100000 in
theorem c_X5_buyDay_noM_0 (l : Launch) (cg : Nat → ClassId) (D : va_G) (ad : Nat → Nat) (st : Nat → Nat → Int) (hst : l.stackTraces = false) (b : Nat → Nat → Int) (hX : XI st b) (pl : Int) (hpl : -2147483648 ≤ pl ∧ pl < 2147483648) (hno : ¬ (0 ≤ pl ∧ pl < (bAA b 0 (xR st 0) (xD st 0)).length)) : TX l yX5_buyDay wsX5_buyDay ({ frames := 8, cells := 1, slots := 6, locals := 150 }) D vwCl (TY cg) 73 (celX cg) ad st [.ref (ad 0), .int (iI 0), .int (iI pl)] (xE1) := by
  refine mx_open (cc := cX5_buyDay) (maxL := 3) (ret := (some .int)) (by decide) rfl (Nat.le_of_ble_eq_true rfl) ?_
  intro p e s m args below meth c hx hb hml hr hown hts hlocks hK hN hargs ls hl hW hxK hxZ htab
  have hown : s.vm.findClass RX5 = some m.cls := hown
  have hl : lv_has ls 3 [(0, .ref (ad 0)), (1, .int (iI 0)), (2, .int (iI pl))] := hl
  refine lv_aload_n hx hb dX5_buyDay_0 rfl (lv_at hl 0 rfl) ?_
  refine lv_iload_n hx hb dX5_buyDay_1 rfl (lv_at hl 1 rfl) ?_
  refine lv_iload_n hx hb dX5_buyDay_2 rfl (lv_at hl 2 rfl) ?_
  exact mx_go (vx_runV (As := [.int (iI 0), .int (iI pl)]) (rest := []) ⟨hx, hb, hml, hown, hts⟩ (c_X5_matchesWith_noM_0 l cg D ad st hst b hX pl hpl hno) (cwV 2 hts gX5_buyDay_X5_matchesWith rfl rfl rfl (by decide +kernel) ⟨Nat.le_of_ble_eq_true rfl, Nat.le_of_ble_eq_true rfl⟩) (mx_preV hK hN hxK hxZ hW 0 (by decide) rfl rfl rfl) rfl rfl hl.1 rfl (lv_room (Nat.le_of_ble_eq_true rfl)) dX5_buyDay_3 ⟨Nat.le_refl _, Nat.le_refl _⟩) hW (fun ce q9 H1 locs1 hW1 _ hce hcv hcl => mx_out htab hlocks hW1 hce hcv hcl)

set_option maxHeartbeats 4000000 in
set_option maxRecDepth 100000 in
theorem c_X5_buyDay_noM_1 (l : Launch) (cg : Nat → ClassId) (D : va_G) (ad : Nat → Nat) (st : Nat → Nat → Int) (hst : l.stackTraces = false) (b : Nat → Nat → Int) (hX : XI st b) (pl : Int) (hpl : -2147483648 ≤ pl ∧ pl < 2147483648) (hno : ¬ (0 ≤ pl ∧ pl < (bAA b 1 (xR st 1) (xD st 1)).length)) : TX l yX5_buyDay wsX5_buyDay ({ frames := 8, cells := 1, slots := 6, locals := 150 }) D vwCl (TY cg) 73 (celX cg) ad st [.ref (ad 0), .int (iI 1), .int (iI pl)] (xE1) := by
  refine mx_open (cc := cX5_buyDay) (maxL := 3) (ret := (some .int)) (by decide) rfl (Nat.le_of_ble_eq_true rfl) ?_
  intro p e s m args below meth c hx hb hml hr hown hts hlocks hK hN hargs ls hl hW hxK hxZ htab
  have hown : s.vm.findClass RX5 = some m.cls := hown
  have hl : lv_has ls 3 [(0, .ref (ad 0)), (1, .int (iI 1)), (2, .int (iI pl))] := hl
  refine lv_aload_n hx hb dX5_buyDay_0 rfl (lv_at hl 0 rfl) ?_
  refine lv_iload_n hx hb dX5_buyDay_1 rfl (lv_at hl 1 rfl) ?_
  refine lv_iload_n hx hb dX5_buyDay_2 rfl (lv_at hl 2 rfl) ?_
  exact mx_go (vx_runV (As := [.int (iI 1), .int (iI pl)]) (rest := []) ⟨hx, hb, hml, hown, hts⟩ (c_X5_matchesWith_noM_1 l cg D ad st hst b hX pl hpl hno) (cwV 2 hts gX5_buyDay_X5_matchesWith rfl rfl rfl (by decide +kernel) ⟨Nat.le_of_ble_eq_true rfl, Nat.le_of_ble_eq_true rfl⟩) (mx_preV hK hN hxK hxZ hW 0 (by decide) rfl rfl rfl) rfl rfl hl.1 rfl (lv_room (Nat.le_of_ble_eq_true rfl)) dX5_buyDay_3 ⟨Nat.le_refl _, Nat.le_refl _⟩) hW (fun ce q9 H1 locs1 hW1 _ hce hcv hcl => mx_out htab hlocks hW1 hce hcv hcl)

set_option maxHeartbeats 4000000 in
set_option maxRecDepth 100000 in
theorem c_X5_buyDay_noM_2 (l : Launch) (cg : Nat → ClassId) (D : va_G) (ad : Nat → Nat) (st : Nat → Nat → Int) (hst : l.stackTraces = false) (b : Nat → Nat → Int) (hX : XI st b) (pl : Int) (hpl : -2147483648 ≤ pl ∧ pl < 2147483648) (hno : ¬ (0 ≤ pl ∧ pl < (bAA b 2 (xR st 2) (xD st 2)).length)) : TX l yX5_buyDay wsX5_buyDay ({ frames := 8, cells := 1, slots := 6, locals := 150 }) D vwCl (TY cg) 73 (celX cg) ad st [.ref (ad 0), .int (iI 2), .int (iI pl)] (xE1) := by
  refine mx_open (cc := cX5_buyDay) (maxL := 3) (ret := (some .int)) (by decide) rfl (Nat.le_of_ble_eq_true rfl) ?_
  intro p e s m args below meth c hx hb hml hr hown hts hlocks hK hN hargs ls hl hW hxK hxZ htab
  have hown : s.vm.findClass RX5 = some m.cls := hown
  have hl : lv_has ls 3 [(0, .ref (ad 0)), (1, .int (iI 2)), (2, .int (iI pl))] := hl
  refine lv_aload_n hx hb dX5_buyDay_0 rfl (lv_at hl 0 rfl) ?_
  refine lv_iload_n hx hb dX5_buyDay_1 rfl (lv_at hl 1 rfl) ?_
  refine lv_iload_n hx hb dX5_buyDay_2 rfl (lv_at hl 2 rfl) ?_
  exact mx_go (vx_runV (As := [.int (iI 2), .int (iI pl)]) (rest := []) ⟨hx, hb, hml, hown, hts⟩ (c_X5_matchesWith_noM_2 l cg D ad st hst b hX pl hpl hno) (cwV 2 hts gX5_buyDay_X5_matchesWith rfl rfl rfl (by decide +kernel) ⟨Nat.le_of_ble_eq_true rfl, Nat.le_of_ble_eq_true rfl⟩) (mx_preV hK hN hxK hxZ hW 0 (by decide) rfl rfl rfl) rfl rfl hl.1 rfl (lv_room (Nat.le_of_ble_eq_true rfl)) dX5_buyDay_3 ⟨Nat.le_refl _, Nat.le_refl _⟩) hW (fun ce q9 H1 locs1 hW1 _ hce hcv hcl => mx_out htab hlocks hW1 hce hcv hcl)

set_option maxHeartbeats 4000000 in
set_option maxRecDepth 100000 in
theorem c_X5_unitsOf_noA (l : Launch) (cg : Nat → ClassId) (D : va_G) (ad : Nat → Nat) (st : Nat → Nat → Int) (hst : l.stackTraces = false) (a pl : Int) (ha : -2147483648 ≤ a ∧ a < 2147483648) (hno : ¬ (0 ≤ a ∧ a < 3)) : TX l yX5_unitsOf wsX5_unitsOf ({ frames := 8, cells := 1, slots := 6, locals := 150 }) D vwCl (TY cg) 73 (celX cg) ad st [.ref (ad 0), .int (iI a), .int (iI pl)] (xE1) := by
  refine mx_open (cc := cX5_unitsOf) (maxL := 3) (ret := (some .int)) (by decide) rfl (Nat.le_of_ble_eq_true rfl) ?_
  intro p e s m args below meth c hx hb hml hr hown hts hlocks hK hN hargs ls hl hW hxK hxZ htab
  have hown : s.vm.findClass RX5 = some m.cls := hown
  have hl : lv_has ls 3 [(0, .ref (ad 0)), (1, .int (iI a)), (2, .int (iI pl))] := hl
  refine lv_aload_n hx hb dX5_unitsOf_0 rfl (lv_at hl 0 rfl) ?_
  refine lv_iload_n hx hb dX5_unitsOf_1 rfl (lv_at hl 1 rfl) ?_
  refine lv_iload_n hx hb dX5_unitsOf_2 rfl (lv_at hl 2 rfl) ?_
  exact mx_go (vx_runV (As := [.int (iI a), .int (iI pl)]) (rest := []) ⟨hx, hb, hml, hown, hts⟩ (c_X5_matchesWith_noA l cg D ad st hst a pl ha hno) (cwV 2 hts gX5_unitsOf_X5_matchesWith rfl rfl rfl (by decide +kernel) ⟨Nat.le_of_ble_eq_true rfl, Nat.le_of_ble_eq_true rfl⟩) (mx_preV hK hN hxK hxZ hW 0 (by decide) rfl rfl rfl) rfl rfl hl.1 rfl (lv_room (Nat.le_of_ble_eq_true rfl)) dX5_unitsOf_3 ⟨Nat.le_refl _, Nat.le_refl _⟩) hW (fun ce q9 H1 locs1 hW1 _ hce hcv hcl => mx_out htab hlocks hW1 hce hcv hcl)

set_option maxHeartbeats 4000000 in
set_option maxRecDepth 100000 in
theorem c_X5_unitsOf_noM_0 (l : Launch) (cg : Nat → ClassId) (D : va_G) (ad : Nat → Nat) (st : Nat → Nat → Int) (hst : l.stackTraces = false) (b : Nat → Nat → Int) (hX : XI st b) (pl : Int) (hpl : -2147483648 ≤ pl ∧ pl < 2147483648) (hno : ¬ (0 ≤ pl ∧ pl < (bAA b 0 (xR st 0) (xD st 0)).length)) : TX l yX5_unitsOf wsX5_unitsOf ({ frames := 8, cells := 1, slots := 6, locals := 150 }) D vwCl (TY cg) 73 (celX cg) ad st [.ref (ad 0), .int (iI 0), .int (iI pl)] (xE1) := by
  refine mx_open (cc := cX5_unitsOf) (maxL := 3) (ret := (some .int)) (by decide) rfl (Nat.le_of_ble_eq_true rfl) ?_
  intro p e s m args below meth c hx hb hml hr hown hts hlocks hK hN hargs ls hl hW hxK hxZ htab
  have hown : s.vm.findClass RX5 = some m.cls := hown
  have hl : lv_has ls 3 [(0, .ref (ad 0)), (1, .int (iI 0)), (2, .int (iI pl))] := hl
  refine lv_aload_n hx hb dX5_unitsOf_0 rfl (lv_at hl 0 rfl) ?_
  refine lv_iload_n hx hb dX5_unitsOf_1 rfl (lv_at hl 1 rfl) ?_
  refine lv_iload_n hx hb dX5_unitsOf_2 rfl (lv_at hl 2 rfl) ?_
  exact mx_go (vx_runV (As := [.int (iI 0), .int (iI pl)]) (rest := []) ⟨hx, hb, hml, hown, hts⟩ (c_X5_matchesWith_noM_0 l cg D ad st hst b hX pl hpl hno) (cwV 2 hts gX5_unitsOf_X5_matchesWith rfl rfl rfl (by decide +kernel) ⟨Nat.le_of_ble_eq_true rfl, Nat.le_of_ble_eq_true rfl⟩) (mx_preV hK hN hxK hxZ hW 0 (by decide) rfl rfl rfl) rfl rfl hl.1 rfl (lv_room (Nat.le_of_ble_eq_true rfl)) dX5_unitsOf_3 ⟨Nat.le_refl _, Nat.le_refl _⟩) hW (fun ce q9 H1 locs1 hW1 _ hce hcv hcl => mx_out htab hlocks hW1 hce hcv hcl)

set_option maxHeartbeats 4000000 in
set_option maxRecDepth 100000 in
theorem c_X5_unitsOf_noM_1 (l : Launch) (cg : Nat → ClassId) (D : va_G) (ad : Nat → Nat) (st : Nat → Nat → Int) (hst : l.stackTraces = false) (b : Nat → Nat → Int) (hX : XI st b) (pl : Int) (hpl : -2147483648 ≤ pl ∧ pl < 2147483648) (hno : ¬ (0 ≤ pl ∧ pl < (bAA b 1 (xR st 1) (xD st 1)).length)) : TX l yX5_unitsOf wsX5_unitsOf ({ frames := 8, cells := 1, slots := 6, locals := 150 }) D vwCl (TY cg) 73 (celX cg) ad st [.ref (ad 0), .int (iI 1), .int (iI pl)] (xE1) := by
  refine mx_open (cc := cX5_unitsOf) (maxL := 3) (ret := (some .int)) (by decide) rfl (Nat.le_of_ble_eq_true rfl) ?_
  intro p e s m args below meth c hx hb hml hr hown hts hlocks hK hN hargs ls hl hW hxK hxZ htab
  have hown : s.vm.findClass RX5 = some m.cls := hown
  have hl : lv_has ls 3 [(0, .ref (ad 0)), (1, .int (iI 1)), (2, .int (iI pl))] := hl
  refine lv_aload_n hx hb dX5_unitsOf_0 rfl (lv_at hl 0 rfl) ?_
  refine lv_iload_n hx hb dX5_unitsOf_1 rfl (lv_at hl 1 rfl) ?_
  refine lv_iload_n hx hb dX5_unitsOf_2 rfl (lv_at hl 2 rfl) ?_
  exact mx_go (vx_runV (As := [.int (iI 1), .int (iI pl)]) (rest := []) ⟨hx, hb, hml, hown, hts⟩ (c_X5_matchesWith_noM_1 l cg D ad st hst b hX pl hpl hno) (cwV 2 hts gX5_unitsOf_X5_matchesWith rfl rfl rfl (by decide +kernel) ⟨Nat.le_of_ble_eq_true rfl, Nat.le_of_ble_eq_true rfl⟩) (mx_preV hK hN hxK hxZ hW 0 (by decide) rfl rfl rfl) rfl rfl hl.1 rfl (lv_room (Nat.le_of_ble_eq_true rfl)) dX5_unitsOf_3 ⟨Nat.le_refl _, Nat.le_refl _⟩) hW (fun ce q9 H1 locs1 hW1 _ hce hcv hcl => mx_out htab hlocks hW1 hce hcv hcl)

set_option maxHeartbeats 4000000 in
set_option maxRecDepth 100000 in
theorem c_X5_unitsOf_noM_2 (l : Launch) (cg : Nat → ClassId) (D : va_G) (ad : Nat → Nat) (st : Nat → Nat → Int) (hst : l.stackTraces = false) (b : Nat → Nat → Int) (hX : XI st b) (pl : Int) (hpl : -2147483648 ≤ pl ∧ pl < 2147483648) (hno : ¬ (0 ≤ pl ∧ pl < (bAA b 2 (xR st 2) (xD st 2)).length)) : TX l yX5_unitsOf wsX5_unitsOf ({ frames := 8, cells := 1, slots := 6, locals := 150 }) D vwCl (TY cg) 73 (celX cg) ad st [.ref (ad 0), .int (iI 2), .int (iI pl)] (xE1) := by
  refine mx_open (cc := cX5_unitsOf) (maxL := 3) (ret := (some .int)) (by decide) rfl (Nat.le_of_ble_eq_true rfl) ?_
  intro p e s m args below meth c hx hb hml hr hown hts hlocks hK hN hargs ls hl hW hxK hxZ htab
  have hown : s.vm.findClass RX5 = some m.cls := hown
  have hl : lv_has ls 3 [(0, .ref (ad 0)), (1, .int (iI 2)), (2, .int (iI pl))] := hl
  refine lv_aload_n hx hb dX5_unitsOf_0 rfl (lv_at hl 0 rfl) ?_
  refine lv_iload_n hx hb dX5_unitsOf_1 rfl (lv_at hl 1 rfl) ?_
  refine lv_iload_n hx hb dX5_unitsOf_2 rfl (lv_at hl 2 rfl) ?_
  exact mx_go (vx_runV (As := [.int (iI 2), .int (iI pl)]) (rest := []) ⟨hx, hb, hml, hown, hts⟩ (c_X5_matchesWith_noM_2 l cg D ad st hst b hX pl hpl hno) (cwV 2 hts gX5_unitsOf_X5_matchesWith rfl rfl rfl (by decide +kernel) ⟨Nat.le_of_ble_eq_true rfl, Nat.le_of_ble_eq_true rfl⟩) (mx_preV hK hN hxK hxZ hW 0 (by decide) rfl rfl rfl) rfl rfl hl.1 rfl (lv_room (Nat.le_of_ble_eq_true rfl)) dX5_unitsOf_3 ⟨Nat.le_refl _, Nat.le_refl _⟩) hW (fun ce q9 H1 locs1 hW1 _ hce hcv hcl => mx_out htab hlocks hW1 hce hcv hcl)

set_option maxHeartbeats 4000000 in
set_option maxRecDepth 100000 in
theorem c_X5_costOf_noA (l : Launch) (cg : Nat → ClassId) (D : va_G) (ad : Nat → Nat) (st : Nat → Nat → Int) (hst : l.stackTraces = false) (a pl : Int) (ha : -2147483648 ≤ a ∧ a < 2147483648) (hno : ¬ (0 ≤ a ∧ a < 3)) : TX l yX5_costOf wsX5_costOf ({ frames := 8, cells := 1, slots := 6, locals := 150 }) D vwCl (TY cg) 73 (celX cg) ad st [.ref (ad 0), .int (iI a), .int (iI pl)] (xE1) := by
  refine mx_open (cc := cX5_costOf) (maxL := 3) (ret := (some .int)) (by decide) rfl (Nat.le_of_ble_eq_true rfl) ?_
  intro p e s m args below meth c hx hb hml hr hown hts hlocks hK hN hargs ls hl hW hxK hxZ htab
  have hown : s.vm.findClass RX5 = some m.cls := hown
  have hl : lv_has ls 3 [(0, .ref (ad 0)), (1, .int (iI a)), (2, .int (iI pl))] := hl
  refine lv_aload_n hx hb dX5_costOf_0 rfl (lv_at hl 0 rfl) ?_
  refine lv_iload_n hx hb dX5_costOf_1 rfl (lv_at hl 1 rfl) ?_
  refine lv_iload_n hx hb dX5_costOf_2 rfl (lv_at hl 2 rfl) ?_
  exact mx_go (vx_runV (As := [.int (iI a), .int (iI pl)]) (rest := []) ⟨hx, hb, hml, hown, hts⟩ (c_X5_matchesWith_noA l cg D ad st hst a pl ha hno) (cwV 2 hts gX5_costOf_X5_matchesWith rfl rfl rfl (by decide +kernel) ⟨Nat.le_of_ble_eq_true rfl, Nat.le_of_ble_eq_true rfl⟩) (mx_preV hK hN hxK hxZ hW 0 (by decide) rfl rfl rfl) rfl rfl hl.1 rfl (lv_room (Nat.le_of_ble_eq_true rfl)) dX5_costOf_3 ⟨Nat.le_refl _, Nat.le_refl _⟩) hW (fun ce q9 H1 locs1 hW1 _ hce hcv hcl => mx_out htab hlocks hW1 hce hcv hcl)

set_option maxHeartbeats 4000000 in
set_option maxRecDepth 100000 in
theorem c_X5_costOf_noM_0 (l : Launch) (cg : Nat → ClassId) (D : va_G) (ad : Nat → Nat) (st : Nat → Nat → Int) (hst : l.stackTraces = false) (b : Nat → Nat → Int) (hX : XI st b) (pl : Int) (hpl : -2147483648 ≤ pl ∧ pl < 2147483648) (hno : ¬ (0 ≤ pl ∧ pl < (bAA b 0 (xR st 0) (xD st 0)).length)) : TX l yX5_costOf wsX5_costOf ({ frames := 8, cells := 1, slots := 6, locals := 150 }) D vwCl (TY cg) 73 (celX cg) ad st [.ref (ad 0), .int (iI 0), .int (iI pl)] (xE1) := by
  refine mx_open (cc := cX5_costOf) (maxL := 3) (ret := (some .int)) (by decide) rfl (Nat.le_of_ble_eq_true rfl) ?_
  intro p e s m args below meth c hx hb hml hr hown hts hlocks hK hN hargs ls hl hW hxK hxZ htab
  have hown : s.vm.findClass RX5 = some m.cls := hown
  have hl : lv_has ls 3 [(0, .ref (ad 0)), (1, .int (iI 0)), (2, .int (iI pl))] := hl
  refine lv_aload_n hx hb dX5_costOf_0 rfl (lv_at hl 0 rfl) ?_
  refine lv_iload_n hx hb dX5_costOf_1 rfl (lv_at hl 1 rfl) ?_
  refine lv_iload_n hx hb dX5_costOf_2 rfl (lv_at hl 2 rfl) ?_
  exact mx_go (vx_runV (As := [.int (iI 0), .int (iI pl)]) (rest := []) ⟨hx, hb, hml, hown, hts⟩ (c_X5_matchesWith_noM_0 l cg D ad st hst b hX pl hpl hno) (cwV 2 hts gX5_costOf_X5_matchesWith rfl rfl rfl (by decide +kernel) ⟨Nat.le_of_ble_eq_true rfl, Nat.le_of_ble_eq_true rfl⟩) (mx_preV hK hN hxK hxZ hW 0 (by decide) rfl rfl rfl) rfl rfl hl.1 rfl (lv_room (Nat.le_of_ble_eq_true rfl)) dX5_costOf_3 ⟨Nat.le_refl _, Nat.le_refl _⟩) hW (fun ce q9 H1 locs1 hW1 _ hce hcv hcl => mx_out htab hlocks hW1 hce hcv hcl)

set_option maxHeartbeats 4000000 in
set_option maxRecDepth 100000 in
theorem c_X5_costOf_noM_1 (l : Launch) (cg : Nat → ClassId) (D : va_G) (ad : Nat → Nat) (st : Nat → Nat → Int) (hst : l.stackTraces = false) (b : Nat → Nat → Int) (hX : XI st b) (pl : Int) (hpl : -2147483648 ≤ pl ∧ pl < 2147483648) (hno : ¬ (0 ≤ pl ∧ pl < (bAA b 1 (xR st 1) (xD st 1)).length)) : TX l yX5_costOf wsX5_costOf ({ frames := 8, cells := 1, slots := 6, locals := 150 }) D vwCl (TY cg) 73 (celX cg) ad st [.ref (ad 0), .int (iI 1), .int (iI pl)] (xE1) := by
  refine mx_open (cc := cX5_costOf) (maxL := 3) (ret := (some .int)) (by decide) rfl (Nat.le_of_ble_eq_true rfl) ?_
  intro p e s m args below meth c hx hb hml hr hown hts hlocks hK hN hargs ls hl hW hxK hxZ htab
  have hown : s.vm.findClass RX5 = some m.cls := hown
  have hl : lv_has ls 3 [(0, .ref (ad 0)), (1, .int (iI 1)), (2, .int (iI pl))] := hl
  refine lv_aload_n hx hb dX5_costOf_0 rfl (lv_at hl 0 rfl) ?_
  refine lv_iload_n hx hb dX5_costOf_1 rfl (lv_at hl 1 rfl) ?_
  refine lv_iload_n hx hb dX5_costOf_2 rfl (lv_at hl 2 rfl) ?_
  exact mx_go (vx_runV (As := [.int (iI 1), .int (iI pl)]) (rest := []) ⟨hx, hb, hml, hown, hts⟩ (c_X5_matchesWith_noM_1 l cg D ad st hst b hX pl hpl hno) (cwV 2 hts gX5_costOf_X5_matchesWith rfl rfl rfl (by decide +kernel) ⟨Nat.le_of_ble_eq_true rfl, Nat.le_of_ble_eq_true rfl⟩) (mx_preV hK hN hxK hxZ hW 0 (by decide) rfl rfl rfl) rfl rfl hl.1 rfl (lv_room (Nat.le_of_ble_eq_true rfl)) dX5_costOf_3 ⟨Nat.le_refl _, Nat.le_refl _⟩) hW (fun ce q9 H1 locs1 hW1 _ hce hcv hcl => mx_out htab hlocks hW1 hce hcv hcl)

set_option maxHeartbeats 4000000 in
set_option maxRecDepth 100000 in
theorem c_X5_costOf_noM_2 (l : Launch) (cg : Nat → ClassId) (D : va_G) (ad : Nat → Nat) (st : Nat → Nat → Int) (hst : l.stackTraces = false) (b : Nat → Nat → Int) (hX : XI st b) (pl : Int) (hpl : -2147483648 ≤ pl ∧ pl < 2147483648) (hno : ¬ (0 ≤ pl ∧ pl < (bAA b 2 (xR st 2) (xD st 2)).length)) : TX l yX5_costOf wsX5_costOf ({ frames := 8, cells := 1, slots := 6, locals := 150 }) D vwCl (TY cg) 73 (celX cg) ad st [.ref (ad 0), .int (iI 2), .int (iI pl)] (xE1) := by
  refine mx_open (cc := cX5_costOf) (maxL := 3) (ret := (some .int)) (by decide) rfl (Nat.le_of_ble_eq_true rfl) ?_
  intro p e s m args below meth c hx hb hml hr hown hts hlocks hK hN hargs ls hl hW hxK hxZ htab
  have hown : s.vm.findClass RX5 = some m.cls := hown
  have hl : lv_has ls 3 [(0, .ref (ad 0)), (1, .int (iI 2)), (2, .int (iI pl))] := hl
  refine lv_aload_n hx hb dX5_costOf_0 rfl (lv_at hl 0 rfl) ?_
  refine lv_iload_n hx hb dX5_costOf_1 rfl (lv_at hl 1 rfl) ?_
  refine lv_iload_n hx hb dX5_costOf_2 rfl (lv_at hl 2 rfl) ?_
  exact mx_go (vx_runV (As := [.int (iI 2), .int (iI pl)]) (rest := []) ⟨hx, hb, hml, hown, hts⟩ (c_X5_matchesWith_noM_2 l cg D ad st hst b hX pl hpl hno) (cwV 2 hts gX5_costOf_X5_matchesWith rfl rfl rfl (by decide +kernel) ⟨Nat.le_of_ble_eq_true rfl, Nat.le_of_ble_eq_true rfl⟩) (mx_preV hK hN hxK hxZ hW 0 (by decide) rfl rfl rfl) rfl rfl hl.1 rfl (lv_room (Nat.le_of_ble_eq_true rfl)) dX5_costOf_3 ⟨Nat.le_refl _, Nat.le_refl _⟩) hW (fun ce q9 H1 locs1 hW1 _ hce hcv hcl => mx_out htab hlocks hW1 hce hcv hcl)

set_option maxHeartbeats 4000000 in
set_option maxRecDepth 100000 in
theorem c_X5_proceedsOf_noA (l : Launch) (cg : Nat → ClassId) (D : va_G) (ad : Nat → Nat) (st : Nat → Nat → Int) (hst : l.stackTraces = false) (a pl : Int) (ha : -2147483648 ≤ a ∧ a < 2147483648) (hno : ¬ (0 ≤ a ∧ a < 3)) : TX l yX5_proceedsOf wsX5_proceedsOf ({ frames := 8, cells := 1, slots := 6, locals := 150 }) D vwCl (TY cg) 73 (celX cg) ad st [.ref (ad 0), .int (iI a), .int (iI pl)] (xE1) := by
  refine mx_open (cc := cX5_proceedsOf) (maxL := 3) (ret := (some .int)) (by decide) rfl (Nat.le_of_ble_eq_true rfl) ?_
  intro p e s m args below meth c hx hb hml hr hown hts hlocks hK hN hargs ls hl hW hxK hxZ htab
  have hown : s.vm.findClass RX5 = some m.cls := hown
  have hl : lv_has ls 3 [(0, .ref (ad 0)), (1, .int (iI a)), (2, .int (iI pl))] := hl
  refine lv_aload_n hx hb dX5_proceedsOf_0 rfl (lv_at hl 0 rfl) ?_
  refine lv_iload_n hx hb dX5_proceedsOf_1 rfl (lv_at hl 1 rfl) ?_
  refine lv_iload_n hx hb dX5_proceedsOf_2 rfl (lv_at hl 2 rfl) ?_
  exact mx_go (vx_runV (As := [.int (iI a), .int (iI pl)]) (rest := []) ⟨hx, hb, hml, hown, hts⟩ (c_X5_matchesWith_noA l cg D ad st hst a pl ha hno) (cwV 2 hts gX5_proceedsOf_X5_matchesWith rfl rfl rfl (by decide +kernel) ⟨Nat.le_of_ble_eq_true rfl, Nat.le_of_ble_eq_true rfl⟩) (mx_preV hK hN hxK hxZ hW 0 (by decide) rfl rfl rfl) rfl rfl hl.1 rfl (lv_room (Nat.le_of_ble_eq_true rfl)) dX5_proceedsOf_3 ⟨Nat.le_refl _, Nat.le_refl _⟩) hW (fun ce q9 H1 locs1 hW1 _ hce hcv hcl => mx_out htab hlocks hW1 hce hcv hcl)

set_option maxHeartbeats 4000000 in
set_option maxRecDepth 100000 in
theorem c_X5_proceedsOf_noM_0 (l : Launch) (cg : Nat → ClassId) (D : va_G) (ad : Nat → Nat) (st : Nat → Nat → Int) (hst : l.stackTraces = false) (b : Nat → Nat → Int) (hX : XI st b) (pl : Int) (hpl : -2147483648 ≤ pl ∧ pl < 2147483648) (hno : ¬ (0 ≤ pl ∧ pl < (bAA b 0 (xR st 0) (xD st 0)).length)) : TX l yX5_proceedsOf wsX5_proceedsOf ({ frames := 8, cells := 1, slots := 6, locals := 150 }) D vwCl (TY cg) 73 (celX cg) ad st [.ref (ad 0), .int (iI 0), .int (iI pl)] (xE1) := by
  refine mx_open (cc := cX5_proceedsOf) (maxL := 3) (ret := (some .int)) (by decide) rfl (Nat.le_of_ble_eq_true rfl) ?_
  intro p e s m args below meth c hx hb hml hr hown hts hlocks hK hN hargs ls hl hW hxK hxZ htab
  have hown : s.vm.findClass RX5 = some m.cls := hown
  have hl : lv_has ls 3 [(0, .ref (ad 0)), (1, .int (iI 0)), (2, .int (iI pl))] := hl
  refine lv_aload_n hx hb dX5_proceedsOf_0 rfl (lv_at hl 0 rfl) ?_
  refine lv_iload_n hx hb dX5_proceedsOf_1 rfl (lv_at hl 1 rfl) ?_
  refine lv_iload_n hx hb dX5_proceedsOf_2 rfl (lv_at hl 2 rfl) ?_
  exact mx_go (vx_runV (As := [.int (iI 0), .int (iI pl)]) (rest := []) ⟨hx, hb, hml, hown, hts⟩ (c_X5_matchesWith_noM_0 l cg D ad st hst b hX pl hpl hno) (cwV 2 hts gX5_proceedsOf_X5_matchesWith rfl rfl rfl (by decide +kernel) ⟨Nat.le_of_ble_eq_true rfl, Nat.le_of_ble_eq_true rfl⟩) (mx_preV hK hN hxK hxZ hW 0 (by decide) rfl rfl rfl) rfl rfl hl.1 rfl (lv_room (Nat.le_of_ble_eq_true rfl)) dX5_proceedsOf_3 ⟨Nat.le_refl _, Nat.le_refl _⟩) hW (fun ce q9 H1 locs1 hW1 _ hce hcv hcl => mx_out htab hlocks hW1 hce hcv hcl)

set_option maxHeartbeats 4000000 in
set_option maxRecDepth 100000 in
theorem c_X5_proceedsOf_noM_1 (l : Launch) (cg : Nat → ClassId) (D : va_G) (ad : Nat → Nat) (st : Nat → Nat → Int) (hst : l.stackTraces = false) (b : Nat → Nat → Int) (hX : XI st b) (pl : Int) (hpl : -2147483648 ≤ pl ∧ pl < 2147483648) (hno : ¬ (0 ≤ pl ∧ pl < (bAA b 1 (xR st 1) (xD st 1)).length)) : TX l yX5_proceedsOf wsX5_proceedsOf ({ frames := 8, cells := 1, slots := 6, locals := 150 }) D vwCl (TY cg) 73 (celX cg) ad st [.ref (ad 0), .int (iI 1), .int (iI pl)] (xE1) := by
  refine mx_open (cc := cX5_proceedsOf) (maxL := 3) (ret := (some .int)) (by decide) rfl (Nat.le_of_ble_eq_true rfl) ?_
  intro p e s m args below meth c hx hb hml hr hown hts hlocks hK hN hargs ls hl hW hxK hxZ htab
  have hown : s.vm.findClass RX5 = some m.cls := hown
  have hl : lv_has ls 3 [(0, .ref (ad 0)), (1, .int (iI 1)), (2, .int (iI pl))] := hl
  refine lv_aload_n hx hb dX5_proceedsOf_0 rfl (lv_at hl 0 rfl) ?_
  refine lv_iload_n hx hb dX5_proceedsOf_1 rfl (lv_at hl 1 rfl) ?_
  refine lv_iload_n hx hb dX5_proceedsOf_2 rfl (lv_at hl 2 rfl) ?_
  exact mx_go (vx_runV (As := [.int (iI 1), .int (iI pl)]) (rest := []) ⟨hx, hb, hml, hown, hts⟩ (c_X5_matchesWith_noM_1 l cg D ad st hst b hX pl hpl hno) (cwV 2 hts gX5_proceedsOf_X5_matchesWith rfl rfl rfl (by decide +kernel) ⟨Nat.le_of_ble_eq_true rfl, Nat.le_of_ble_eq_true rfl⟩) (mx_preV hK hN hxK hxZ hW 0 (by decide) rfl rfl rfl) rfl rfl hl.1 rfl (lv_room (Nat.le_of_ble_eq_true rfl)) dX5_proceedsOf_3 ⟨Nat.le_refl _, Nat.le_refl _⟩) hW (fun ce q9 H1 locs1 hW1 _ hce hcv hcl => mx_out htab hlocks hW1 hce hcv hcl)

set_option maxHeartbeats 4000000 in
set_option maxRecDepth 100000 in
theorem c_X5_proceedsOf_noM_2 (l : Launch) (cg : Nat → ClassId) (D : va_G) (ad : Nat → Nat) (st : Nat → Nat → Int) (hst : l.stackTraces = false) (b : Nat → Nat → Int) (hX : XI st b) (pl : Int) (hpl : -2147483648 ≤ pl ∧ pl < 2147483648) (hno : ¬ (0 ≤ pl ∧ pl < (bAA b 2 (xR st 2) (xD st 2)).length)) : TX l yX5_proceedsOf wsX5_proceedsOf ({ frames := 8, cells := 1, slots := 6, locals := 150 }) D vwCl (TY cg) 73 (celX cg) ad st [.ref (ad 0), .int (iI 2), .int (iI pl)] (xE1) := by
  refine mx_open (cc := cX5_proceedsOf) (maxL := 3) (ret := (some .int)) (by decide) rfl (Nat.le_of_ble_eq_true rfl) ?_
  intro p e s m args below meth c hx hb hml hr hown hts hlocks hK hN hargs ls hl hW hxK hxZ htab
  have hown : s.vm.findClass RX5 = some m.cls := hown
  have hl : lv_has ls 3 [(0, .ref (ad 0)), (1, .int (iI 2)), (2, .int (iI pl))] := hl
  refine lv_aload_n hx hb dX5_proceedsOf_0 rfl (lv_at hl 0 rfl) ?_
  refine lv_iload_n hx hb dX5_proceedsOf_1 rfl (lv_at hl 1 rfl) ?_
  refine lv_iload_n hx hb dX5_proceedsOf_2 rfl (lv_at hl 2 rfl) ?_
  exact mx_go (vx_runV (As := [.int (iI 2), .int (iI pl)]) (rest := []) ⟨hx, hb, hml, hown, hts⟩ (c_X5_matchesWith_noM_2 l cg D ad st hst b hX pl hpl hno) (cwV 2 hts gX5_proceedsOf_X5_matchesWith rfl rfl rfl (by decide +kernel) ⟨Nat.le_of_ble_eq_true rfl, Nat.le_of_ble_eq_true rfl⟩) (mx_preV hK hN hxK hxZ hW 0 (by decide) rfl rfl rfl) rfl rfl hl.1 rfl (lv_room (Nat.le_of_ble_eq_true rfl)) dX5_proceedsOf_3 ⟨Nat.le_refl _, Nat.le_refl _⟩) hW (fun ce q9 H1 locs1 hW1 _ hce hcv hcl => mx_out htab hlocks hW1 hce hcv hcl)

set_option maxHeartbeats 4000000 in
set_option maxRecDepth 100000 in
theorem c_X5_gain_noA (l : Launch) (cg : Nat → ClassId) (D : va_G) (ad : Nat → Nat) (st : Nat → Nat → Int) (hst : l.stackTraces = false) (a y : Int) (ha : -2147483648 ≤ a ∧ a < 2147483648) (hno : ¬ (0 ≤ a ∧ a < 3)) : TX l yX5_gain wsX5_gain ({ frames := 8, cells := 1, slots := 6, locals := 150 }) D vwCl (TY cg) 73 (celX cg) ad st [.ref (ad 0), .int (iI a), .int (iI y)] (xE1) := by
  refine mx_open (cc := cX5_gain) (maxL := 4) (ret := (some .int)) (by decide) rfl (Nat.le_of_ble_eq_true rfl) ?_
  intro p e s m args below meth c hx hb hml hr hown hts hlocks hK hN hargs ls hl hW hxK hxZ htab
  have hown : s.vm.findClass RX5 = some m.cls := hown
  have hl : lv_has ls 4 [(0, .ref (ad 0)), (1, .int (iI a)), (2, .int (iI y))] := hl
  refine lv_aload_n hx hb dX5_gain_0 rfl (lv_at hl 0 rfl) ?_
  refine lv_iload_n hx hb dX5_gain_1 rfl (lv_at hl 1 rfl) ?_
  exact mx_go (vx_runV (As := [.int (iI a)]) (rest := []) ⟨hx, hb, hml, hown, hts⟩ (c_X5_ledgerOf_no l cg D ad st hst a ha hno) (cwV 1 hts gX5_gain_X5_ledgerOf rfl rfl rfl (by decide +kernel) ⟨Nat.le_of_ble_eq_true rfl, Nat.le_of_ble_eq_true rfl⟩) (mx_preV hK hN hxK hxZ hW 0 (by decide) rfl rfl rfl) rfl rfl hl.1 rfl (lv_room (Nat.le_of_ble_eq_true rfl)) dX5_gain_2 ⟨Nat.le_refl _, Nat.le_refl _⟩) hW (fun ce q9 H1 locs1 hW1 _ hce hcv hcl => mx_out htab hlocks hW1 hce hcv hcl)

set_option maxHeartbeats 4000000 in
set_option maxRecDepth 100000 in
theorem c_X5_gain_noY_0 (l : Launch) (cg : Nat → ClassId) (D : va_G) (ad : Nat → Nat) (st : Nat → Nat → Int) (hst : l.stackTraces = false) (y : Int) (hy : -2147483648 ≤ y ∧ y < 2147483648) (hno : ¬ (0 ≤ y ∧ y < 5)) : TX l yX5_gain wsX5_gain ({ frames := 8, cells := 1, slots := 6, locals := 150 }) D vwCl (TY cg) 73 (celX cg) ad st [.ref (ad 0), .int (iI 0), .int (iI y)] (xE1) := by
  refine mx_open (cc := cX5_gain) (maxL := 4) (ret := (some .int)) (by decide) rfl (Nat.le_of_ble_eq_true rfl) ?_
  intro p e s m args below meth c hx hb hml hr hown hts hlocks hK hN hargs ls hl hW hxK hxZ htab
  have hown : s.vm.findClass RX5 = some m.cls := hown
  have hl : lv_has ls 4 [(0, .ref (ad 0)), (1, .int (iI 0)), (2, .int (iI y))] := hl
  refine lv_aload_n hx hb dX5_gain_0 rfl (lv_at hl 0 rfl) ?_
  refine lv_iload_n hx hb dX5_gain_1 rfl (lv_at hl 1 rfl) ?_
  refine mk_goR (st9 := st) (va_runV (As := [.int (iI 0)]) (rest := []) ⟨hx, hb, hml, hown, hts⟩ (c_X5_ledgerOf_0 l cg D ad st) (cwV 1 hts gX5_gain_X5_ledgerOf rfl rfl rfl (by decide +kernel) ⟨Nat.le_of_ble_eq_true rfl, Nat.le_of_ble_eq_true rfl⟩) (mk_preV hK hN hW 0 (by decide) rfl rfl rfl) rfl rfl hl.1 rfl (lv_room (Nat.le_of_ble_eq_true rfl)) dX5_gain_2 ⟨Nat.zero_le _, Nat.zero_le _⟩) hW (fun H locs hW => ?_)
  refine lv_astore_n (lv' := [(3, .ref (ad 9)), (0, .ref (ad 0)), (1, .int (iI 0)), (2, .int (iI y))]) hx hb dX5_gain_5 rfl hl (by decide) rfl (fun ls hl => ?_)
  refine lv_iload_n hx hb dX5_gain_6 rfl (lv_at hl 3 rfl) ?_
  exact mx_go (vx_runS (As := [.int (iI y)]) (rest := []) ⟨hx, hb, hml, hown, hts⟩ (c_X5_checkYear_no l cg D ad st hst y hy hno) (cwS 1 hts gX5_gain_X5_checkYear rfl rfl rfl (by decide +kernel) ⟨Nat.le_of_ble_eq_true rfl, Nat.le_of_ble_eq_true rfl⟩) (mx_preS hK hN hxK hxZ hW) rfl rfl hl.1 rfl (lv_room (Nat.le_of_ble_eq_true rfl)) dX5_gain_7 ⟨Nat.le_refl _, Nat.le_refl _⟩) hW (fun ce q9 H1 locs1 hW1 _ hce hcv hcl => mx_out htab hlocks hW1 hce hcv hcl)

set_option maxHeartbeats 4000000 in
set_option maxRecDepth 100000 in
theorem c_X5_gain_noY_1 (l : Launch) (cg : Nat → ClassId) (D : va_G) (ad : Nat → Nat) (st : Nat → Nat → Int) (hst : l.stackTraces = false) (y : Int) (hy : -2147483648 ≤ y ∧ y < 2147483648) (hno : ¬ (0 ≤ y ∧ y < 5)) : TX l yX5_gain wsX5_gain ({ frames := 8, cells := 1, slots := 6, locals := 150 }) D vwCl (TY cg) 73 (celX cg) ad st [.ref (ad 0), .int (iI 1), .int (iI y)] (xE1) := by
  refine mx_open (cc := cX5_gain) (maxL := 4) (ret := (some .int)) (by decide) rfl (Nat.le_of_ble_eq_true rfl) ?_
  intro p e s m args below meth c hx hb hml hr hown hts hlocks hK hN hargs ls hl hW hxK hxZ htab
  have hown : s.vm.findClass RX5 = some m.cls := hown
  have hl : lv_has ls 4 [(0, .ref (ad 0)), (1, .int (iI 1)), (2, .int (iI y))] := hl
  refine lv_aload_n hx hb dX5_gain_0 rfl (lv_at hl 0 rfl) ?_
  refine lv_iload_n hx hb dX5_gain_1 rfl (lv_at hl 1 rfl) ?_
  refine mk_goR (st9 := st) (va_runV (As := [.int (iI 1)]) (rest := []) ⟨hx, hb, hml, hown, hts⟩ (c_X5_ledgerOf_1 l cg D ad st) (cwV 1 hts gX5_gain_X5_ledgerOf rfl rfl rfl (by decide +kernel) ⟨Nat.le_of_ble_eq_true rfl, Nat.le_of_ble_eq_true rfl⟩) (mk_preV hK hN hW 0 (by decide) rfl rfl rfl) rfl rfl hl.1 rfl (lv_room (Nat.le_of_ble_eq_true rfl)) dX5_gain_2 ⟨Nat.zero_le _, Nat.zero_le _⟩) hW (fun H locs hW => ?_)
  refine lv_astore_n (lv' := [(3, .ref (ad 30)), (0, .ref (ad 0)), (1, .int (iI 1)), (2, .int (iI y))]) hx hb dX5_gain_5 rfl hl (by decide) rfl (fun ls hl => ?_)
  refine lv_iload_n hx hb dX5_gain_6 rfl (lv_at hl 3 rfl) ?_
  exact mx_go (vx_runS (As := [.int (iI y)]) (rest := []) ⟨hx, hb, hml, hown, hts⟩ (c_X5_checkYear_no l cg D ad st hst y hy hno) (cwS 1 hts gX5_gain_X5_checkYear rfl rfl rfl (by decide +kernel) ⟨Nat.le_of_ble_eq_true rfl, Nat.le_of_ble_eq_true rfl⟩) (mx_preS hK hN hxK hxZ hW) rfl rfl hl.1 rfl (lv_room (Nat.le_of_ble_eq_true rfl)) dX5_gain_7 ⟨Nat.le_refl _, Nat.le_refl _⟩) hW (fun ce q9 H1 locs1 hW1 _ hce hcv hcl => mx_out htab hlocks hW1 hce hcv hcl)

set_option maxHeartbeats 4000000 in
set_option maxRecDepth 100000 in
theorem c_X5_gain_noY_2 (l : Launch) (cg : Nat → ClassId) (D : va_G) (ad : Nat → Nat) (st : Nat → Nat → Int) (hst : l.stackTraces = false) (y : Int) (hy : -2147483648 ≤ y ∧ y < 2147483648) (hno : ¬ (0 ≤ y ∧ y < 5)) : TX l yX5_gain wsX5_gain ({ frames := 8, cells := 1, slots := 6, locals := 150 }) D vwCl (TY cg) 73 (celX cg) ad st [.ref (ad 0), .int (iI 2), .int (iI y)] (xE1) := by
  refine mx_open (cc := cX5_gain) (maxL := 4) (ret := (some .int)) (by decide) rfl (Nat.le_of_ble_eq_true rfl) ?_
  intro p e s m args below meth c hx hb hml hr hown hts hlocks hK hN hargs ls hl hW hxK hxZ htab
  have hown : s.vm.findClass RX5 = some m.cls := hown
  have hl : lv_has ls 4 [(0, .ref (ad 0)), (1, .int (iI 2)), (2, .int (iI y))] := hl
  refine lv_aload_n hx hb dX5_gain_0 rfl (lv_at hl 0 rfl) ?_
  refine lv_iload_n hx hb dX5_gain_1 rfl (lv_at hl 1 rfl) ?_
  refine mk_goR (st9 := st) (va_runV (As := [.int (iI 2)]) (rest := []) ⟨hx, hb, hml, hown, hts⟩ (c_X5_ledgerOf_2 l cg D ad st) (cwV 1 hts gX5_gain_X5_ledgerOf rfl rfl rfl (by decide +kernel) ⟨Nat.le_of_ble_eq_true rfl, Nat.le_of_ble_eq_true rfl⟩) (mk_preV hK hN hW 0 (by decide) rfl rfl rfl) rfl rfl hl.1 rfl (lv_room (Nat.le_of_ble_eq_true rfl)) dX5_gain_2 ⟨Nat.zero_le _, Nat.zero_le _⟩) hW (fun H locs hW => ?_)
  refine lv_astore_n (lv' := [(3, .ref (ad 51)), (0, .ref (ad 0)), (1, .int (iI 2)), (2, .int (iI y))]) hx hb dX5_gain_5 rfl hl (by decide) rfl (fun ls hl => ?_)
  refine lv_iload_n hx hb dX5_gain_6 rfl (lv_at hl 3 rfl) ?_
  exact mx_go (vx_runS (As := [.int (iI y)]) (rest := []) ⟨hx, hb, hml, hown, hts⟩ (c_X5_checkYear_no l cg D ad st hst y hy hno) (cwS 1 hts gX5_gain_X5_checkYear rfl rfl rfl (by decide +kernel) ⟨Nat.le_of_ble_eq_true rfl, Nat.le_of_ble_eq_true rfl⟩) (mx_preS hK hN hxK hxZ hW) rfl rfl hl.1 rfl (lv_room (Nat.le_of_ble_eq_true rfl)) dX5_gain_7 ⟨Nat.le_refl _, Nat.le_refl _⟩) hW (fun ce q9 H1 locs1 hW1 _ hce hcv hcl => mx_out htab hlocks hW1 hce hcv hcl)

set_option maxHeartbeats 4000000 in
set_option maxRecDepth 100000 in
theorem c_X5_net_no (l : Launch) (cg : Nat → ClassId) (D : va_G) (ad : Nat → Nat) (st : Nat → Nat → Int) (hst : l.stackTraces = false) (y : Int) (hy : -2147483648 ≤ y ∧ y < 2147483648) (hno : ¬ (0 ≤ y ∧ y < 5)) : TX l yX5_net wsX5_net ({ frames := 8, cells := 1, slots := 6, locals := 150 }) D vwCl (TY cg) 73 (celX cg) ad st [.ref (ad 0), .int (iI y)] (xE1) := by
  refine mx_open (cc := cX5_net) (maxL := 2) (ret := (some .int)) (by decide) rfl (Nat.le_of_ble_eq_true rfl) ?_
  intro p e s m args below meth c hx hb hml hr hown hts hlocks hK hN hargs ls hl hW hxK hxZ htab
  have hown : s.vm.findClass RX5 = some m.cls := hown
  have hl : lv_has ls 2 [(0, .ref (ad 0)), (1, .int (iI y))] := hl
  refine lv_iload_n hx hb dX5_net_0 rfl (lv_at hl 1 rfl) ?_
  exact mx_go (vx_runS (As := [.int (iI y)]) (rest := []) ⟨hx, hb, hml, hown, hts⟩ (c_X5_checkYear_no l cg D ad st hst y hy hno) (cwS 1 hts gX5_net_X5_checkYear rfl rfl rfl (by decide +kernel) ⟨Nat.le_of_ble_eq_true rfl, Nat.le_of_ble_eq_true rfl⟩) (mx_preS hK hN hxK hxZ hW) rfl rfl hl.1 rfl (lv_room (Nat.le_of_ble_eq_true rfl)) dX5_net_1 ⟨Nat.le_refl _, Nat.le_refl _⟩) hW (fun ce q9 H1 locs1 hW1 _ hce hcv hcl => mx_out htab hlocks hW1 hce hcv hcl)

set_option maxHeartbeats 4000000 in
set_option maxRecDepth 100000 in
theorem c_X5_carried_no (l : Launch) (cg : Nat → ClassId) (D : va_G) (ad : Nat → Nat) (st : Nat → Nat → Int) (hst : l.stackTraces = false) (y : Int) (hy : -2147483648 ≤ y ∧ y < 2147483648) (hno : ¬ (0 ≤ y ∧ y < 5)) : TX l yX5_carried wsX5_carried ({ frames := 8, cells := 1, slots := 6, locals := 150 }) D vwCl (TY cg) 73 (celX cg) ad st [.ref (ad 0), .int (iI y)] (xE1) := by
  refine mx_open (cc := cX5_carried) (maxL := 2) (ret := (some .int)) (by decide) rfl (Nat.le_of_ble_eq_true rfl) ?_
  intro p e s m args below meth c hx hb hml hr hown hts hlocks hK hN hargs ls hl hW hxK hxZ htab
  have hown : s.vm.findClass RX5 = some m.cls := hown
  have hl : lv_has ls 2 [(0, .ref (ad 0)), (1, .int (iI y))] := hl
  refine lv_iload_n hx hb dX5_carried_0 rfl (lv_at hl 1 rfl) ?_
  exact mx_go (vx_runS (As := [.int (iI y)]) (rest := []) ⟨hx, hb, hml, hown, hts⟩ (c_X5_checkYear_no l cg D ad st hst y hy hno) (cwS 1 hts gX5_carried_X5_checkYear rfl rfl rfl (by decide +kernel) ⟨Nat.le_of_ble_eq_true rfl, Nat.le_of_ble_eq_true rfl⟩) (mx_preS hK hN hxK hxZ hW) rfl rfl hl.1 rfl (lv_room (Nat.le_of_ble_eq_true rfl)) dX5_carried_1 ⟨Nat.le_refl _, Nat.le_refl _⟩) hW (fun ce q9 H1 locs1 hW1 _ hce hcv hcl => mx_out htab hlocks hW1 hce hcv hcl)

set_option maxHeartbeats 4000000 in
set_option maxRecDepth 100000 in
theorem c_X5_taxable_no (l : Launch) (cg : Nat → ClassId) (D : va_G) (ad : Nat → Nat) (st : Nat → Nat → Int) (hst : l.stackTraces = false) (y : Int) (hy : -2147483648 ≤ y ∧ y < 2147483648) (hno : ¬ (0 ≤ y ∧ y < 5)) : TX l yX5_taxable wsX5_taxable ({ frames := 8, cells := 1, slots := 6, locals := 150 }) D vwCl (TY cg) 73 (celX cg) ad st [.ref (ad 0), .int (iI y)] (xE1) := by
  refine mx_open (cc := cX5_taxable) (maxL := 3) (ret := (some .int)) (by decide) rfl (Nat.le_of_ble_eq_true rfl) ?_
  intro p e s m args below meth c hx hb hml hr hown hts hlocks hK hN hargs ls hl hW hxK hxZ htab
  have hown : s.vm.findClass RX5 = some m.cls := hown
  have hl : lv_has ls 3 [(0, .ref (ad 0)), (1, .int (iI y))] := hl
  refine lv_iload_n hx hb dX5_taxable_0 rfl (lv_at hl 1 rfl) ?_
  exact mx_go (vx_runS (As := [.int (iI y)]) (rest := []) ⟨hx, hb, hml, hown, hts⟩ (c_X5_checkYear_no l cg D ad st hst y hy hno) (cwS 1 hts gX5_taxable_X5_checkYear rfl rfl rfl (by decide +kernel) ⟨Nat.le_of_ble_eq_true rfl, Nat.le_of_ble_eq_true rfl⟩) (mx_preS hK hN hxK hxZ hW) rfl rfl hl.1 rfl (lv_room (Nat.le_of_ble_eq_true rfl)) dX5_taxable_1 ⟨Nat.le_refl _, Nat.le_refl _⟩) hW (fun ce q9 H1 locs1 hW1 _ hce hcv hcl => mx_out htab hlocks hW1 hce hcv hcl)

set_option maxHeartbeats 4000000 in
set_option maxRecDepth 100000 in
theorem c_X5_buy_noA (l : Launch) (cg : Nat → ClassId) (D : va_G) (ad : Nat → Nat) (st : Nat → Nat → Int) (hst : l.stackTraces = false) (a d ct mo : Int) (ha : -2147483648 ≤ a ∧ a < 2147483648) (hno : ¬ (0 ≤ a ∧ a < 3)) : TX l yX5_buy wsX5_buy ({ frames := 8, cells := 1, slots := 6, locals := 150 }) D vwCl (TY cg) 73 (celX cg) ad st [.ref (ad 0), .int (iI a), .int (iI d), .int (iI ct), .int (iI mo)] (xE1) := by
  refine mx_open (cc := cX5_buy) (maxL := 7) (ret := (some .int)) (by decide) rfl (Nat.le_of_ble_eq_true rfl) ?_
  intro p e s m args below meth c hx hb hml hr hown hts hlocks hK hN hargs ls hl hW hxK hxZ htab
  have hown : s.vm.findClass RX5 = some m.cls := hown
  have hl : lv_has ls 7 [(0, .ref (ad 0)), (1, .int (iI a)), (2, .int (iI d)), (3, .int (iI ct)), (4, .int (iI mo))] := hl
  refine lv_aload_n hx hb dX5_buy_0 rfl (lv_at hl 0 rfl) ?_
  refine lv_iload_n hx hb dX5_buy_1 rfl (lv_at hl 1 rfl) ?_
  refine lv_iload_n hx hb dX5_buy_2 rfl (lv_at hl 2 rfl) ?_
  exact mx_go (vx_runV (As := [.int (iI a), .int (iI d)]) (rest := []) ⟨hx, hb, hml, hown, hts⟩ (c_X5_ledgerAt_noA l cg D ad st hst a d ha hno) (cwV 2 hts gX5_buy_X5_ledgerAt rfl rfl rfl (by decide +kernel) ⟨Nat.le_of_ble_eq_true rfl, Nat.le_of_ble_eq_true rfl⟩) (mx_preV hK hN hxK hxZ hW 0 (by decide) rfl rfl rfl) rfl rfl hl.1 rfl (lv_room (Nat.le_of_ble_eq_true rfl)) dX5_buy_3 ⟨Nat.le_refl _, Nat.le_refl _⟩) hW (fun ce q9 H1 locs1 hW1 _ hce hcv hcl => mx_out htab hlocks hW1 hce hcv hcl)

set_option maxHeartbeats 4000000 in
set_option maxRecDepth 100000 in
theorem c_X5_buy_noD_0 (l : Launch) (cg : Nat → ClassId) (D : va_G) (ad : Nat → Nat) (st : Nat → Nat → Int) (hst : l.stackTraces = false) (d ct mo : Int) (hd : -2147483648 ≤ d ∧ d < 2147483648) (hno : ¬ (0 ≤ d ∧ d < 1825)) : TX l yX5_buy wsX5_buy ({ frames := 8, cells := 1, slots := 6, locals := 150 }) D vwCl (TY cg) 73 (celX cg) ad st [.ref (ad 0), .int (iI 0), .int (iI d), .int (iI ct), .int (iI mo)] (xE1) := by
  refine mx_open (cc := cX5_buy) (maxL := 7) (ret := (some .int)) (by decide) rfl (Nat.le_of_ble_eq_true rfl) ?_
  intro p e s m args below meth c hx hb hml hr hown hts hlocks hK hN hargs ls hl hW hxK hxZ htab
  have hown : s.vm.findClass RX5 = some m.cls := hown
  have hl : lv_has ls 7 [(0, .ref (ad 0)), (1, .int (iI 0)), (2, .int (iI d)), (3, .int (iI ct)), (4, .int (iI mo))] := hl
  refine lv_aload_n hx hb dX5_buy_0 rfl (lv_at hl 0 rfl) ?_
  refine lv_iload_n hx hb dX5_buy_1 rfl (lv_at hl 1 rfl) ?_
  refine lv_iload_n hx hb dX5_buy_2 rfl (lv_at hl 2 rfl) ?_
  exact mx_go (vx_runV (As := [.int (iI 0), .int (iI d)]) (rest := []) ⟨hx, hb, hml, hown, hts⟩ (c_X5_ledgerAt_noD_0 l cg D ad st hst d hd hno) (cwV 2 hts gX5_buy_X5_ledgerAt rfl rfl rfl (by decide +kernel) ⟨Nat.le_of_ble_eq_true rfl, Nat.le_of_ble_eq_true rfl⟩) (mx_preV hK hN hxK hxZ hW 0 (by decide) rfl rfl rfl) rfl rfl hl.1 rfl (lv_room (Nat.le_of_ble_eq_true rfl)) dX5_buy_3 ⟨Nat.le_refl _, Nat.le_refl _⟩) hW (fun ce q9 H1 locs1 hW1 _ hce hcv hcl => mx_out htab hlocks hW1 hce hcv hcl)

set_option maxHeartbeats 4000000 in
set_option maxRecDepth 100000 in
theorem c_X5_buy_noD_1 (l : Launch) (cg : Nat → ClassId) (D : va_G) (ad : Nat → Nat) (st : Nat → Nat → Int) (hst : l.stackTraces = false) (d ct mo : Int) (hd : -2147483648 ≤ d ∧ d < 2147483648) (hno : ¬ (0 ≤ d ∧ d < 1825)) : TX l yX5_buy wsX5_buy ({ frames := 8, cells := 1, slots := 6, locals := 150 }) D vwCl (TY cg) 73 (celX cg) ad st [.ref (ad 0), .int (iI 1), .int (iI d), .int (iI ct), .int (iI mo)] (xE1) := by
  refine mx_open (cc := cX5_buy) (maxL := 7) (ret := (some .int)) (by decide) rfl (Nat.le_of_ble_eq_true rfl) ?_
  intro p e s m args below meth c hx hb hml hr hown hts hlocks hK hN hargs ls hl hW hxK hxZ htab
  have hown : s.vm.findClass RX5 = some m.cls := hown
  have hl : lv_has ls 7 [(0, .ref (ad 0)), (1, .int (iI 1)), (2, .int (iI d)), (3, .int (iI ct)), (4, .int (iI mo))] := hl
  refine lv_aload_n hx hb dX5_buy_0 rfl (lv_at hl 0 rfl) ?_
  refine lv_iload_n hx hb dX5_buy_1 rfl (lv_at hl 1 rfl) ?_
  refine lv_iload_n hx hb dX5_buy_2 rfl (lv_at hl 2 rfl) ?_
  exact mx_go (vx_runV (As := [.int (iI 1), .int (iI d)]) (rest := []) ⟨hx, hb, hml, hown, hts⟩ (c_X5_ledgerAt_noD_1 l cg D ad st hst d hd hno) (cwV 2 hts gX5_buy_X5_ledgerAt rfl rfl rfl (by decide +kernel) ⟨Nat.le_of_ble_eq_true rfl, Nat.le_of_ble_eq_true rfl⟩) (mx_preV hK hN hxK hxZ hW 0 (by decide) rfl rfl rfl) rfl rfl hl.1 rfl (lv_room (Nat.le_of_ble_eq_true rfl)) dX5_buy_3 ⟨Nat.le_refl _, Nat.le_refl _⟩) hW (fun ce q9 H1 locs1 hW1 _ hce hcv hcl => mx_out htab hlocks hW1 hce hcv hcl)

set_option maxHeartbeats 4000000 in
set_option maxRecDepth 100000 in
theorem c_X5_buy_noD_2 (l : Launch) (cg : Nat → ClassId) (D : va_G) (ad : Nat → Nat) (st : Nat → Nat → Int) (hst : l.stackTraces = false) (d ct mo : Int) (hd : -2147483648 ≤ d ∧ d < 2147483648) (hno : ¬ (0 ≤ d ∧ d < 1825)) : TX l yX5_buy wsX5_buy ({ frames := 8, cells := 1, slots := 6, locals := 150 }) D vwCl (TY cg) 73 (celX cg) ad st [.ref (ad 0), .int (iI 2), .int (iI d), .int (iI ct), .int (iI mo)] (xE1) := by
  refine mx_open (cc := cX5_buy) (maxL := 7) (ret := (some .int)) (by decide) rfl (Nat.le_of_ble_eq_true rfl) ?_
  intro p e s m args below meth c hx hb hml hr hown hts hlocks hK hN hargs ls hl hW hxK hxZ htab
  have hown : s.vm.findClass RX5 = some m.cls := hown
  have hl : lv_has ls 7 [(0, .ref (ad 0)), (1, .int (iI 2)), (2, .int (iI d)), (3, .int (iI ct)), (4, .int (iI mo))] := hl
  refine lv_aload_n hx hb dX5_buy_0 rfl (lv_at hl 0 rfl) ?_
  refine lv_iload_n hx hb dX5_buy_1 rfl (lv_at hl 1 rfl) ?_
  refine lv_iload_n hx hb dX5_buy_2 rfl (lv_at hl 2 rfl) ?_
  exact mx_go (vx_runV (As := [.int (iI 2), .int (iI d)]) (rest := []) ⟨hx, hb, hml, hown, hts⟩ (c_X5_ledgerAt_noD_2 l cg D ad st hst d hd hno) (cwV 2 hts gX5_buy_X5_ledgerAt rfl rfl rfl (by decide +kernel) ⟨Nat.le_of_ble_eq_true rfl, Nat.le_of_ble_eq_true rfl⟩) (mx_preV hK hN hxK hxZ hW 0 (by decide) rfl rfl rfl) rfl rfl hl.1 rfl (lv_room (Nat.le_of_ble_eq_true rfl)) dX5_buy_3 ⟨Nat.le_refl _, Nat.le_refl _⟩) hW (fun ce q9 H1 locs1 hW1 _ hce hcv hcl => mx_out htab hlocks hW1 hce hcv hcl)

set_option maxHeartbeats 4000000 in
set_option maxRecDepth 100000 in
theorem c_X5_buy_noC_0 (l : Launch) (cg : Nat → ClassId) (D : va_G) (ad : Nat → Nat) (st : Nat → Nat → Int) (hst : l.stackTraces = false) (d ct mo : Int) (hd : 0 ≤ d ∧ d < 1825) (hc : -2147483648 ≤ ct ∧ ct < 2147483648) (hno : ¬ (1 ≤ ct ∧ ct ≤ 1000)) : TX l yX5_buy wsX5_buy ({ frames := 8, cells := 1, slots := 6, locals := 150 }) D vwCl (TY cg) 73 (celX cg) ad st [.ref (ad 0), .int (iI 0), .int (iI d), .int (iI ct), .int (iI mo)] (xE2) := by
  refine mx_open (cc := cX5_buy) (maxL := 7) (ret := (some .int)) (by decide) rfl (Nat.le_of_ble_eq_true rfl) ?_
  intro p e s m args below meth c hx hb hml hr hown hts hlocks hK hN hargs ls hl hW hxK hxZ htab
  have hown : s.vm.findClass RX5 = some m.cls := hown
  have hl : lv_has ls 7 [(0, .ref (ad 0)), (1, .int (iI 0)), (2, .int (iI d)), (3, .int (iI ct)), (4, .int (iI mo))] := hl
  refine lv_aload_n hx hb dX5_buy_0 rfl (lv_at hl 0 rfl) ?_
  refine lv_iload_n hx hb dX5_buy_1 rfl (lv_at hl 1 rfl) ?_
  refine lv_iload_n hx hb dX5_buy_2 rfl (lv_at hl 2 rfl) ?_
  refine mk_goR (st9 := st) (va_runV (As := [.int (iI 0), .int (iI d)]) (rest := []) ⟨hx, hb, hml, hown, hts⟩ (c_X5_ledgerAt_0 l cg D ad st d (by omega)) (cwV 2 hts gX5_buy_X5_ledgerAt rfl rfl rfl (by decide +kernel) ⟨Nat.le_of_ble_eq_true rfl, Nat.le_of_ble_eq_true rfl⟩) (mk_preV hK hN hW 0 (by decide) rfl rfl rfl) rfl rfl hl.1 rfl (lv_room (Nat.le_of_ble_eq_true rfl)) dX5_buy_3 ⟨Nat.zero_le _, Nat.zero_le _⟩) hW (fun H locs hW => ?_)
  refine lv_astore (lv' := [(5, .ref (ad 9)), (0, .ref (ad 0)), (1, .int (iI 0)), (2, .int (iI d)), (3, .int (iI ct)), (4, .int (iI mo))]) hx hb dX5_buy_6 hl (by decide) rfl (fun ls hl => ?_)
  refine lv_iload_n hx hb dX5_buy_8 rfl (lv_at hl 4 rfl) ?_
  refine lv_iload hx hb dX5_buy_9 (lv_at hl 5 rfl) ?_
  exact mx_go (vx_runS (As := [.int (iI ct), .int (iI mo)]) (rest := []) ⟨hx, hb, hml, hown, hts⟩ (c_X5_checkTrade_noC l cg D ad st hst ct mo hc hno) (cwS 2 hts gX5_buy_X5_checkTrade rfl rfl rfl (by decide +kernel) ⟨Nat.le_of_ble_eq_true rfl, Nat.le_of_ble_eq_true rfl⟩) (mx_preS hK hN hxK hxZ hW) rfl rfl hl.1 rfl (lv_room (Nat.le_of_ble_eq_true rfl)) dX5_buy_11 ⟨Nat.le_refl _, Nat.le_refl _⟩) hW (fun ce q9 H1 locs1 hW1 _ hce hcv hcl => mx_out htab hlocks hW1 hce hcv hcl)

set_option maxHeartbeats 4000000 in
set_option maxRecDepth 100000 in
theorem c_X5_buy_noM_0 (l : Launch) (cg : Nat → ClassId) (D : va_G) (ad : Nat → Nat) (st : Nat → Nat → Int) (hst : l.stackTraces = false) (d ct mo : Int) (hd : 0 ≤ d ∧ d < 1825) (hc : 1 ≤ ct ∧ ct ≤ 1000) (hm : -2147483648 ≤ mo ∧ mo < 2147483648) (hno : ¬ (0 ≤ mo ∧ mo ≤ 1000000)) : TX l yX5_buy wsX5_buy ({ frames := 8, cells := 1, slots := 6, locals := 150 }) D vwCl (TY cg) 73 (celX cg) ad st [.ref (ad 0), .int (iI 0), .int (iI d), .int (iI ct), .int (iI mo)] (xE2) := by
  refine mx_open (cc := cX5_buy) (maxL := 7) (ret := (some .int)) (by decide) rfl (Nat.le_of_ble_eq_true rfl) ?_
  intro p e s m args below meth c hx hb hml hr hown hts hlocks hK hN hargs ls hl hW hxK hxZ htab
  have hown : s.vm.findClass RX5 = some m.cls := hown
  have hl : lv_has ls 7 [(0, .ref (ad 0)), (1, .int (iI 0)), (2, .int (iI d)), (3, .int (iI ct)), (4, .int (iI mo))] := hl
  refine lv_aload_n hx hb dX5_buy_0 rfl (lv_at hl 0 rfl) ?_
  refine lv_iload_n hx hb dX5_buy_1 rfl (lv_at hl 1 rfl) ?_
  refine lv_iload_n hx hb dX5_buy_2 rfl (lv_at hl 2 rfl) ?_
  refine mk_goR (st9 := st) (va_runV (As := [.int (iI 0), .int (iI d)]) (rest := []) ⟨hx, hb, hml, hown, hts⟩ (c_X5_ledgerAt_0 l cg D ad st d (by omega)) (cwV 2 hts gX5_buy_X5_ledgerAt rfl rfl rfl (by decide +kernel) ⟨Nat.le_of_ble_eq_true rfl, Nat.le_of_ble_eq_true rfl⟩) (mk_preV hK hN hW 0 (by decide) rfl rfl rfl) rfl rfl hl.1 rfl (lv_room (Nat.le_of_ble_eq_true rfl)) dX5_buy_3 ⟨Nat.zero_le _, Nat.zero_le _⟩) hW (fun H locs hW => ?_)
  refine lv_astore (lv' := [(5, .ref (ad 9)), (0, .ref (ad 0)), (1, .int (iI 0)), (2, .int (iI d)), (3, .int (iI ct)), (4, .int (iI mo))]) hx hb dX5_buy_6 hl (by decide) rfl (fun ls hl => ?_)
  refine lv_iload_n hx hb dX5_buy_8 rfl (lv_at hl 4 rfl) ?_
  refine lv_iload hx hb dX5_buy_9 (lv_at hl 5 rfl) ?_
  exact mx_go (vx_runS (As := [.int (iI ct), .int (iI mo)]) (rest := []) ⟨hx, hb, hml, hown, hts⟩ (c_X5_checkTrade_noM l cg D ad st hst ct mo hc hm hno) (cwS 2 hts gX5_buy_X5_checkTrade rfl rfl rfl (by decide +kernel) ⟨Nat.le_of_ble_eq_true rfl, Nat.le_of_ble_eq_true rfl⟩) (mx_preS hK hN hxK hxZ hW) rfl rfl hl.1 rfl (lv_room (Nat.le_of_ble_eq_true rfl)) dX5_buy_11 ⟨Nat.le_refl _, Nat.le_refl _⟩) hW (fun ce q9 H1 locs1 hW1 _ hce hcv hcl => mx_out htab hlocks hW1 hce hcv hcl)

set_option maxHeartbeats 4000000 in
set_option maxRecDepth 100000 in
theorem c_X5_buy_noR_0 (l : Launch) (cg : Nat → ClassId) (D : va_G) (ad : Nat → Nat) (st : Nat → Nat → Int) (hst : l.stackTraces = false) (d ct mo : Int) (hd : 0 ≤ d ∧ d < 1825) (hc : 1 ≤ ct ∧ ct ≤ 1000) (hm : 0 ≤ mo ∧ mo ≤ 1000000) (hn : st 1 6 = (60 : Nat)) : TX l yX5_buy wsX5_buy ({ frames := 8, cells := 1, slots := 6, locals := 150 }) D vwCl (TY cg) 73 (celX cg) ad st [.ref (ad 0), .int (iI 0), .int (iI d), .int (iI ct), .int (iI mo)] (xE3) := by
  refine mx_open (cc := cX5_buy) (maxL := 7) (ret := (some .int)) (by decide) rfl (Nat.le_of_ble_eq_true rfl) ?_
  intro p e s m args below meth c hx hb hml hr hown hts hlocks hK hN hargs ls hl hW hxK hxZ htab
  have hown : s.vm.findClass RX5 = some m.cls := hown
  have hl : lv_has ls 7 [(0, .ref (ad 0)), (1, .int (iI 0)), (2, .int (iI d)), (3, .int (iI ct)), (4, .int (iI mo))] := hl
  refine lv_aload_n hx hb dX5_buy_0 rfl (lv_at hl 0 rfl) ?_
  refine lv_iload_n hx hb dX5_buy_1 rfl (lv_at hl 1 rfl) ?_
  refine lv_iload_n hx hb dX5_buy_2 rfl (lv_at hl 2 rfl) ?_
  refine mk_goR (st9 := st) (va_runV (As := [.int (iI 0), .int (iI d)]) (rest := []) ⟨hx, hb, hml, hown, hts⟩ (c_X5_ledgerAt_0 l cg D ad st d (by omega)) (cwV 2 hts gX5_buy_X5_ledgerAt rfl rfl rfl (by decide +kernel) ⟨Nat.le_of_ble_eq_true rfl, Nat.le_of_ble_eq_true rfl⟩) (mk_preV hK hN hW 0 (by decide) rfl rfl rfl) rfl rfl hl.1 rfl (lv_room (Nat.le_of_ble_eq_true rfl)) dX5_buy_3 ⟨Nat.zero_le _, Nat.zero_le _⟩) hW (fun H locs hW => ?_)
  refine lv_astore (lv' := [(5, .ref (ad 9)), (0, .ref (ad 0)), (1, .int (iI 0)), (2, .int (iI d)), (3, .int (iI ct)), (4, .int (iI mo))]) hx hb dX5_buy_6 hl (by decide) rfl (fun ls hl => ?_)
  refine lv_iload_n hx hb dX5_buy_8 rfl (lv_at hl 4 rfl) ?_
  refine lv_iload hx hb dX5_buy_9 (lv_at hl 5 rfl) ?_
  refine mk_goV (va_runS (As := [.int (iI ct), .int (iI mo)]) (rest := []) ⟨hx, hb, hml, hown, hts⟩ (c_X5_checkTrade l cg D ad st ct mo hc hm) (cwS 2 hts gX5_buy_X5_checkTrade rfl rfl rfl (by decide +kernel) ⟨Nat.le_of_ble_eq_true rfl, Nat.le_of_ble_eq_true rfl⟩) (mk_preS hK hN hW) rfl rfl hl.1 rfl (lv_room (Nat.le_of_ble_eq_true rfl)) dX5_buy_11 ⟨Nat.zero_le _, Nat.zero_le _⟩) hW (fun st1 hp11 H locs hW => ?_)
  rw [hp11] at hW
  refine lv_aload_n hx hb dX5_buy_14 rfl (lv_at hl 1 rfl) ?_
  exact mx_go (vx_runV (As := []) (rest := []) ⟨hx, hb, hml, hown, hts⟩ (c_X5_checkRoomForTrade_no l cg D ad st hst hn) (cwV 0 hts gX5_buy_X5_checkRoomForTrade rfl rfl rfl (by decide +kernel) ⟨Nat.le_of_ble_eq_true rfl, Nat.le_of_ble_eq_true rfl⟩) (mx_preV hK hN hxK hxZ hW 0 (by decide) rfl rfl rfl) rfl rfl hl.1 rfl (lv_room (Nat.le_of_ble_eq_true rfl)) dX5_buy_15 ⟨Nat.le_refl _, Nat.le_refl _⟩) hW (fun ce q9 H1 locs1 hW1 _ hce hcv hcl => mx_out htab hlocks hW1 hce hcv hcl)

set_option maxHeartbeats 4000000 in
set_option maxRecDepth 100000 in
theorem c_X5_buy_noC_1 (l : Launch) (cg : Nat → ClassId) (D : va_G) (ad : Nat → Nat) (st : Nat → Nat → Int) (hst : l.stackTraces = false) (d ct mo : Int) (hd : 0 ≤ d ∧ d < 1825) (hc : -2147483648 ≤ ct ∧ ct < 2147483648) (hno : ¬ (1 ≤ ct ∧ ct ≤ 1000)) : TX l yX5_buy wsX5_buy ({ frames := 8, cells := 1, slots := 6, locals := 150 }) D vwCl (TY cg) 73 (celX cg) ad st [.ref (ad 0), .int (iI 1), .int (iI d), .int (iI ct), .int (iI mo)] (xE2) := by
  refine mx_open (cc := cX5_buy) (maxL := 7) (ret := (some .int)) (by decide) rfl (Nat.le_of_ble_eq_true rfl) ?_
  intro p e s m args below meth c hx hb hml hr hown hts hlocks hK hN hargs ls hl hW hxK hxZ htab
  have hown : s.vm.findClass RX5 = some m.cls := hown
  have hl : lv_has ls 7 [(0, .ref (ad 0)), (1, .int (iI 1)), (2, .int (iI d)), (3, .int (iI ct)), (4, .int (iI mo))] := hl
  refine lv_aload_n hx hb dX5_buy_0 rfl (lv_at hl 0 rfl) ?_
  refine lv_iload_n hx hb dX5_buy_1 rfl (lv_at hl 1 rfl) ?_
  refine lv_iload_n hx hb dX5_buy_2 rfl (lv_at hl 2 rfl) ?_
  refine mk_goR (st9 := st) (va_runV (As := [.int (iI 1), .int (iI d)]) (rest := []) ⟨hx, hb, hml, hown, hts⟩ (c_X5_ledgerAt_1 l cg D ad st d (by omega)) (cwV 2 hts gX5_buy_X5_ledgerAt rfl rfl rfl (by decide +kernel) ⟨Nat.le_of_ble_eq_true rfl, Nat.le_of_ble_eq_true rfl⟩) (mk_preV hK hN hW 0 (by decide) rfl rfl rfl) rfl rfl hl.1 rfl (lv_room (Nat.le_of_ble_eq_true rfl)) dX5_buy_3 ⟨Nat.zero_le _, Nat.zero_le _⟩) hW (fun H locs hW => ?_)
  refine lv_astore (lv' := [(5, .ref (ad 30)), (0, .ref (ad 0)), (1, .int (iI 1)), (2, .int (iI d)), (3, .int (iI ct)), (4, .int (iI mo))]) hx hb dX5_buy_6 hl (by decide) rfl (fun ls hl => ?_)
  refine lv_iload_n hx hb dX5_buy_8 rfl (lv_at hl 4 rfl) ?_
  refine lv_iload hx hb dX5_buy_9 (lv_at hl 5 rfl) ?_
  exact mx_go (vx_runS (As := [.int (iI ct), .int (iI mo)]) (rest := []) ⟨hx, hb, hml, hown, hts⟩ (c_X5_checkTrade_noC l cg D ad st hst ct mo hc hno) (cwS 2 hts gX5_buy_X5_checkTrade rfl rfl rfl (by decide +kernel) ⟨Nat.le_of_ble_eq_true rfl, Nat.le_of_ble_eq_true rfl⟩) (mx_preS hK hN hxK hxZ hW) rfl rfl hl.1 rfl (lv_room (Nat.le_of_ble_eq_true rfl)) dX5_buy_11 ⟨Nat.le_refl _, Nat.le_refl _⟩) hW (fun ce q9 H1 locs1 hW1 _ hce hcv hcl => mx_out htab hlocks hW1 hce hcv hcl)

set_option maxHeartbeats 4000000 in
set_option maxRecDepth 100000 in
theorem c_X5_buy_noM_1 (l : Launch) (cg : Nat → ClassId) (D : va_G) (ad : Nat → Nat) (st : Nat → Nat → Int) (hst : l.stackTraces = false) (d ct mo : Int) (hd : 0 ≤ d ∧ d < 1825) (hc : 1 ≤ ct ∧ ct ≤ 1000) (hm : -2147483648 ≤ mo ∧ mo < 2147483648) (hno : ¬ (0 ≤ mo ∧ mo ≤ 1000000)) : TX l yX5_buy wsX5_buy ({ frames := 8, cells := 1, slots := 6, locals := 150 }) D vwCl (TY cg) 73 (celX cg) ad st [.ref (ad 0), .int (iI 1), .int (iI d), .int (iI ct), .int (iI mo)] (xE2) := by
  refine mx_open (cc := cX5_buy) (maxL := 7) (ret := (some .int)) (by decide) rfl (Nat.le_of_ble_eq_true rfl) ?_
  intro p e s m args below meth c hx hb hml hr hown hts hlocks hK hN hargs ls hl hW hxK hxZ htab
  have hown : s.vm.findClass RX5 = some m.cls := hown
  have hl : lv_has ls 7 [(0, .ref (ad 0)), (1, .int (iI 1)), (2, .int (iI d)), (3, .int (iI ct)), (4, .int (iI mo))] := hl
  refine lv_aload_n hx hb dX5_buy_0 rfl (lv_at hl 0 rfl) ?_
  refine lv_iload_n hx hb dX5_buy_1 rfl (lv_at hl 1 rfl) ?_
  refine lv_iload_n hx hb dX5_buy_2 rfl (lv_at hl 2 rfl) ?_
  refine mk_goR (st9 := st) (va_runV (As := [.int (iI 1), .int (iI d)]) (rest := []) ⟨hx, hb, hml, hown, hts⟩ (c_X5_ledgerAt_1 l cg D ad st d (by omega)) (cwV 2 hts gX5_buy_X5_ledgerAt rfl rfl rfl (by decide +kernel) ⟨Nat.le_of_ble_eq_true rfl, Nat.le_of_ble_eq_true rfl⟩) (mk_preV hK hN hW 0 (by decide) rfl rfl rfl) rfl rfl hl.1 rfl (lv_room (Nat.le_of_ble_eq_true rfl)) dX5_buy_3 ⟨Nat.zero_le _, Nat.zero_le _⟩) hW (fun H locs hW => ?_)
  refine lv_astore (lv' := [(5, .ref (ad 30)), (0, .ref (ad 0)), (1, .int (iI 1)), (2, .int (iI d)), (3, .int (iI ct)), (4, .int (iI mo))]) hx hb dX5_buy_6 hl (by decide) rfl (fun ls hl => ?_)
  refine lv_iload_n hx hb dX5_buy_8 rfl (lv_at hl 4 rfl) ?_
  refine lv_iload hx hb dX5_buy_9 (lv_at hl 5 rfl) ?_
  exact mx_go (vx_runS (As := [.int (iI ct), .int (iI mo)]) (rest := []) ⟨hx, hb, hml, hown, hts⟩ (c_X5_checkTrade_noM l cg D ad st hst ct mo hc hm hno) (cwS 2 hts gX5_buy_X5_checkTrade rfl rfl rfl (by decide +kernel) ⟨Nat.le_of_ble_eq_true rfl, Nat.le_of_ble_eq_true rfl⟩) (mx_preS hK hN hxK hxZ hW) rfl rfl hl.1 rfl (lv_room (Nat.le_of_ble_eq_true rfl)) dX5_buy_11 ⟨Nat.le_refl _, Nat.le_refl _⟩) hW (fun ce q9 H1 locs1 hW1 _ hce hcv hcl => mx_out htab hlocks hW1 hce hcv hcl)

set_option maxHeartbeats 4000000 in
set_option maxRecDepth 100000 in
theorem c_X5_buy_noR_1 (l : Launch) (cg : Nat → ClassId) (D : va_G) (ad : Nat → Nat) (st : Nat → Nat → Int) (hst : l.stackTraces = false) (d ct mo : Int) (hd : 0 ≤ d ∧ d < 1825) (hc : 1 ≤ ct ∧ ct ≤ 1000) (hm : 0 ≤ mo ∧ mo ≤ 1000000) (hn : st 1 6 = (60 : Nat)) : TX l yX5_buy wsX5_buy ({ frames := 8, cells := 1, slots := 6, locals := 150 }) D vwCl (TY cg) 73 (celX cg) ad st [.ref (ad 0), .int (iI 1), .int (iI d), .int (iI ct), .int (iI mo)] (xE3) := by
  refine mx_open (cc := cX5_buy) (maxL := 7) (ret := (some .int)) (by decide) rfl (Nat.le_of_ble_eq_true rfl) ?_
  intro p e s m args below meth c hx hb hml hr hown hts hlocks hK hN hargs ls hl hW hxK hxZ htab
  have hown : s.vm.findClass RX5 = some m.cls := hown
  have hl : lv_has ls 7 [(0, .ref (ad 0)), (1, .int (iI 1)), (2, .int (iI d)), (3, .int (iI ct)), (4, .int (iI mo))] := hl
  refine lv_aload_n hx hb dX5_buy_0 rfl (lv_at hl 0 rfl) ?_
  refine lv_iload_n hx hb dX5_buy_1 rfl (lv_at hl 1 rfl) ?_
  refine lv_iload_n hx hb dX5_buy_2 rfl (lv_at hl 2 rfl) ?_
  refine mk_goR (st9 := st) (va_runV (As := [.int (iI 1), .int (iI d)]) (rest := []) ⟨hx, hb, hml, hown, hts⟩ (c_X5_ledgerAt_1 l cg D ad st d (by omega)) (cwV 2 hts gX5_buy_X5_ledgerAt rfl rfl rfl (by decide +kernel) ⟨Nat.le_of_ble_eq_true rfl, Nat.le_of_ble_eq_true rfl⟩) (mk_preV hK hN hW 0 (by decide) rfl rfl rfl) rfl rfl hl.1 rfl (lv_room (Nat.le_of_ble_eq_true rfl)) dX5_buy_3 ⟨Nat.zero_le _, Nat.zero_le _⟩) hW (fun H locs hW => ?_)
  refine lv_astore (lv' := [(5, .ref (ad 30)), (0, .ref (ad 0)), (1, .int (iI 1)), (2, .int (iI d)), (3, .int (iI ct)), (4, .int (iI mo))]) hx hb dX5_buy_6 hl (by decide) rfl (fun ls hl => ?_)
  refine lv_iload_n hx hb dX5_buy_8 rfl (lv_at hl 4 rfl) ?_
  refine lv_iload hx hb dX5_buy_9 (lv_at hl 5 rfl) ?_
  refine mk_goV (va_runS (As := [.int (iI ct), .int (iI mo)]) (rest := []) ⟨hx, hb, hml, hown, hts⟩ (c_X5_checkTrade l cg D ad st ct mo hc hm) (cwS 2 hts gX5_buy_X5_checkTrade rfl rfl rfl (by decide +kernel) ⟨Nat.le_of_ble_eq_true rfl, Nat.le_of_ble_eq_true rfl⟩) (mk_preS hK hN hW) rfl rfl hl.1 rfl (lv_room (Nat.le_of_ble_eq_true rfl)) dX5_buy_11 ⟨Nat.zero_le _, Nat.zero_le _⟩) hW (fun st1 hp11 H locs hW => ?_)
  rw [hp11] at hW
  refine lv_aload_n hx hb dX5_buy_14 rfl (lv_at hl 1 rfl) ?_
  exact mx_go (vx_runV (As := []) (rest := []) ⟨hx, hb, hml, hown, hts⟩ (c_X5_checkRoomForTrade_no l cg D ad st hst hn) (cwV 0 hts gX5_buy_X5_checkRoomForTrade rfl rfl rfl (by decide +kernel) ⟨Nat.le_of_ble_eq_true rfl, Nat.le_of_ble_eq_true rfl⟩) (mx_preV hK hN hxK hxZ hW 0 (by decide) rfl rfl rfl) rfl rfl hl.1 rfl (lv_room (Nat.le_of_ble_eq_true rfl)) dX5_buy_15 ⟨Nat.le_refl _, Nat.le_refl _⟩) hW (fun ce q9 H1 locs1 hW1 _ hce hcv hcl => mx_out htab hlocks hW1 hce hcv hcl)

set_option maxHeartbeats 4000000 in
set_option maxRecDepth 100000 in
theorem c_X5_buy_noC_2 (l : Launch) (cg : Nat → ClassId) (D : va_G) (ad : Nat → Nat) (st : Nat → Nat → Int) (hst : l.stackTraces = false) (d ct mo : Int) (hd : 0 ≤ d ∧ d < 1825) (hc : -2147483648 ≤ ct ∧ ct < 2147483648) (hno : ¬ (1 ≤ ct ∧ ct ≤ 1000)) : TX l yX5_buy wsX5_buy ({ frames := 8, cells := 1, slots := 6, locals := 150 }) D vwCl (TY cg) 73 (celX cg) ad st [.ref (ad 0), .int (iI 2), .int (iI d), .int (iI ct), .int (iI mo)] (xE2) := by
  refine mx_open (cc := cX5_buy) (maxL := 7) (ret := (some .int)) (by decide) rfl (Nat.le_of_ble_eq_true rfl) ?_
  intro p e s m args below meth c hx hb hml hr hown hts hlocks hK hN hargs ls hl hW hxK hxZ htab
  have hown : s.vm.findClass RX5 = some m.cls := hown
  have hl : lv_has ls 7 [(0, .ref (ad 0)), (1, .int (iI 2)), (2, .int (iI d)), (3, .int (iI ct)), (4, .int (iI mo))] := hl
  refine lv_aload_n hx hb dX5_buy_0 rfl (lv_at hl 0 rfl) ?_
  refine lv_iload_n hx hb dX5_buy_1 rfl (lv_at hl 1 rfl) ?_
  refine lv_iload_n hx hb dX5_buy_2 rfl (lv_at hl 2 rfl) ?_
  refine mk_goR (st9 := st) (va_runV (As := [.int (iI 2), .int (iI d)]) (rest := []) ⟨hx, hb, hml, hown, hts⟩ (c_X5_ledgerAt_2 l cg D ad st d (by omega)) (cwV 2 hts gX5_buy_X5_ledgerAt rfl rfl rfl (by decide +kernel) ⟨Nat.le_of_ble_eq_true rfl, Nat.le_of_ble_eq_true rfl⟩) (mk_preV hK hN hW 0 (by decide) rfl rfl rfl) rfl rfl hl.1 rfl (lv_room (Nat.le_of_ble_eq_true rfl)) dX5_buy_3 ⟨Nat.zero_le _, Nat.zero_le _⟩) hW (fun H locs hW => ?_)
  refine lv_astore (lv' := [(5, .ref (ad 51)), (0, .ref (ad 0)), (1, .int (iI 2)), (2, .int (iI d)), (3, .int (iI ct)), (4, .int (iI mo))]) hx hb dX5_buy_6 hl (by decide) rfl (fun ls hl => ?_)
  refine lv_iload_n hx hb dX5_buy_8 rfl (lv_at hl 4 rfl) ?_
  refine lv_iload hx hb dX5_buy_9 (lv_at hl 5 rfl) ?_
  exact mx_go (vx_runS (As := [.int (iI ct), .int (iI mo)]) (rest := []) ⟨hx, hb, hml, hown, hts⟩ (c_X5_checkTrade_noC l cg D ad st hst ct mo hc hno) (cwS 2 hts gX5_buy_X5_checkTrade rfl rfl rfl (by decide +kernel) ⟨Nat.le_of_ble_eq_true rfl, Nat.le_of_ble_eq_true rfl⟩) (mx_preS hK hN hxK hxZ hW) rfl rfl hl.1 rfl (lv_room (Nat.le_of_ble_eq_true rfl)) dX5_buy_11 ⟨Nat.le_refl _, Nat.le_refl _⟩) hW (fun ce q9 H1 locs1 hW1 _ hce hcv hcl => mx_out htab hlocks hW1 hce hcv hcl)

set_option maxHeartbeats 4000000 in
set_option maxRecDepth 100000 in
theorem c_X5_buy_noM_2 (l : Launch) (cg : Nat → ClassId) (D : va_G) (ad : Nat → Nat) (st : Nat → Nat → Int) (hst : l.stackTraces = false) (d ct mo : Int) (hd : 0 ≤ d ∧ d < 1825) (hc : 1 ≤ ct ∧ ct ≤ 1000) (hm : -2147483648 ≤ mo ∧ mo < 2147483648) (hno : ¬ (0 ≤ mo ∧ mo ≤ 1000000)) : TX l yX5_buy wsX5_buy ({ frames := 8, cells := 1, slots := 6, locals := 150 }) D vwCl (TY cg) 73 (celX cg) ad st [.ref (ad 0), .int (iI 2), .int (iI d), .int (iI ct), .int (iI mo)] (xE2) := by
  refine mx_open (cc := cX5_buy) (maxL := 7) (ret := (some .int)) (by decide) rfl (Nat.le_of_ble_eq_true rfl) ?_
  intro p e s m args below meth c hx hb hml hr hown hts hlocks hK hN hargs ls hl hW hxK hxZ htab
  have hown : s.vm.findClass RX5 = some m.cls := hown
  have hl : lv_has ls 7 [(0, .ref (ad 0)), (1, .int (iI 2)), (2, .int (iI d)), (3, .int (iI ct)), (4, .int (iI mo))] := hl
  refine lv_aload_n hx hb dX5_buy_0 rfl (lv_at hl 0 rfl) ?_
  refine lv_iload_n hx hb dX5_buy_1 rfl (lv_at hl 1 rfl) ?_
  refine lv_iload_n hx hb dX5_buy_2 rfl (lv_at hl 2 rfl) ?_
  refine mk_goR (st9 := st) (va_runV (As := [.int (iI 2), .int (iI d)]) (rest := []) ⟨hx, hb, hml, hown, hts⟩ (c_X5_ledgerAt_2 l cg D ad st d (by omega)) (cwV 2 hts gX5_buy_X5_ledgerAt rfl rfl rfl (by decide +kernel) ⟨Nat.le_of_ble_eq_true rfl, Nat.le_of_ble_eq_true rfl⟩) (mk_preV hK hN hW 0 (by decide) rfl rfl rfl) rfl rfl hl.1 rfl (lv_room (Nat.le_of_ble_eq_true rfl)) dX5_buy_3 ⟨Nat.zero_le _, Nat.zero_le _⟩) hW (fun H locs hW => ?_)
  refine lv_astore (lv' := [(5, .ref (ad 51)), (0, .ref (ad 0)), (1, .int (iI 2)), (2, .int (iI d)), (3, .int (iI ct)), (4, .int (iI mo))]) hx hb dX5_buy_6 hl (by decide) rfl (fun ls hl => ?_)
  refine lv_iload_n hx hb dX5_buy_8 rfl (lv_at hl 4 rfl) ?_
  refine lv_iload hx hb dX5_buy_9 (lv_at hl 5 rfl) ?_
  exact mx_go (vx_runS (As := [.int (iI ct), .int (iI mo)]) (rest := []) ⟨hx, hb, hml, hown, hts⟩ (c_X5_checkTrade_noM l cg D ad st hst ct mo hc hm hno) (cwS 2 hts gX5_buy_X5_checkTrade rfl rfl rfl (by decide +kernel) ⟨Nat.le_of_ble_eq_true rfl, Nat.le_of_ble_eq_true rfl⟩) (mx_preS hK hN hxK hxZ hW) rfl rfl hl.1 rfl (lv_room (Nat.le_of_ble_eq_true rfl)) dX5_buy_11 ⟨Nat.le_refl _, Nat.le_refl _⟩) hW (fun ce q9 H1 locs1 hW1 _ hce hcv hcl => mx_out htab hlocks hW1 hce hcv hcl)

set_option maxHeartbeats 4000000 in
set_option maxRecDepth 100000 in
theorem c_X5_buy_noR_2 (l : Launch) (cg : Nat → ClassId) (D : va_G) (ad : Nat → Nat) (st : Nat → Nat → Int) (hst : l.stackTraces = false) (d ct mo : Int) (hd : 0 ≤ d ∧ d < 1825) (hc : 1 ≤ ct ∧ ct ≤ 1000) (hm : 0 ≤ mo ∧ mo ≤ 1000000) (hn : st 1 6 = (60 : Nat)) : TX l yX5_buy wsX5_buy ({ frames := 8, cells := 1, slots := 6, locals := 150 }) D vwCl (TY cg) 73 (celX cg) ad st [.ref (ad 0), .int (iI 2), .int (iI d), .int (iI ct), .int (iI mo)] (xE3) := by
  refine mx_open (cc := cX5_buy) (maxL := 7) (ret := (some .int)) (by decide) rfl (Nat.le_of_ble_eq_true rfl) ?_
  intro p e s m args below meth c hx hb hml hr hown hts hlocks hK hN hargs ls hl hW hxK hxZ htab
  have hown : s.vm.findClass RX5 = some m.cls := hown
  have hl : lv_has ls 7 [(0, .ref (ad 0)), (1, .int (iI 2)), (2, .int (iI d)), (3, .int (iI ct)), (4, .int (iI mo))] := hl
  refine lv_aload_n hx hb dX5_buy_0 rfl (lv_at hl 0 rfl) ?_
  refine lv_iload_n hx hb dX5_buy_1 rfl (lv_at hl 1 rfl) ?_
  refine lv_iload_n hx hb dX5_buy_2 rfl (lv_at hl 2 rfl) ?_
  refine mk_goR (st9 := st) (va_runV (As := [.int (iI 2), .int (iI d)]) (rest := []) ⟨hx, hb, hml, hown, hts⟩ (c_X5_ledgerAt_2 l cg D ad st d (by omega)) (cwV 2 hts gX5_buy_X5_ledgerAt rfl rfl rfl (by decide +kernel) ⟨Nat.le_of_ble_eq_true rfl, Nat.le_of_ble_eq_true rfl⟩) (mk_preV hK hN hW 0 (by decide) rfl rfl rfl) rfl rfl hl.1 rfl (lv_room (Nat.le_of_ble_eq_true rfl)) dX5_buy_3 ⟨Nat.zero_le _, Nat.zero_le _⟩) hW (fun H locs hW => ?_)
  refine lv_astore (lv' := [(5, .ref (ad 51)), (0, .ref (ad 0)), (1, .int (iI 2)), (2, .int (iI d)), (3, .int (iI ct)), (4, .int (iI mo))]) hx hb dX5_buy_6 hl (by decide) rfl (fun ls hl => ?_)
  refine lv_iload_n hx hb dX5_buy_8 rfl (lv_at hl 4 rfl) ?_
  refine lv_iload hx hb dX5_buy_9 (lv_at hl 5 rfl) ?_
  refine mk_goV (va_runS (As := [.int (iI ct), .int (iI mo)]) (rest := []) ⟨hx, hb, hml, hown, hts⟩ (c_X5_checkTrade l cg D ad st ct mo hc hm) (cwS 2 hts gX5_buy_X5_checkTrade rfl rfl rfl (by decide +kernel) ⟨Nat.le_of_ble_eq_true rfl, Nat.le_of_ble_eq_true rfl⟩) (mk_preS hK hN hW) rfl rfl hl.1 rfl (lv_room (Nat.le_of_ble_eq_true rfl)) dX5_buy_11 ⟨Nat.zero_le _, Nat.zero_le _⟩) hW (fun st1 hp11 H locs hW => ?_)
  rw [hp11] at hW
  refine lv_aload_n hx hb dX5_buy_14 rfl (lv_at hl 1 rfl) ?_
  exact mx_go (vx_runV (As := []) (rest := []) ⟨hx, hb, hml, hown, hts⟩ (c_X5_checkRoomForTrade_no l cg D ad st hst hn) (cwV 0 hts gX5_buy_X5_checkRoomForTrade rfl rfl rfl (by decide +kernel) ⟨Nat.le_of_ble_eq_true rfl, Nat.le_of_ble_eq_true rfl⟩) (mx_preV hK hN hxK hxZ hW 0 (by decide) rfl rfl rfl) rfl rfl hl.1 rfl (lv_room (Nat.le_of_ble_eq_true rfl)) dX5_buy_15 ⟨Nat.le_refl _, Nat.le_refl _⟩) hW (fun ce q9 H1 locs1 hW1 _ hce hcv hcl => mx_out htab hlocks hW1 hce hcv hcl)

set_option maxHeartbeats 4000000 in
set_option maxRecDepth 100000 in
theorem c_X5_sell_noA (l : Launch) (cg : Nat → ClassId) (D : va_G) (ad : Nat → Nat) (st : Nat → Nat → Int) (hst : l.stackTraces = false) (a d ct mo : Int) (ha : -2147483648 ≤ a ∧ a < 2147483648) (hno : ¬ (0 ≤ a ∧ a < 3)) : TX l yX5_sell wsX5_sell ({ frames := 8, cells := 1, slots := 6, locals := 150 }) D vwCl (TY cg) 73 (celX cg) ad st [.ref (ad 0), .int (iI a), .int (iI d), .int (iI ct), .int (iI mo)] (xE1) := by
  refine mx_open (cc := cX5_sell) (maxL := 7) (ret := (some .int)) (by decide) rfl (Nat.le_of_ble_eq_true rfl) ?_
  intro p e s m args below meth c hx hb hml hr hown hts hlocks hK hN hargs ls hl hW hxK hxZ htab
  have hown : s.vm.findClass RX5 = some m.cls := hown
  have hl : lv_has ls 7 [(0, .ref (ad 0)), (1, .int (iI a)), (2, .int (iI d)), (3, .int (iI ct)), (4, .int (iI mo))] := hl
  refine lv_aload_n hx hb dX5_sell_0 rfl (lv_at hl 0 rfl) ?_
  refine lv_iload_n hx hb dX5_sell_1 rfl (lv_at hl 1 rfl) ?_
  refine lv_iload_n hx hb dX5_sell_2 rfl (lv_at hl 2 rfl) ?_
  exact mx_go (vx_runV (As := [.int (iI a), .int (iI d)]) (rest := []) ⟨hx, hb, hml, hown, hts⟩ (c_X5_ledgerAt_noA l cg D ad st hst a d ha hno) (cwV 2 hts gX5_sell_X5_ledgerAt rfl rfl rfl (by decide +kernel) ⟨Nat.le_of_ble_eq_true rfl, Nat.le_of_ble_eq_true rfl⟩) (mx_preV hK hN hxK hxZ hW 0 (by decide) rfl rfl rfl) rfl rfl hl.1 rfl (lv_room (Nat.le_of_ble_eq_true rfl)) dX5_sell_3 ⟨Nat.le_refl _, Nat.le_refl _⟩) hW (fun ce q9 H1 locs1 hW1 _ hce hcv hcl => mx_out htab hlocks hW1 hce hcv hcl)

set_option maxHeartbeats 4000000 in
set_option maxRecDepth 100000 in
theorem c_X5_sell_noD_0 (l : Launch) (cg : Nat → ClassId) (D : va_G) (ad : Nat → Nat) (st : Nat → Nat → Int) (hst : l.stackTraces = false) (d ct mo : Int) (hd : -2147483648 ≤ d ∧ d < 2147483648) (hno : ¬ (0 ≤ d ∧ d < 1825)) : TX l yX5_sell wsX5_sell ({ frames := 8, cells := 1, slots := 6, locals := 150 }) D vwCl (TY cg) 73 (celX cg) ad st [.ref (ad 0), .int (iI 0), .int (iI d), .int (iI ct), .int (iI mo)] (xE1) := by
  refine mx_open (cc := cX5_sell) (maxL := 7) (ret := (some .int)) (by decide) rfl (Nat.le_of_ble_eq_true rfl) ?_
  intro p e s m args below meth c hx hb hml hr hown hts hlocks hK hN hargs ls hl hW hxK hxZ htab
  have hown : s.vm.findClass RX5 = some m.cls := hown
  have hl : lv_has ls 7 [(0, .ref (ad 0)), (1, .int (iI 0)), (2, .int (iI d)), (3, .int (iI ct)), (4, .int (iI mo))] := hl
  refine lv_aload_n hx hb dX5_sell_0 rfl (lv_at hl 0 rfl) ?_
  refine lv_iload_n hx hb dX5_sell_1 rfl (lv_at hl 1 rfl) ?_
  refine lv_iload_n hx hb dX5_sell_2 rfl (lv_at hl 2 rfl) ?_
  exact mx_go (vx_runV (As := [.int (iI 0), .int (iI d)]) (rest := []) ⟨hx, hb, hml, hown, hts⟩ (c_X5_ledgerAt_noD_0 l cg D ad st hst d hd hno) (cwV 2 hts gX5_sell_X5_ledgerAt rfl rfl rfl (by decide +kernel) ⟨Nat.le_of_ble_eq_true rfl, Nat.le_of_ble_eq_true rfl⟩) (mx_preV hK hN hxK hxZ hW 0 (by decide) rfl rfl rfl) rfl rfl hl.1 rfl (lv_room (Nat.le_of_ble_eq_true rfl)) dX5_sell_3 ⟨Nat.le_refl _, Nat.le_refl _⟩) hW (fun ce q9 H1 locs1 hW1 _ hce hcv hcl => mx_out htab hlocks hW1 hce hcv hcl)

set_option maxHeartbeats 4000000 in
set_option maxRecDepth 100000 in
theorem c_X5_sell_noD_1 (l : Launch) (cg : Nat → ClassId) (D : va_G) (ad : Nat → Nat) (st : Nat → Nat → Int) (hst : l.stackTraces = false) (d ct mo : Int) (hd : -2147483648 ≤ d ∧ d < 2147483648) (hno : ¬ (0 ≤ d ∧ d < 1825)) : TX l yX5_sell wsX5_sell ({ frames := 8, cells := 1, slots := 6, locals := 150 }) D vwCl (TY cg) 73 (celX cg) ad st [.ref (ad 0), .int (iI 1), .int (iI d), .int (iI ct), .int (iI mo)] (xE1) := by
  refine mx_open (cc := cX5_sell) (maxL := 7) (ret := (some .int)) (by decide) rfl (Nat.le_of_ble_eq_true rfl) ?_
  intro p e s m args below meth c hx hb hml hr hown hts hlocks hK hN hargs ls hl hW hxK hxZ htab
  have hown : s.vm.findClass RX5 = some m.cls := hown
  have hl : lv_has ls 7 [(0, .ref (ad 0)), (1, .int (iI 1)), (2, .int (iI d)), (3, .int (iI ct)), (4, .int (iI mo))] := hl
  refine lv_aload_n hx hb dX5_sell_0 rfl (lv_at hl 0 rfl) ?_
  refine lv_iload_n hx hb dX5_sell_1 rfl (lv_at hl 1 rfl) ?_
  refine lv_iload_n hx hb dX5_sell_2 rfl (lv_at hl 2 rfl) ?_
  exact mx_go (vx_runV (As := [.int (iI 1), .int (iI d)]) (rest := []) ⟨hx, hb, hml, hown, hts⟩ (c_X5_ledgerAt_noD_1 l cg D ad st hst d hd hno) (cwV 2 hts gX5_sell_X5_ledgerAt rfl rfl rfl (by decide +kernel) ⟨Nat.le_of_ble_eq_true rfl, Nat.le_of_ble_eq_true rfl⟩) (mx_preV hK hN hxK hxZ hW 0 (by decide) rfl rfl rfl) rfl rfl hl.1 rfl (lv_room (Nat.le_of_ble_eq_true rfl)) dX5_sell_3 ⟨Nat.le_refl _, Nat.le_refl _⟩) hW (fun ce q9 H1 locs1 hW1 _ hce hcv hcl => mx_out htab hlocks hW1 hce hcv hcl)

set_option maxHeartbeats 4000000 in
set_option maxRecDepth 100000 in
theorem c_X5_sell_noD_2 (l : Launch) (cg : Nat → ClassId) (D : va_G) (ad : Nat → Nat) (st : Nat → Nat → Int) (hst : l.stackTraces = false) (d ct mo : Int) (hd : -2147483648 ≤ d ∧ d < 2147483648) (hno : ¬ (0 ≤ d ∧ d < 1825)) : TX l yX5_sell wsX5_sell ({ frames := 8, cells := 1, slots := 6, locals := 150 }) D vwCl (TY cg) 73 (celX cg) ad st [.ref (ad 0), .int (iI 2), .int (iI d), .int (iI ct), .int (iI mo)] (xE1) := by
  refine mx_open (cc := cX5_sell) (maxL := 7) (ret := (some .int)) (by decide) rfl (Nat.le_of_ble_eq_true rfl) ?_
  intro p e s m args below meth c hx hb hml hr hown hts hlocks hK hN hargs ls hl hW hxK hxZ htab
  have hown : s.vm.findClass RX5 = some m.cls := hown
  have hl : lv_has ls 7 [(0, .ref (ad 0)), (1, .int (iI 2)), (2, .int (iI d)), (3, .int (iI ct)), (4, .int (iI mo))] := hl
  refine lv_aload_n hx hb dX5_sell_0 rfl (lv_at hl 0 rfl) ?_
  refine lv_iload_n hx hb dX5_sell_1 rfl (lv_at hl 1 rfl) ?_
  refine lv_iload_n hx hb dX5_sell_2 rfl (lv_at hl 2 rfl) ?_
  exact mx_go (vx_runV (As := [.int (iI 2), .int (iI d)]) (rest := []) ⟨hx, hb, hml, hown, hts⟩ (c_X5_ledgerAt_noD_2 l cg D ad st hst d hd hno) (cwV 2 hts gX5_sell_X5_ledgerAt rfl rfl rfl (by decide +kernel) ⟨Nat.le_of_ble_eq_true rfl, Nat.le_of_ble_eq_true rfl⟩) (mx_preV hK hN hxK hxZ hW 0 (by decide) rfl rfl rfl) rfl rfl hl.1 rfl (lv_room (Nat.le_of_ble_eq_true rfl)) dX5_sell_3 ⟨Nat.le_refl _, Nat.le_refl _⟩) hW (fun ce q9 H1 locs1 hW1 _ hce hcv hcl => mx_out htab hlocks hW1 hce hcv hcl)

set_option maxHeartbeats 4000000 in
set_option maxRecDepth 100000 in
theorem c_X5_sell_noC_0 (l : Launch) (cg : Nat → ClassId) (D : va_G) (ad : Nat → Nat) (st : Nat → Nat → Int) (hst : l.stackTraces = false) (d ct mo : Int) (hd : 0 ≤ d ∧ d < 1825) (hc : -2147483648 ≤ ct ∧ ct < 2147483648) (hno : ¬ (1 ≤ ct ∧ ct ≤ 1000)) : TX l yX5_sell wsX5_sell ({ frames := 8, cells := 1, slots := 6, locals := 150 }) D vwCl (TY cg) 73 (celX cg) ad st [.ref (ad 0), .int (iI 0), .int (iI d), .int (iI ct), .int (iI mo)] (xE2) := by
  refine mx_open (cc := cX5_sell) (maxL := 7) (ret := (some .int)) (by decide) rfl (Nat.le_of_ble_eq_true rfl) ?_
  intro p e s m args below meth c hx hb hml hr hown hts hlocks hK hN hargs ls hl hW hxK hxZ htab
  have hown : s.vm.findClass RX5 = some m.cls := hown
  have hl : lv_has ls 7 [(0, .ref (ad 0)), (1, .int (iI 0)), (2, .int (iI d)), (3, .int (iI ct)), (4, .int (iI mo))] := hl
  refine lv_aload_n hx hb dX5_sell_0 rfl (lv_at hl 0 rfl) ?_
  refine lv_iload_n hx hb dX5_sell_1 rfl (lv_at hl 1 rfl) ?_
  refine lv_iload_n hx hb dX5_sell_2 rfl (lv_at hl 2 rfl) ?_
  refine mk_goR (st9 := st) (va_runV (As := [.int (iI 0), .int (iI d)]) (rest := []) ⟨hx, hb, hml, hown, hts⟩ (c_X5_ledgerAt_0 l cg D ad st d (by omega)) (cwV 2 hts gX5_sell_X5_ledgerAt rfl rfl rfl (by decide +kernel) ⟨Nat.le_of_ble_eq_true rfl, Nat.le_of_ble_eq_true rfl⟩) (mk_preV hK hN hW 0 (by decide) rfl rfl rfl) rfl rfl hl.1 rfl (lv_room (Nat.le_of_ble_eq_true rfl)) dX5_sell_3 ⟨Nat.zero_le _, Nat.zero_le _⟩) hW (fun H locs hW => ?_)
  refine lv_astore (lv' := [(5, .ref (ad 9)), (0, .ref (ad 0)), (1, .int (iI 0)), (2, .int (iI d)), (3, .int (iI ct)), (4, .int (iI mo))]) hx hb dX5_sell_6 hl (by decide) rfl (fun ls hl => ?_)
  refine lv_iload_n hx hb dX5_sell_8 rfl (lv_at hl 4 rfl) ?_
  refine lv_iload hx hb dX5_sell_9 (lv_at hl 5 rfl) ?_
  exact mx_go (vx_runS (As := [.int (iI ct), .int (iI mo)]) (rest := []) ⟨hx, hb, hml, hown, hts⟩ (c_X5_checkTrade_noC l cg D ad st hst ct mo hc hno) (cwS 2 hts gX5_sell_X5_checkTrade rfl rfl rfl (by decide +kernel) ⟨Nat.le_of_ble_eq_true rfl, Nat.le_of_ble_eq_true rfl⟩) (mx_preS hK hN hxK hxZ hW) rfl rfl hl.1 rfl (lv_room (Nat.le_of_ble_eq_true rfl)) dX5_sell_11 ⟨Nat.le_refl _, Nat.le_refl _⟩) hW (fun ce q9 H1 locs1 hW1 _ hce hcv hcl => mx_out htab hlocks hW1 hce hcv hcl)

set_option maxHeartbeats 4000000 in
set_option maxRecDepth 100000 in
theorem c_X5_sell_noM_0 (l : Launch) (cg : Nat → ClassId) (D : va_G) (ad : Nat → Nat) (st : Nat → Nat → Int) (hst : l.stackTraces = false) (d ct mo : Int) (hd : 0 ≤ d ∧ d < 1825) (hc : 1 ≤ ct ∧ ct ≤ 1000) (hm : -2147483648 ≤ mo ∧ mo < 2147483648) (hno : ¬ (0 ≤ mo ∧ mo ≤ 1000000)) : TX l yX5_sell wsX5_sell ({ frames := 8, cells := 1, slots := 6, locals := 150 }) D vwCl (TY cg) 73 (celX cg) ad st [.ref (ad 0), .int (iI 0), .int (iI d), .int (iI ct), .int (iI mo)] (xE2) := by
  refine mx_open (cc := cX5_sell) (maxL := 7) (ret := (some .int)) (by decide) rfl (Nat.le_of_ble_eq_true rfl) ?_
  intro p e s m args below meth c hx hb hml hr hown hts hlocks hK hN hargs ls hl hW hxK hxZ htab
  have hown : s.vm.findClass RX5 = some m.cls := hown
  have hl : lv_has ls 7 [(0, .ref (ad 0)), (1, .int (iI 0)), (2, .int (iI d)), (3, .int (iI ct)), (4, .int (iI mo))] := hl
  refine lv_aload_n hx hb dX5_sell_0 rfl (lv_at hl 0 rfl) ?_
  refine lv_iload_n hx hb dX5_sell_1 rfl (lv_at hl 1 rfl) ?_
  refine lv_iload_n hx hb dX5_sell_2 rfl (lv_at hl 2 rfl) ?_
  refine mk_goR (st9 := st) (va_runV (As := [.int (iI 0), .int (iI d)]) (rest := []) ⟨hx, hb, hml, hown, hts⟩ (c_X5_ledgerAt_0 l cg D ad st d (by omega)) (cwV 2 hts gX5_sell_X5_ledgerAt rfl rfl rfl (by decide +kernel) ⟨Nat.le_of_ble_eq_true rfl, Nat.le_of_ble_eq_true rfl⟩) (mk_preV hK hN hW 0 (by decide) rfl rfl rfl) rfl rfl hl.1 rfl (lv_room (Nat.le_of_ble_eq_true rfl)) dX5_sell_3 ⟨Nat.zero_le _, Nat.zero_le _⟩) hW (fun H locs hW => ?_)
  refine lv_astore (lv' := [(5, .ref (ad 9)), (0, .ref (ad 0)), (1, .int (iI 0)), (2, .int (iI d)), (3, .int (iI ct)), (4, .int (iI mo))]) hx hb dX5_sell_6 hl (by decide) rfl (fun ls hl => ?_)
  refine lv_iload_n hx hb dX5_sell_8 rfl (lv_at hl 4 rfl) ?_
  refine lv_iload hx hb dX5_sell_9 (lv_at hl 5 rfl) ?_
  exact mx_go (vx_runS (As := [.int (iI ct), .int (iI mo)]) (rest := []) ⟨hx, hb, hml, hown, hts⟩ (c_X5_checkTrade_noM l cg D ad st hst ct mo hc hm hno) (cwS 2 hts gX5_sell_X5_checkTrade rfl rfl rfl (by decide +kernel) ⟨Nat.le_of_ble_eq_true rfl, Nat.le_of_ble_eq_true rfl⟩) (mx_preS hK hN hxK hxZ hW) rfl rfl hl.1 rfl (lv_room (Nat.le_of_ble_eq_true rfl)) dX5_sell_11 ⟨Nat.le_refl _, Nat.le_refl _⟩) hW (fun ce q9 H1 locs1 hW1 _ hce hcv hcl => mx_out htab hlocks hW1 hce hcv hcl)

set_option maxHeartbeats 4000000 in
set_option maxRecDepth 100000 in
theorem c_X5_sell_noR_0 (l : Launch) (cg : Nat → ClassId) (D : va_G) (ad : Nat → Nat) (st : Nat → Nat → Int) (hst : l.stackTraces = false) (d ct mo : Int) (hd : 0 ≤ d ∧ d < 1825) (hc : 1 ≤ ct ∧ ct ≤ 1000) (hm : 0 ≤ mo ∧ mo ≤ 1000000) (hn : st 1 6 = (60 : Nat)) : TX l yX5_sell wsX5_sell ({ frames := 8, cells := 1, slots := 6, locals := 150 }) D vwCl (TY cg) 73 (celX cg) ad st [.ref (ad 0), .int (iI 0), .int (iI d), .int (iI ct), .int (iI mo)] (xE3) := by
  refine mx_open (cc := cX5_sell) (maxL := 7) (ret := (some .int)) (by decide) rfl (Nat.le_of_ble_eq_true rfl) ?_
  intro p e s m args below meth c hx hb hml hr hown hts hlocks hK hN hargs ls hl hW hxK hxZ htab
  have hown : s.vm.findClass RX5 = some m.cls := hown
  have hl : lv_has ls 7 [(0, .ref (ad 0)), (1, .int (iI 0)), (2, .int (iI d)), (3, .int (iI ct)), (4, .int (iI mo))] := hl
  refine lv_aload_n hx hb dX5_sell_0 rfl (lv_at hl 0 rfl) ?_
  refine lv_iload_n hx hb dX5_sell_1 rfl (lv_at hl 1 rfl) ?_
  refine lv_iload_n hx hb dX5_sell_2 rfl (lv_at hl 2 rfl) ?_
  refine mk_goR (st9 := st) (va_runV (As := [.int (iI 0), .int (iI d)]) (rest := []) ⟨hx, hb, hml, hown, hts⟩ (c_X5_ledgerAt_0 l cg D ad st d (by omega)) (cwV 2 hts gX5_sell_X5_ledgerAt rfl rfl rfl (by decide +kernel) ⟨Nat.le_of_ble_eq_true rfl, Nat.le_of_ble_eq_true rfl⟩) (mk_preV hK hN hW 0 (by decide) rfl rfl rfl) rfl rfl hl.1 rfl (lv_room (Nat.le_of_ble_eq_true rfl)) dX5_sell_3 ⟨Nat.zero_le _, Nat.zero_le _⟩) hW (fun H locs hW => ?_)
  refine lv_astore (lv' := [(5, .ref (ad 9)), (0, .ref (ad 0)), (1, .int (iI 0)), (2, .int (iI d)), (3, .int (iI ct)), (4, .int (iI mo))]) hx hb dX5_sell_6 hl (by decide) rfl (fun ls hl => ?_)
  refine lv_iload_n hx hb dX5_sell_8 rfl (lv_at hl 4 rfl) ?_
  refine lv_iload hx hb dX5_sell_9 (lv_at hl 5 rfl) ?_
  refine mk_goV (va_runS (As := [.int (iI ct), .int (iI mo)]) (rest := []) ⟨hx, hb, hml, hown, hts⟩ (c_X5_checkTrade l cg D ad st ct mo hc hm) (cwS 2 hts gX5_sell_X5_checkTrade rfl rfl rfl (by decide +kernel) ⟨Nat.le_of_ble_eq_true rfl, Nat.le_of_ble_eq_true rfl⟩) (mk_preS hK hN hW) rfl rfl hl.1 rfl (lv_room (Nat.le_of_ble_eq_true rfl)) dX5_sell_11 ⟨Nat.zero_le _, Nat.zero_le _⟩) hW (fun st1 hp11 H locs hW => ?_)
  rw [hp11] at hW
  refine lv_aload_n hx hb dX5_sell_14 rfl (lv_at hl 1 rfl) ?_
  exact mx_go (vx_runV (As := []) (rest := []) ⟨hx, hb, hml, hown, hts⟩ (c_X5_checkRoomForTrade_no l cg D ad st hst hn) (cwV 0 hts gX5_sell_X5_checkRoomForTrade rfl rfl rfl (by decide +kernel) ⟨Nat.le_of_ble_eq_true rfl, Nat.le_of_ble_eq_true rfl⟩) (mx_preV hK hN hxK hxZ hW 0 (by decide) rfl rfl rfl) rfl rfl hl.1 rfl (lv_room (Nat.le_of_ble_eq_true rfl)) dX5_sell_15 ⟨Nat.le_refl _, Nat.le_refl _⟩) hW (fun ce q9 H1 locs1 hW1 _ hce hcv hcl => mx_out htab hlocks hW1 hce hcv hcl)

set_option maxHeartbeats 4000000 in
set_option maxRecDepth 100000 in
theorem c_X5_sell_noS_0 (l : Launch) (cg : Nat → ClassId) (D : va_G) (ad : Nat → Nat) (st : Nat → Nat → Int) (hst : l.stackTraces = false) (b : Nat → Nat → Int) (hX : XI st b) (d ct mo : Int) (hd : 0 ≤ d ∧ d < 1825) (hc : 1 ≤ ct ∧ ct ≤ 1000) (hm : 0 ≤ mo ∧ mo ≤ 1000000) (hn60 : bN b < 60) (hsp : ∃ e, d ≤ e ∧ bH b 0 e < ct * fla (bSD b 0) (bSF b 0) (bM b 0) d) : TX l yX5_sell wsX5_sell ({ frames := 8, cells := 1, slots := 6, locals := 150 }) D vwCl (TY cg) 73 (celX cg) ad st [.ref (ad 0), .int (iI 0), .int (iI d), .int (iI ct), .int (iI mo)] (xE3) := by
  refine mx_open (cc := cX5_sell) (maxL := 7) (ret := (some .int)) (by decide) rfl (Nat.le_of_ble_eq_true rfl) ?_
  intro p e s m args below meth c hx hb hml hr hown hts hlocks hK hN hargs ls hl hW hxK hxZ htab
  have hown : s.vm.findClass RX5 = some m.cls := hown
  have hl : lv_has ls 7 [(0, .ref (ad 0)), (1, .int (iI 0)), (2, .int (iI d)), (3, .int (iI ct)), (4, .int (iI mo))] := hl
  refine lv_aload_n hx hb dX5_sell_0 rfl (lv_at hl 0 rfl) ?_
  refine lv_iload_n hx hb dX5_sell_1 rfl (lv_at hl 1 rfl) ?_
  refine lv_iload_n hx hb dX5_sell_2 rfl (lv_at hl 2 rfl) ?_
  refine mk_goR (st9 := st) (va_runV (As := [.int (iI 0), .int (iI d)]) (rest := []) ⟨hx, hb, hml, hown, hts⟩ (c_X5_ledgerAt_0 l cg D ad st d (by omega)) (cwV 2 hts gX5_sell_X5_ledgerAt rfl rfl rfl (by decide +kernel) ⟨Nat.le_of_ble_eq_true rfl, Nat.le_of_ble_eq_true rfl⟩) (mk_preV hK hN hW 0 (by decide) rfl rfl rfl) rfl rfl hl.1 rfl (lv_room (Nat.le_of_ble_eq_true rfl)) dX5_sell_3 ⟨Nat.zero_le _, Nat.zero_le _⟩) hW (fun H locs hW => ?_)
  refine lv_astore (lv' := [(5, .ref (ad 9)), (0, .ref (ad 0)), (1, .int (iI 0)), (2, .int (iI d)), (3, .int (iI ct)), (4, .int (iI mo))]) hx hb dX5_sell_6 hl (by decide) rfl (fun ls hl => ?_)
  refine lv_iload_n hx hb dX5_sell_8 rfl (lv_at hl 4 rfl) ?_
  refine lv_iload hx hb dX5_sell_9 (lv_at hl 5 rfl) ?_
  refine mk_goV (va_runS (As := [.int (iI ct), .int (iI mo)]) (rest := []) ⟨hx, hb, hml, hown, hts⟩ (c_X5_checkTrade l cg D ad st ct mo hc hm) (cwS 2 hts gX5_sell_X5_checkTrade rfl rfl rfl (by decide +kernel) ⟨Nat.le_of_ble_eq_true rfl, Nat.le_of_ble_eq_true rfl⟩) (mk_preS hK hN hW) rfl rfl hl.1 rfl (lv_room (Nat.le_of_ble_eq_true rfl)) dX5_sell_11 ⟨Nat.zero_le _, Nat.zero_le _⟩) hW (fun st1 hp11 H locs hW => ?_)
  rw [hp11] at hW
  refine lv_aload_n hx hb dX5_sell_14 rfl (lv_at hl 1 rfl) ?_
  refine mk_goV (va_runV (As := []) (rest := []) ⟨hx, hb, hml, hown, hts⟩ (c_X5_checkRoomForTrade l cg D ad st (bN b) (hX.2.1.n hX.1.j) hn60) (cwV 0 hts gX5_sell_X5_checkRoomForTrade rfl rfl rfl (by decide +kernel) ⟨Nat.le_of_ble_eq_true rfl, Nat.le_of_ble_eq_true rfl⟩) (mk_preV hK hN hW 0 (by decide) rfl rfl rfl) rfl rfl hl.1 rfl (lv_room (Nat.le_of_ble_eq_true rfl)) dX5_sell_15 ⟨Nat.zero_le _, Nat.zero_le _⟩) hW (fun st3 hp15 H locs hW => ?_)
  rw [hp15] at hW
  refine lv_aload hx hb dX5_sell_18 (lv_at hl 0 rfl) ?_
  refine lv_iload_n hx hb dX5_sell_20 rfl (lv_at hl 3 rfl) ?_
  refine lv_iload_n hx hb dX5_sell_21 rfl (lv_at hl 4 rfl) ?_
  exact mx_go (vx_runS (As := [.ref (ad 9), .int (iI d), .int (iI ct)]) (rest := []) ⟨hx, hb, hml, hown, hts⟩ (c_X5_checkCanSpare_no_0 l cg D ad st hst b hX d ct hd hc hsp) (cwS 3 hts gX5_sell_X5_checkCanSpare rfl rfl rfl (by decide +kernel) ⟨Nat.le_of_ble_eq_true rfl, Nat.le_of_ble_eq_true rfl⟩) (mx_preS hK hN hxK hxZ hW) rfl rfl hl.1 rfl (lv_room (Nat.le_of_ble_eq_true rfl)) dX5_sell_22 ⟨Nat.le_refl _, Nat.le_refl _⟩) hW (fun ce q9 H1 locs1 hW1 _ hce hcv hcl => mx_out htab hlocks hW1 hce hcv hcl)

set_option maxHeartbeats 4000000 in
set_option maxRecDepth 100000 in
theorem c_X5_sell_noC_1 (l : Launch) (cg : Nat → ClassId) (D : va_G) (ad : Nat → Nat) (st : Nat → Nat → Int) (hst : l.stackTraces = false) (d ct mo : Int) (hd : 0 ≤ d ∧ d < 1825) (hc : -2147483648 ≤ ct ∧ ct < 2147483648) (hno : ¬ (1 ≤ ct ∧ ct ≤ 1000)) : TX l yX5_sell wsX5_sell ({ frames := 8, cells := 1, slots := 6, locals := 150 }) D vwCl (TY cg) 73 (celX cg) ad st [.ref (ad 0), .int (iI 1), .int (iI d), .int (iI ct), .int (iI mo)] (xE2) := by
  refine mx_open (cc := cX5_sell) (maxL := 7) (ret := (some .int)) (by decide) rfl (Nat.le_of_ble_eq_true rfl) ?_
  intro p e s m args below meth c hx hb hml hr hown hts hlocks hK hN hargs ls hl hW hxK hxZ htab
  have hown : s.vm.findClass RX5 = some m.cls := hown
  have hl : lv_has ls 7 [(0, .ref (ad 0)), (1, .int (iI 1)), (2, .int (iI d)), (3, .int (iI ct)), (4, .int (iI mo))] := hl
  refine lv_aload_n hx hb dX5_sell_0 rfl (lv_at hl 0 rfl) ?_
  refine lv_iload_n hx hb dX5_sell_1 rfl (lv_at hl 1 rfl) ?_
  refine lv_iload_n hx hb dX5_sell_2 rfl (lv_at hl 2 rfl) ?_
  refine mk_goR (st9 := st) (va_runV (As := [.int (iI 1), .int (iI d)]) (rest := []) ⟨hx, hb, hml, hown, hts⟩ (c_X5_ledgerAt_1 l cg D ad st d (by omega)) (cwV 2 hts gX5_sell_X5_ledgerAt rfl rfl rfl (by decide +kernel) ⟨Nat.le_of_ble_eq_true rfl, Nat.le_of_ble_eq_true rfl⟩) (mk_preV hK hN hW 0 (by decide) rfl rfl rfl) rfl rfl hl.1 rfl (lv_room (Nat.le_of_ble_eq_true rfl)) dX5_sell_3 ⟨Nat.zero_le _, Nat.zero_le _⟩) hW (fun H locs hW => ?_)
  refine lv_astore (lv' := [(5, .ref (ad 30)), (0, .ref (ad 0)), (1, .int (iI 1)), (2, .int (iI d)), (3, .int (iI ct)), (4, .int (iI mo))]) hx hb dX5_sell_6 hl (by decide) rfl (fun ls hl => ?_)
  refine lv_iload_n hx hb dX5_sell_8 rfl (lv_at hl 4 rfl) ?_
  refine lv_iload hx hb dX5_sell_9 (lv_at hl 5 rfl) ?_
  exact mx_go (vx_runS (As := [.int (iI ct), .int (iI mo)]) (rest := []) ⟨hx, hb, hml, hown, hts⟩ (c_X5_checkTrade_noC l cg D ad st hst ct mo hc hno) (cwS 2 hts gX5_sell_X5_checkTrade rfl rfl rfl (by decide +kernel) ⟨Nat.le_of_ble_eq_true rfl, Nat.le_of_ble_eq_true rfl⟩) (mx_preS hK hN hxK hxZ hW) rfl rfl hl.1 rfl (lv_room (Nat.le_of_ble_eq_true rfl)) dX5_sell_11 ⟨Nat.le_refl _, Nat.le_refl _⟩) hW (fun ce q9 H1 locs1 hW1 _ hce hcv hcl => mx_out htab hlocks hW1 hce hcv hcl)

set_option maxHeartbeats 4000000 in
set_option maxRecDepth 100000 in
theorem c_X5_sell_noM_1 (l : Launch) (cg : Nat → ClassId) (D : va_G) (ad : Nat → Nat) (st : Nat → Nat → Int) (hst : l.stackTraces = false) (d ct mo : Int) (hd : 0 ≤ d ∧ d < 1825) (hc : 1 ≤ ct ∧ ct ≤ 1000) (hm : -2147483648 ≤ mo ∧ mo < 2147483648) (hno : ¬ (0 ≤ mo ∧ mo ≤ 1000000)) : TX l yX5_sell wsX5_sell ({ frames := 8, cells := 1, slots := 6, locals := 150 }) D vwCl (TY cg) 73 (celX cg) ad st [.ref (ad 0), .int (iI 1), .int (iI d), .int (iI ct), .int (iI mo)] (xE2) := by
  refine mx_open (cc := cX5_sell) (maxL := 7) (ret := (some .int)) (by decide) rfl (Nat.le_of_ble_eq_true rfl) ?_
  intro p e s m args below meth c hx hb hml hr hown hts hlocks hK hN hargs ls hl hW hxK hxZ htab
  have hown : s.vm.findClass RX5 = some m.cls := hown
  have hl : lv_has ls 7 [(0, .ref (ad 0)), (1, .int (iI 1)), (2, .int (iI d)), (3, .int (iI ct)), (4, .int (iI mo))] := hl
  refine lv_aload_n hx hb dX5_sell_0 rfl (lv_at hl 0 rfl) ?_
  refine lv_iload_n hx hb dX5_sell_1 rfl (lv_at hl 1 rfl) ?_
  refine lv_iload_n hx hb dX5_sell_2 rfl (lv_at hl 2 rfl) ?_
  refine mk_goR (st9 := st) (va_runV (As := [.int (iI 1), .int (iI d)]) (rest := []) ⟨hx, hb, hml, hown, hts⟩ (c_X5_ledgerAt_1 l cg D ad st d (by omega)) (cwV 2 hts gX5_sell_X5_ledgerAt rfl rfl rfl (by decide +kernel) ⟨Nat.le_of_ble_eq_true rfl, Nat.le_of_ble_eq_true rfl⟩) (mk_preV hK hN hW 0 (by decide) rfl rfl rfl) rfl rfl hl.1 rfl (lv_room (Nat.le_of_ble_eq_true rfl)) dX5_sell_3 ⟨Nat.zero_le _, Nat.zero_le _⟩) hW (fun H locs hW => ?_)
  refine lv_astore (lv' := [(5, .ref (ad 30)), (0, .ref (ad 0)), (1, .int (iI 1)), (2, .int (iI d)), (3, .int (iI ct)), (4, .int (iI mo))]) hx hb dX5_sell_6 hl (by decide) rfl (fun ls hl => ?_)
  refine lv_iload_n hx hb dX5_sell_8 rfl (lv_at hl 4 rfl) ?_
  refine lv_iload hx hb dX5_sell_9 (lv_at hl 5 rfl) ?_
  exact mx_go (vx_runS (As := [.int (iI ct), .int (iI mo)]) (rest := []) ⟨hx, hb, hml, hown, hts⟩ (c_X5_checkTrade_noM l cg D ad st hst ct mo hc hm hno) (cwS 2 hts gX5_sell_X5_checkTrade rfl rfl rfl (by decide +kernel) ⟨Nat.le_of_ble_eq_true rfl, Nat.le_of_ble_eq_true rfl⟩) (mx_preS hK hN hxK hxZ hW) rfl rfl hl.1 rfl (lv_room (Nat.le_of_ble_eq_true rfl)) dX5_sell_11 ⟨Nat.le_refl _, Nat.le_refl _⟩) hW (fun ce q9 H1 locs1 hW1 _ hce hcv hcl => mx_out htab hlocks hW1 hce hcv hcl)

set_option maxHeartbeats 4000000 in
set_option maxRecDepth 100000 in
theorem c_X5_sell_noR_1 (l : Launch) (cg : Nat → ClassId) (D : va_G) (ad : Nat → Nat) (st : Nat → Nat → Int) (hst : l.stackTraces = false) (d ct mo : Int) (hd : 0 ≤ d ∧ d < 1825) (hc : 1 ≤ ct ∧ ct ≤ 1000) (hm : 0 ≤ mo ∧ mo ≤ 1000000) (hn : st 1 6 = (60 : Nat)) : TX l yX5_sell wsX5_sell ({ frames := 8, cells := 1, slots := 6, locals := 150 }) D vwCl (TY cg) 73 (celX cg) ad st [.ref (ad 0), .int (iI 1), .int (iI d), .int (iI ct), .int (iI mo)] (xE3) := by
  refine mx_open (cc := cX5_sell) (maxL := 7) (ret := (some .int)) (by decide) rfl (Nat.le_of_ble_eq_true rfl) ?_
  intro p e s m args below meth c hx hb hml hr hown hts hlocks hK hN hargs ls hl hW hxK hxZ htab
  have hown : s.vm.findClass RX5 = some m.cls := hown
  have hl : lv_has ls 7 [(0, .ref (ad 0)), (1, .int (iI 1)), (2, .int (iI d)), (3, .int (iI ct)), (4, .int (iI mo))] := hl
  refine lv_aload_n hx hb dX5_sell_0 rfl (lv_at hl 0 rfl) ?_
  refine lv_iload_n hx hb dX5_sell_1 rfl (lv_at hl 1 rfl) ?_
  refine lv_iload_n hx hb dX5_sell_2 rfl (lv_at hl 2 rfl) ?_
  refine mk_goR (st9 := st) (va_runV (As := [.int (iI 1), .int (iI d)]) (rest := []) ⟨hx, hb, hml, hown, hts⟩ (c_X5_ledgerAt_1 l cg D ad st d (by omega)) (cwV 2 hts gX5_sell_X5_ledgerAt rfl rfl rfl (by decide +kernel) ⟨Nat.le_of_ble_eq_true rfl, Nat.le_of_ble_eq_true rfl⟩) (mk_preV hK hN hW 0 (by decide) rfl rfl rfl) rfl rfl hl.1 rfl (lv_room (Nat.le_of_ble_eq_true rfl)) dX5_sell_3 ⟨Nat.zero_le _, Nat.zero_le _⟩) hW (fun H locs hW => ?_)
  refine lv_astore (lv' := [(5, .ref (ad 30)), (0, .ref (ad 0)), (1, .int (iI 1)), (2, .int (iI d)), (3, .int (iI ct)), (4, .int (iI mo))]) hx hb dX5_sell_6 hl (by decide) rfl (fun ls hl => ?_)
  refine lv_iload_n hx hb dX5_sell_8 rfl (lv_at hl 4 rfl) ?_
  refine lv_iload hx hb dX5_sell_9 (lv_at hl 5 rfl) ?_
  refine mk_goV (va_runS (As := [.int (iI ct), .int (iI mo)]) (rest := []) ⟨hx, hb, hml, hown, hts⟩ (c_X5_checkTrade l cg D ad st ct mo hc hm) (cwS 2 hts gX5_sell_X5_checkTrade rfl rfl rfl (by decide +kernel) ⟨Nat.le_of_ble_eq_true rfl, Nat.le_of_ble_eq_true rfl⟩) (mk_preS hK hN hW) rfl rfl hl.1 rfl (lv_room (Nat.le_of_ble_eq_true rfl)) dX5_sell_11 ⟨Nat.zero_le _, Nat.zero_le _⟩) hW (fun st1 hp11 H locs hW => ?_)
  rw [hp11] at hW
  refine lv_aload_n hx hb dX5_sell_14 rfl (lv_at hl 1 rfl) ?_
  exact mx_go (vx_runV (As := []) (rest := []) ⟨hx, hb, hml, hown, hts⟩ (c_X5_checkRoomForTrade_no l cg D ad st hst hn) (cwV 0 hts gX5_sell_X5_checkRoomForTrade rfl rfl rfl (by decide +kernel) ⟨Nat.le_of_ble_eq_true rfl, Nat.le_of_ble_eq_true rfl⟩) (mx_preV hK hN hxK hxZ hW 0 (by decide) rfl rfl rfl) rfl rfl hl.1 rfl (lv_room (Nat.le_of_ble_eq_true rfl)) dX5_sell_15 ⟨Nat.le_refl _, Nat.le_refl _⟩) hW (fun ce q9 H1 locs1 hW1 _ hce hcv hcl => mx_out htab hlocks hW1 hce hcv hcl)

set_option maxHeartbeats 4000000 in
set_option maxRecDepth 100000 in
theorem c_X5_sell_noS_1 (l : Launch) (cg : Nat → ClassId) (D : va_G) (ad : Nat → Nat) (st : Nat → Nat → Int) (hst : l.stackTraces = false) (b : Nat → Nat → Int) (hX : XI st b) (d ct mo : Int) (hd : 0 ≤ d ∧ d < 1825) (hc : 1 ≤ ct ∧ ct ≤ 1000) (hm : 0 ≤ mo ∧ mo ≤ 1000000) (hn60 : bN b < 60) (hsp : ∃ e, d ≤ e ∧ bH b 1 e < ct * fla (bSD b 1) (bSF b 1) (bM b 1) d) : TX l yX5_sell wsX5_sell ({ frames := 8, cells := 1, slots := 6, locals := 150 }) D vwCl (TY cg) 73 (celX cg) ad st [.ref (ad 0), .int (iI 1), .int (iI d), .int (iI ct), .int (iI mo)] (xE3) := by
  refine mx_open (cc := cX5_sell) (maxL := 7) (ret := (some .int)) (by decide) rfl (Nat.le_of_ble_eq_true rfl) ?_
  intro p e s m args below meth c hx hb hml hr hown hts hlocks hK hN hargs ls hl hW hxK hxZ htab
  have hown : s.vm.findClass RX5 = some m.cls := hown
  have hl : lv_has ls 7 [(0, .ref (ad 0)), (1, .int (iI 1)), (2, .int (iI d)), (3, .int (iI ct)), (4, .int (iI mo))] := hl
  refine lv_aload_n hx hb dX5_sell_0 rfl (lv_at hl 0 rfl) ?_
  refine lv_iload_n hx hb dX5_sell_1 rfl (lv_at hl 1 rfl) ?_
  refine lv_iload_n hx hb dX5_sell_2 rfl (lv_at hl 2 rfl) ?_
  refine mk_goR (st9 := st) (va_runV (As := [.int (iI 1), .int (iI d)]) (rest := []) ⟨hx, hb, hml, hown, hts⟩ (c_X5_ledgerAt_1 l cg D ad st d (by omega)) (cwV 2 hts gX5_sell_X5_ledgerAt rfl rfl rfl (by decide +kernel) ⟨Nat.le_of_ble_eq_true rfl, Nat.le_of_ble_eq_true rfl⟩) (mk_preV hK hN hW 0 (by decide) rfl rfl rfl) rfl rfl hl.1 rfl (lv_room (Nat.le_of_ble_eq_true rfl)) dX5_sell_3 ⟨Nat.zero_le _, Nat.zero_le _⟩) hW (fun H locs hW => ?_)
  refine lv_astore (lv' := [(5, .ref (ad 30)), (0, .ref (ad 0)), (1, .int (iI 1)), (2, .int (iI d)), (3, .int (iI ct)), (4, .int (iI mo))]) hx hb dX5_sell_6 hl (by decide) rfl (fun ls hl => ?_)
  refine lv_iload_n hx hb dX5_sell_8 rfl (lv_at hl 4 rfl) ?_
  refine lv_iload hx hb dX5_sell_9 (lv_at hl 5 rfl) ?_
  refine mk_goV (va_runS (As := [.int (iI ct), .int (iI mo)]) (rest := []) ⟨hx, hb, hml, hown, hts⟩ (c_X5_checkTrade l cg D ad st ct mo hc hm) (cwS 2 hts gX5_sell_X5_checkTrade rfl rfl rfl (by decide +kernel) ⟨Nat.le_of_ble_eq_true rfl, Nat.le_of_ble_eq_true rfl⟩) (mk_preS hK hN hW) rfl rfl hl.1 rfl (lv_room (Nat.le_of_ble_eq_true rfl)) dX5_sell_11 ⟨Nat.zero_le _, Nat.zero_le _⟩) hW (fun st1 hp11 H locs hW => ?_)
  rw [hp11] at hW
  refine lv_aload_n hx hb dX5_sell_14 rfl (lv_at hl 1 rfl) ?_
  refine mk_goV (va_runV (As := []) (rest := []) ⟨hx, hb, hml, hown, hts⟩ (c_X5_checkRoomForTrade l cg D ad st (bN b) (hX.2.1.n hX.1.j) hn60) (cwV 0 hts gX5_sell_X5_checkRoomForTrade rfl rfl rfl (by decide +kernel) ⟨Nat.le_of_ble_eq_true rfl, Nat.le_of_ble_eq_true rfl⟩) (mk_preV hK hN hW 0 (by decide) rfl rfl rfl) rfl rfl hl.1 rfl (lv_room (Nat.le_of_ble_eq_true rfl)) dX5_sell_15 ⟨Nat.zero_le _, Nat.zero_le _⟩) hW (fun st3 hp15 H locs hW => ?_)
  rw [hp15] at hW
  refine lv_aload hx hb dX5_sell_18 (lv_at hl 0 rfl) ?_
  refine lv_iload_n hx hb dX5_sell_20 rfl (lv_at hl 3 rfl) ?_
  refine lv_iload_n hx hb dX5_sell_21 rfl (lv_at hl 4 rfl) ?_
  exact mx_go (vx_runS (As := [.ref (ad 30), .int (iI d), .int (iI ct)]) (rest := []) ⟨hx, hb, hml, hown, hts⟩ (c_X5_checkCanSpare_no_1 l cg D ad st hst b hX d ct hd hc hsp) (cwS 3 hts gX5_sell_X5_checkCanSpare rfl rfl rfl (by decide +kernel) ⟨Nat.le_of_ble_eq_true rfl, Nat.le_of_ble_eq_true rfl⟩) (mx_preS hK hN hxK hxZ hW) rfl rfl hl.1 rfl (lv_room (Nat.le_of_ble_eq_true rfl)) dX5_sell_22 ⟨Nat.le_refl _, Nat.le_refl _⟩) hW (fun ce q9 H1 locs1 hW1 _ hce hcv hcl => mx_out htab hlocks hW1 hce hcv hcl)

set_option maxHeartbeats 4000000 in
set_option maxRecDepth 100000 in
theorem c_X5_sell_noC_2 (l : Launch) (cg : Nat → ClassId) (D : va_G) (ad : Nat → Nat) (st : Nat → Nat → Int) (hst : l.stackTraces = false) (d ct mo : Int) (hd : 0 ≤ d ∧ d < 1825) (hc : -2147483648 ≤ ct ∧ ct < 2147483648) (hno : ¬ (1 ≤ ct ∧ ct ≤ 1000)) : TX l yX5_sell wsX5_sell ({ frames := 8, cells := 1, slots := 6, locals := 150 }) D vwCl (TY cg) 73 (celX cg) ad st [.ref (ad 0), .int (iI 2), .int (iI d), .int (iI ct), .int (iI mo)] (xE2) := by
  refine mx_open (cc := cX5_sell) (maxL := 7) (ret := (some .int)) (by decide) rfl (Nat.le_of_ble_eq_true rfl) ?_
  intro p e s m args below meth c hx hb hml hr hown hts hlocks hK hN hargs ls hl hW hxK hxZ htab
  have hown : s.vm.findClass RX5 = some m.cls := hown
  have hl : lv_has ls 7 [(0, .ref (ad 0)), (1, .int (iI 2)), (2, .int (iI d)), (3, .int (iI ct)), (4, .int (iI mo))] := hl
  refine lv_aload_n hx hb dX5_sell_0 rfl (lv_at hl 0 rfl) ?_
  refine lv_iload_n hx hb dX5_sell_1 rfl (lv_at hl 1 rfl) ?_
  refine lv_iload_n hx hb dX5_sell_2 rfl (lv_at hl 2 rfl) ?_
  refine mk_goR (st9 := st) (va_runV (As := [.int (iI 2), .int (iI d)]) (rest := []) ⟨hx, hb, hml, hown, hts⟩ (c_X5_ledgerAt_2 l cg D ad st d (by omega)) (cwV 2 hts gX5_sell_X5_ledgerAt rfl rfl rfl (by decide +kernel) ⟨Nat.le_of_ble_eq_true rfl, Nat.le_of_ble_eq_true rfl⟩) (mk_preV hK hN hW 0 (by decide) rfl rfl rfl) rfl rfl hl.1 rfl (lv_room (Nat.le_of_ble_eq_true rfl)) dX5_sell_3 ⟨Nat.zero_le _, Nat.zero_le _⟩) hW (fun H locs hW => ?_)
  refine lv_astore (lv' := [(5, .ref (ad 51)), (0, .ref (ad 0)), (1, .int (iI 2)), (2, .int (iI d)), (3, .int (iI ct)), (4, .int (iI mo))]) hx hb dX5_sell_6 hl (by decide) rfl (fun ls hl => ?_)
  refine lv_iload_n hx hb dX5_sell_8 rfl (lv_at hl 4 rfl) ?_
  refine lv_iload hx hb dX5_sell_9 (lv_at hl 5 rfl) ?_
  exact mx_go (vx_runS (As := [.int (iI ct), .int (iI mo)]) (rest := []) ⟨hx, hb, hml, hown, hts⟩ (c_X5_checkTrade_noC l cg D ad st hst ct mo hc hno) (cwS 2 hts gX5_sell_X5_checkTrade rfl rfl rfl (by decide +kernel) ⟨Nat.le_of_ble_eq_true rfl, Nat.le_of_ble_eq_true rfl⟩) (mx_preS hK hN hxK hxZ hW) rfl rfl hl.1 rfl (lv_room (Nat.le_of_ble_eq_true rfl)) dX5_sell_11 ⟨Nat.le_refl _, Nat.le_refl _⟩) hW (fun ce q9 H1 locs1 hW1 _ hce hcv hcl => mx_out htab hlocks hW1 hce hcv hcl)

set_option maxHeartbeats 4000000 in
set_option maxRecDepth 100000 in
theorem c_X5_sell_noM_2 (l : Launch) (cg : Nat → ClassId) (D : va_G) (ad : Nat → Nat) (st : Nat → Nat → Int) (hst : l.stackTraces = false) (d ct mo : Int) (hd : 0 ≤ d ∧ d < 1825) (hc : 1 ≤ ct ∧ ct ≤ 1000) (hm : -2147483648 ≤ mo ∧ mo < 2147483648) (hno : ¬ (0 ≤ mo ∧ mo ≤ 1000000)) : TX l yX5_sell wsX5_sell ({ frames := 8, cells := 1, slots := 6, locals := 150 }) D vwCl (TY cg) 73 (celX cg) ad st [.ref (ad 0), .int (iI 2), .int (iI d), .int (iI ct), .int (iI mo)] (xE2) := by
  refine mx_open (cc := cX5_sell) (maxL := 7) (ret := (some .int)) (by decide) rfl (Nat.le_of_ble_eq_true rfl) ?_
  intro p e s m args below meth c hx hb hml hr hown hts hlocks hK hN hargs ls hl hW hxK hxZ htab
  have hown : s.vm.findClass RX5 = some m.cls := hown
  have hl : lv_has ls 7 [(0, .ref (ad 0)), (1, .int (iI 2)), (2, .int (iI d)), (3, .int (iI ct)), (4, .int (iI mo))] := hl
  refine lv_aload_n hx hb dX5_sell_0 rfl (lv_at hl 0 rfl) ?_
  refine lv_iload_n hx hb dX5_sell_1 rfl (lv_at hl 1 rfl) ?_
  refine lv_iload_n hx hb dX5_sell_2 rfl (lv_at hl 2 rfl) ?_
  refine mk_goR (st9 := st) (va_runV (As := [.int (iI 2), .int (iI d)]) (rest := []) ⟨hx, hb, hml, hown, hts⟩ (c_X5_ledgerAt_2 l cg D ad st d (by omega)) (cwV 2 hts gX5_sell_X5_ledgerAt rfl rfl rfl (by decide +kernel) ⟨Nat.le_of_ble_eq_true rfl, Nat.le_of_ble_eq_true rfl⟩) (mk_preV hK hN hW 0 (by decide) rfl rfl rfl) rfl rfl hl.1 rfl (lv_room (Nat.le_of_ble_eq_true rfl)) dX5_sell_3 ⟨Nat.zero_le _, Nat.zero_le _⟩) hW (fun H locs hW => ?_)
  refine lv_astore (lv' := [(5, .ref (ad 51)), (0, .ref (ad 0)), (1, .int (iI 2)), (2, .int (iI d)), (3, .int (iI ct)), (4, .int (iI mo))]) hx hb dX5_sell_6 hl (by decide) rfl (fun ls hl => ?_)
  refine lv_iload_n hx hb dX5_sell_8 rfl (lv_at hl 4 rfl) ?_
  refine lv_iload hx hb dX5_sell_9 (lv_at hl 5 rfl) ?_
  exact mx_go (vx_runS (As := [.int (iI ct), .int (iI mo)]) (rest := []) ⟨hx, hb, hml, hown, hts⟩ (c_X5_checkTrade_noM l cg D ad st hst ct mo hc hm hno) (cwS 2 hts gX5_sell_X5_checkTrade rfl rfl rfl (by decide +kernel) ⟨Nat.le_of_ble_eq_true rfl, Nat.le_of_ble_eq_true rfl⟩) (mx_preS hK hN hxK hxZ hW) rfl rfl hl.1 rfl (lv_room (Nat.le_of_ble_eq_true rfl)) dX5_sell_11 ⟨Nat.le_refl _, Nat.le_refl _⟩) hW (fun ce q9 H1 locs1 hW1 _ hce hcv hcl => mx_out htab hlocks hW1 hce hcv hcl)

set_option maxHeartbeats 4000000 in
set_option maxRecDepth 100000 in
theorem c_X5_sell_noR_2 (l : Launch) (cg : Nat → ClassId) (D : va_G) (ad : Nat → Nat) (st : Nat → Nat → Int) (hst : l.stackTraces = false) (d ct mo : Int) (hd : 0 ≤ d ∧ d < 1825) (hc : 1 ≤ ct ∧ ct ≤ 1000) (hm : 0 ≤ mo ∧ mo ≤ 1000000) (hn : st 1 6 = (60 : Nat)) : TX l yX5_sell wsX5_sell ({ frames := 8, cells := 1, slots := 6, locals := 150 }) D vwCl (TY cg) 73 (celX cg) ad st [.ref (ad 0), .int (iI 2), .int (iI d), .int (iI ct), .int (iI mo)] (xE3) := by
  refine mx_open (cc := cX5_sell) (maxL := 7) (ret := (some .int)) (by decide) rfl (Nat.le_of_ble_eq_true rfl) ?_
  intro p e s m args below meth c hx hb hml hr hown hts hlocks hK hN hargs ls hl hW hxK hxZ htab
  have hown : s.vm.findClass RX5 = some m.cls := hown
  have hl : lv_has ls 7 [(0, .ref (ad 0)), (1, .int (iI 2)), (2, .int (iI d)), (3, .int (iI ct)), (4, .int (iI mo))] := hl
  refine lv_aload_n hx hb dX5_sell_0 rfl (lv_at hl 0 rfl) ?_
  refine lv_iload_n hx hb dX5_sell_1 rfl (lv_at hl 1 rfl) ?_
  refine lv_iload_n hx hb dX5_sell_2 rfl (lv_at hl 2 rfl) ?_
  refine mk_goR (st9 := st) (va_runV (As := [.int (iI 2), .int (iI d)]) (rest := []) ⟨hx, hb, hml, hown, hts⟩ (c_X5_ledgerAt_2 l cg D ad st d (by omega)) (cwV 2 hts gX5_sell_X5_ledgerAt rfl rfl rfl (by decide +kernel) ⟨Nat.le_of_ble_eq_true rfl, Nat.le_of_ble_eq_true rfl⟩) (mk_preV hK hN hW 0 (by decide) rfl rfl rfl) rfl rfl hl.1 rfl (lv_room (Nat.le_of_ble_eq_true rfl)) dX5_sell_3 ⟨Nat.zero_le _, Nat.zero_le _⟩) hW (fun H locs hW => ?_)
  refine lv_astore (lv' := [(5, .ref (ad 51)), (0, .ref (ad 0)), (1, .int (iI 2)), (2, .int (iI d)), (3, .int (iI ct)), (4, .int (iI mo))]) hx hb dX5_sell_6 hl (by decide) rfl (fun ls hl => ?_)
  refine lv_iload_n hx hb dX5_sell_8 rfl (lv_at hl 4 rfl) ?_
  refine lv_iload hx hb dX5_sell_9 (lv_at hl 5 rfl) ?_
  refine mk_goV (va_runS (As := [.int (iI ct), .int (iI mo)]) (rest := []) ⟨hx, hb, hml, hown, hts⟩ (c_X5_checkTrade l cg D ad st ct mo hc hm) (cwS 2 hts gX5_sell_X5_checkTrade rfl rfl rfl (by decide +kernel) ⟨Nat.le_of_ble_eq_true rfl, Nat.le_of_ble_eq_true rfl⟩) (mk_preS hK hN hW) rfl rfl hl.1 rfl (lv_room (Nat.le_of_ble_eq_true rfl)) dX5_sell_11 ⟨Nat.zero_le _, Nat.zero_le _⟩) hW (fun st1 hp11 H locs hW => ?_)
  rw [hp11] at hW
  refine lv_aload_n hx hb dX5_sell_14 rfl (lv_at hl 1 rfl) ?_
  exact mx_go (vx_runV (As := []) (rest := []) ⟨hx, hb, hml, hown, hts⟩ (c_X5_checkRoomForTrade_no l cg D ad st hst hn) (cwV 0 hts gX5_sell_X5_checkRoomForTrade rfl rfl rfl (by decide +kernel) ⟨Nat.le_of_ble_eq_true rfl, Nat.le_of_ble_eq_true rfl⟩) (mx_preV hK hN hxK hxZ hW 0 (by decide) rfl rfl rfl) rfl rfl hl.1 rfl (lv_room (Nat.le_of_ble_eq_true rfl)) dX5_sell_15 ⟨Nat.le_refl _, Nat.le_refl _⟩) hW (fun ce q9 H1 locs1 hW1 _ hce hcv hcl => mx_out htab hlocks hW1 hce hcv hcl)

set_option maxHeartbeats 4000000 in
set_option maxRecDepth 100000 in
theorem c_X5_sell_noS_2 (l : Launch) (cg : Nat → ClassId) (D : va_G) (ad : Nat → Nat) (st : Nat → Nat → Int) (hst : l.stackTraces = false) (b : Nat → Nat → Int) (hX : XI st b) (d ct mo : Int) (hd : 0 ≤ d ∧ d < 1825) (hc : 1 ≤ ct ∧ ct ≤ 1000) (hm : 0 ≤ mo ∧ mo ≤ 1000000) (hn60 : bN b < 60) (hsp : ∃ e, d ≤ e ∧ bH b 2 e < ct * fla (bSD b 2) (bSF b 2) (bM b 2) d) : TX l yX5_sell wsX5_sell ({ frames := 8, cells := 1, slots := 6, locals := 150 }) D vwCl (TY cg) 73 (celX cg) ad st [.ref (ad 0), .int (iI 2), .int (iI d), .int (iI ct), .int (iI mo)] (xE3) := by
  refine mx_open (cc := cX5_sell) (maxL := 7) (ret := (some .int)) (by decide) rfl (Nat.le_of_ble_eq_true rfl) ?_
  intro p e s m args below meth c hx hb hml hr hown hts hlocks hK hN hargs ls hl hW hxK hxZ htab
  have hown : s.vm.findClass RX5 = some m.cls := hown
  have hl : lv_has ls 7 [(0, .ref (ad 0)), (1, .int (iI 2)), (2, .int (iI d)), (3, .int (iI ct)), (4, .int (iI mo))] := hl
  refine lv_aload_n hx hb dX5_sell_0 rfl (lv_at hl 0 rfl) ?_
  refine lv_iload_n hx hb dX5_sell_1 rfl (lv_at hl 1 rfl) ?_
  refine lv_iload_n hx hb dX5_sell_2 rfl (lv_at hl 2 rfl) ?_
  refine mk_goR (st9 := st) (va_runV (As := [.int (iI 2), .int (iI d)]) (rest := []) ⟨hx, hb, hml, hown, hts⟩ (c_X5_ledgerAt_2 l cg D ad st d (by omega)) (cwV 2 hts gX5_sell_X5_ledgerAt rfl rfl rfl (by decide +kernel) ⟨Nat.le_of_ble_eq_true rfl, Nat.le_of_ble_eq_true rfl⟩) (mk_preV hK hN hW 0 (by decide) rfl rfl rfl) rfl rfl hl.1 rfl (lv_room (Nat.le_of_ble_eq_true rfl)) dX5_sell_3 ⟨Nat.zero_le _, Nat.zero_le _⟩) hW (fun H locs hW => ?_)
  refine lv_astore (lv' := [(5, .ref (ad 51)), (0, .ref (ad 0)), (1, .int (iI 2)), (2, .int (iI d)), (3, .int (iI ct)), (4, .int (iI mo))]) hx hb dX5_sell_6 hl (by decide) rfl (fun ls hl => ?_)
  refine lv_iload_n hx hb dX5_sell_8 rfl (lv_at hl 4 rfl) ?_
  refine lv_iload hx hb dX5_sell_9 (lv_at hl 5 rfl) ?_
  refine mk_goV (va_runS (As := [.int (iI ct), .int (iI mo)]) (rest := []) ⟨hx, hb, hml, hown, hts⟩ (c_X5_checkTrade l cg D ad st ct mo hc hm) (cwS 2 hts gX5_sell_X5_checkTrade rfl rfl rfl (by decide +kernel) ⟨Nat.le_of_ble_eq_true rfl, Nat.le_of_ble_eq_true rfl⟩) (mk_preS hK hN hW) rfl rfl hl.1 rfl (lv_room (Nat.le_of_ble_eq_true rfl)) dX5_sell_11 ⟨Nat.zero_le _, Nat.zero_le _⟩) hW (fun st1 hp11 H locs hW => ?_)
  rw [hp11] at hW
  refine lv_aload_n hx hb dX5_sell_14 rfl (lv_at hl 1 rfl) ?_
  refine mk_goV (va_runV (As := []) (rest := []) ⟨hx, hb, hml, hown, hts⟩ (c_X5_checkRoomForTrade l cg D ad st (bN b) (hX.2.1.n hX.1.j) hn60) (cwV 0 hts gX5_sell_X5_checkRoomForTrade rfl rfl rfl (by decide +kernel) ⟨Nat.le_of_ble_eq_true rfl, Nat.le_of_ble_eq_true rfl⟩) (mk_preV hK hN hW 0 (by decide) rfl rfl rfl) rfl rfl hl.1 rfl (lv_room (Nat.le_of_ble_eq_true rfl)) dX5_sell_15 ⟨Nat.zero_le _, Nat.zero_le _⟩) hW (fun st3 hp15 H locs hW => ?_)
  rw [hp15] at hW
  refine lv_aload hx hb dX5_sell_18 (lv_at hl 0 rfl) ?_
  refine lv_iload_n hx hb dX5_sell_20 rfl (lv_at hl 3 rfl) ?_
  refine lv_iload_n hx hb dX5_sell_21 rfl (lv_at hl 4 rfl) ?_
  exact mx_go (vx_runS (As := [.ref (ad 51), .int (iI d), .int (iI ct)]) (rest := []) ⟨hx, hb, hml, hown, hts⟩ (c_X5_checkCanSpare_no_2 l cg D ad st hst b hX d ct hd hc hsp) (cwS 3 hts gX5_sell_X5_checkCanSpare rfl rfl rfl (by decide +kernel) ⟨Nat.le_of_ble_eq_true rfl, Nat.le_of_ble_eq_true rfl⟩) (mx_preS hK hN hxK hxZ hW) rfl rfl hl.1 rfl (lv_room (Nat.le_of_ble_eq_true rfl)) dX5_sell_22 ⟨Nat.le_refl _, Nat.le_refl _⟩) hW (fun ce q9 H1 locs1 hW1 _ hce hcv hcl => mx_out htab hlocks hW1 hce hcv hcl)

set_option maxHeartbeats 4000000 in
set_option maxRecDepth 100000 in
theorem c_X5_split_noA (l : Launch) (cg : Nat → ClassId) (D : va_G) (ad : Nat → Nat) (st : Nat → Nat → Int) (hst : l.stackTraces = false) (a d f : Int) (ha : -2147483648 ≤ a ∧ a < 2147483648) (hno : ¬ (0 ≤ a ∧ a < 3)) : TX l yX5_split wsX5_split ({ frames := 8, cells := 1, slots := 6, locals := 150 }) D vwCl (TY cg) 73 (celX cg) ad st [.ref (ad 0), .int (iI a), .int (iI d), .int (iI f)] (xE1) := by
  refine mx_open (cc := cX5_split) (maxL := 5) (ret := (some .int)) (by decide) rfl (Nat.le_of_ble_eq_true rfl) ?_
  intro p e s m args below meth c hx hb hml hr hown hts hlocks hK hN hargs ls hl hW hxK hxZ htab
  have hown : s.vm.findClass RX5 = some m.cls := hown
  have hl : lv_has ls 5 [(0, .ref (ad 0)), (1, .int (iI a)), (2, .int (iI d)), (3, .int (iI f))] := hl
  refine lv_aload_n hx hb dX5_split_0 rfl (lv_at hl 0 rfl) ?_
  refine lv_iload_n hx hb dX5_split_1 rfl (lv_at hl 1 rfl) ?_
  refine lv_iload_n hx hb dX5_split_2 rfl (lv_at hl 2 rfl) ?_
  exact mx_go (vx_runV (As := [.int (iI a), .int (iI d)]) (rest := []) ⟨hx, hb, hml, hown, hts⟩ (c_X5_ledgerAt_noA l cg D ad st hst a d ha hno) (cwV 2 hts gX5_split_X5_ledgerAt rfl rfl rfl (by decide +kernel) ⟨Nat.le_of_ble_eq_true rfl, Nat.le_of_ble_eq_true rfl⟩) (mx_preV hK hN hxK hxZ hW 0 (by decide) rfl rfl rfl) rfl rfl hl.1 rfl (lv_room (Nat.le_of_ble_eq_true rfl)) dX5_split_3 ⟨Nat.le_refl _, Nat.le_refl _⟩) hW (fun ce q9 H1 locs1 hW1 _ hce hcv hcl => mx_out htab hlocks hW1 hce hcv hcl)

set_option maxHeartbeats 4000000 in
set_option maxRecDepth 100000 in
theorem c_X5_split_noD_0 (l : Launch) (cg : Nat → ClassId) (D : va_G) (ad : Nat → Nat) (st : Nat → Nat → Int) (hst : l.stackTraces = false) (d f : Int) (hd : -2147483648 ≤ d ∧ d < 2147483648) (hno : ¬ (0 ≤ d ∧ d < 1825)) : TX l yX5_split wsX5_split ({ frames := 8, cells := 1, slots := 6, locals := 150 }) D vwCl (TY cg) 73 (celX cg) ad st [.ref (ad 0), .int (iI 0), .int (iI d), .int (iI f)] (xE1) := by
  refine mx_open (cc := cX5_split) (maxL := 5) (ret := (some .int)) (by decide) rfl (Nat.le_of_ble_eq_true rfl) ?_
  intro p e s m args below meth c hx hb hml hr hown hts hlocks hK hN hargs ls hl hW hxK hxZ htab
  have hown : s.vm.findClass RX5 = some m.cls := hown
  have hl : lv_has ls 5 [(0, .ref (ad 0)), (1, .int (iI 0)), (2, .int (iI d)), (3, .int (iI f))] := hl
  refine lv_aload_n hx hb dX5_split_0 rfl (lv_at hl 0 rfl) ?_
  refine lv_iload_n hx hb dX5_split_1 rfl (lv_at hl 1 rfl) ?_
  refine lv_iload_n hx hb dX5_split_2 rfl (lv_at hl 2 rfl) ?_
  exact mx_go (vx_runV (As := [.int (iI 0), .int (iI d)]) (rest := []) ⟨hx, hb, hml, hown, hts⟩ (c_X5_ledgerAt_noD_0 l cg D ad st hst d hd hno) (cwV 2 hts gX5_split_X5_ledgerAt rfl rfl rfl (by decide +kernel) ⟨Nat.le_of_ble_eq_true rfl, Nat.le_of_ble_eq_true rfl⟩) (mx_preV hK hN hxK hxZ hW 0 (by decide) rfl rfl rfl) rfl rfl hl.1 rfl (lv_room (Nat.le_of_ble_eq_true rfl)) dX5_split_3 ⟨Nat.le_refl _, Nat.le_refl _⟩) hW (fun ce q9 H1 locs1 hW1 _ hce hcv hcl => mx_out htab hlocks hW1 hce hcv hcl)

set_option maxHeartbeats 4000000 in
set_option maxRecDepth 100000 in
theorem c_X5_split_noD_1 (l : Launch) (cg : Nat → ClassId) (D : va_G) (ad : Nat → Nat) (st : Nat → Nat → Int) (hst : l.stackTraces = false) (d f : Int) (hd : -2147483648 ≤ d ∧ d < 2147483648) (hno : ¬ (0 ≤ d ∧ d < 1825)) : TX l yX5_split wsX5_split ({ frames := 8, cells := 1, slots := 6, locals := 150 }) D vwCl (TY cg) 73 (celX cg) ad st [.ref (ad 0), .int (iI 1), .int (iI d), .int (iI f)] (xE1) := by
  refine mx_open (cc := cX5_split) (maxL := 5) (ret := (some .int)) (by decide) rfl (Nat.le_of_ble_eq_true rfl) ?_
  intro p e s m args below meth c hx hb hml hr hown hts hlocks hK hN hargs ls hl hW hxK hxZ htab
  have hown : s.vm.findClass RX5 = some m.cls := hown
  have hl : lv_has ls 5 [(0, .ref (ad 0)), (1, .int (iI 1)), (2, .int (iI d)), (3, .int (iI f))] := hl
  refine lv_aload_n hx hb dX5_split_0 rfl (lv_at hl 0 rfl) ?_
  refine lv_iload_n hx hb dX5_split_1 rfl (lv_at hl 1 rfl) ?_
  refine lv_iload_n hx hb dX5_split_2 rfl (lv_at hl 2 rfl) ?_
  exact mx_go (vx_runV (As := [.int (iI 1), .int (iI d)]) (rest := []) ⟨hx, hb, hml, hown, hts⟩ (c_X5_ledgerAt_noD_1 l cg D ad st hst d hd hno) (cwV 2 hts gX5_split_X5_ledgerAt rfl rfl rfl (by decide +kernel) ⟨Nat.le_of_ble_eq_true rfl, Nat.le_of_ble_eq_true rfl⟩) (mx_preV hK hN hxK hxZ hW 0 (by decide) rfl rfl rfl) rfl rfl hl.1 rfl (lv_room (Nat.le_of_ble_eq_true rfl)) dX5_split_3 ⟨Nat.le_refl _, Nat.le_refl _⟩) hW (fun ce q9 H1 locs1 hW1 _ hce hcv hcl => mx_out htab hlocks hW1 hce hcv hcl)

set_option maxHeartbeats 4000000 in
set_option maxRecDepth 100000 in
theorem c_X5_split_noD_2 (l : Launch) (cg : Nat → ClassId) (D : va_G) (ad : Nat → Nat) (st : Nat → Nat → Int) (hst : l.stackTraces = false) (d f : Int) (hd : -2147483648 ≤ d ∧ d < 2147483648) (hno : ¬ (0 ≤ d ∧ d < 1825)) : TX l yX5_split wsX5_split ({ frames := 8, cells := 1, slots := 6, locals := 150 }) D vwCl (TY cg) 73 (celX cg) ad st [.ref (ad 0), .int (iI 2), .int (iI d), .int (iI f)] (xE1) := by
  refine mx_open (cc := cX5_split) (maxL := 5) (ret := (some .int)) (by decide) rfl (Nat.le_of_ble_eq_true rfl) ?_
  intro p e s m args below meth c hx hb hml hr hown hts hlocks hK hN hargs ls hl hW hxK hxZ htab
  have hown : s.vm.findClass RX5 = some m.cls := hown
  have hl : lv_has ls 5 [(0, .ref (ad 0)), (1, .int (iI 2)), (2, .int (iI d)), (3, .int (iI f))] := hl
  refine lv_aload_n hx hb dX5_split_0 rfl (lv_at hl 0 rfl) ?_
  refine lv_iload_n hx hb dX5_split_1 rfl (lv_at hl 1 rfl) ?_
  refine lv_iload_n hx hb dX5_split_2 rfl (lv_at hl 2 rfl) ?_
  exact mx_go (vx_runV (As := [.int (iI 2), .int (iI d)]) (rest := []) ⟨hx, hb, hml, hown, hts⟩ (c_X5_ledgerAt_noD_2 l cg D ad st hst d hd hno) (cwV 2 hts gX5_split_X5_ledgerAt rfl rfl rfl (by decide +kernel) ⟨Nat.le_of_ble_eq_true rfl, Nat.le_of_ble_eq_true rfl⟩) (mx_preV hK hN hxK hxZ hW 0 (by decide) rfl rfl rfl) rfl rfl hl.1 rfl (lv_room (Nat.le_of_ble_eq_true rfl)) dX5_split_3 ⟨Nat.le_refl _, Nat.le_refl _⟩) hW (fun ce q9 H1 locs1 hW1 _ hce hcv hcl => mx_out htab hlocks hW1 hce hcv hcl)

set_option maxHeartbeats 4000000 in
set_option maxRecDepth 100000 in
theorem c_X5_split_noF_0 (l : Launch) (cg : Nat → ClassId) (D : va_G) (ad : Nat → Nat) (st : Nat → Nat → Int) (hst : l.stackTraces = false) (d f : Int) (hd : 0 ≤ d ∧ d < 1825) (hf9 : -2147483648 ≤ f ∧ f < 2147483648) (hno : ¬ (2 ≤ f ∧ f ≤ 5)) : TX l yX5_split wsX5_split ({ frames := 8, cells := 1, slots := 6, locals := 150 }) D vwCl (TY cg) 73 (celX cg) ad st [.ref (ad 0), .int (iI 0), .int (iI d), .int (iI f)] (xE2) := by
  refine mx_open (cc := cX5_split) (maxL := 5) (ret := (some .int)) (by decide) rfl (Nat.le_of_ble_eq_true rfl) ?_
  intro p e s m args below meth c hx hb hml hr hown hts hlocks hK hN hargs ls hl hW hxK hxZ htab
  have hown : s.vm.findClass RX5 = some m.cls := hown
  have hl : lv_has ls 5 [(0, .ref (ad 0)), (1, .int (iI 0)), (2, .int (iI d)), (3, .int (iI f))] := hl
  refine lv_aload_n hx hb dX5_split_0 rfl (lv_at hl 0 rfl) ?_
  refine lv_iload_n hx hb dX5_split_1 rfl (lv_at hl 1 rfl) ?_
  refine lv_iload_n hx hb dX5_split_2 rfl (lv_at hl 2 rfl) ?_
  refine mk_goR (st9 := st) (va_runV (As := [.int (iI 0), .int (iI d)]) (rest := []) ⟨hx, hb, hml, hown, hts⟩ (c_X5_ledgerAt_0 l cg D ad st d (by omega)) (cwV 2 hts gX5_split_X5_ledgerAt rfl rfl rfl (by decide +kernel) ⟨Nat.le_of_ble_eq_true rfl, Nat.le_of_ble_eq_true rfl⟩) (mk_preV hK hN hW 0 (by decide) rfl rfl rfl) rfl rfl hl.1 rfl (lv_room (Nat.le_of_ble_eq_true rfl)) dX5_split_3 ⟨Nat.zero_le _, Nat.zero_le _⟩) hW (fun H locs hW => ?_)
  refine lv_astore (lv' := [(4, .ref (ad 9)), (0, .ref (ad 0)), (1, .int (iI 0)), (2, .int (iI d)), (3, .int (iI f))]) hx hb dX5_split_6 hl (by decide) rfl (fun ls hl => ?_)
  refine lv_iload_n hx hb dX5_split_8 rfl (lv_at hl 4 rfl) ?_
  refine mk_iconst hx hb (2) dX5_split_9 ?_
  refine mk_icmp_lt (tgt := 18) hx hb dX5_split_10 (by decide) (by omega) (by omega) (fun c_10 => ?_) (fun c_10 => ?_)
  · skip
    exact mx_throw (text := "the factor is out of range") hx hb hst hown (by decide) (hts (.classLink RX5 56 xE2) (by decide +kernel)) (hts (.initialized xE2) (by decide +kernel)) (fun w h => hts w (List.mem_cons_of_mem _ (List.mem_append_left _ (List.mem_append_left _ (List.mem_append_right _ h))))) xb2 xo2 hxK hxZ (by decide) (hml.trans hl.1.symm) htab hlocks hW dX5_split_18 dX5_split_21 dX5_split_22 dX5_split_24 dX5_split_27 (Nat.le_of_ble_eq_true rfl) (Nat.le_of_ble_eq_true rfl) (Nat.le_refl _) (Nat.le_refl _)
  · skip
    refine lv_iload_n hx hb dX5_split_13 rfl (lv_at hl 4 rfl) ?_
    refine mk_iconst hx hb (5) dX5_split_14 ?_
    refine mk_icmp_le (tgt := 28) hx hb dX5_split_15 (by decide) (by omega) (by omega) (fun c_15 => ?_) (fun c_15 => ?_)
    · skip
      omega
    · skip
      exact mx_throw (text := "the factor is out of range") hx hb hst hown (by decide) (hts (.classLink RX5 56 xE2) (by decide +kernel)) (hts (.initialized xE2) (by decide +kernel)) (fun w h => hts w (List.mem_cons_of_mem _ (List.mem_append_left _ (List.mem_append_left _ (List.mem_append_right _ h))))) xb2 xo2 hxK hxZ (by decide) (hml.trans hl.1.symm) htab hlocks hW dX5_split_18 dX5_split_21 dX5_split_22 dX5_split_24 dX5_split_27 (Nat.le_of_ble_eq_true rfl) (Nat.le_of_ble_eq_true rfl) (Nat.le_refl _) (Nat.le_refl _)

set_option maxHeartbeats 4000000 in
set_option maxRecDepth 100000 in
theorem c_X5_split_noS_0 (l : Launch) (cg : Nat → ClassId) (D : va_G) (ad : Nat → Nat) (st : Nat → Nat → Int) (hst : l.stackTraces = false) (b : Nat → Nat → Int) (hX : XI st b) (d f : Int) (hd : 0 ≤ d ∧ d < 1825) (hf9 : 2 ≤ f ∧ f ≤ 5) (hno : bM b 0 = 4 ∨ ∃ j, j < bM b 0 ∧ bSD b 0 j = d) : TX l yX5_split wsX5_split ({ frames := 8, cells := 1, slots := 6, locals := 150 }) D vwCl (TY cg) 73 (celX cg) ad st [.ref (ad 0), .int (iI 0), .int (iI d), .int (iI f)] (xE3) := by
  refine mx_open (cc := cX5_split) (maxL := 5) (ret := (some .int)) (by decide) rfl (Nat.le_of_ble_eq_true rfl) ?_
  intro p e s m args below meth c hx hb hml hr hown hts hlocks hK hN hargs ls hl hW hxK hxZ htab
  have hown : s.vm.findClass RX5 = some m.cls := hown
  have hl : lv_has ls 5 [(0, .ref (ad 0)), (1, .int (iI 0)), (2, .int (iI d)), (3, .int (iI f))] := hl
  have inX1 : ∀ w ∈ wsX10, w ∈ wsX5_split := by decide +kernel
  have fn63 := hN.f (args := args) "GainsReckoner" 63 "GainsReckoner$Ledger" "splits" "LGainsReckoner$Splits;" (by decide +kernel)
  have hmm := hX.2.1.m hX.1.j (show 0 < 3 by omega)
  have hSS := hX.2.1.S hX.1.j (show 0 < 3 by omega)
  have hm4 := hSS.1
  refine lv_aload_n hx hb dX5_split_0 rfl (lv_at hl 0 rfl) ?_
  refine lv_iload_n hx hb dX5_split_1 rfl (lv_at hl 1 rfl) ?_
  refine lv_iload_n hx hb dX5_split_2 rfl (lv_at hl 2 rfl) ?_
  refine mk_goR (st9 := st) (va_runV (As := [.int (iI 0), .int (iI d)]) (rest := []) ⟨hx, hb, hml, hown, hts⟩ (c_X5_ledgerAt_0 l cg D ad st d (by omega)) (cwV 2 hts gX5_split_X5_ledgerAt rfl rfl rfl (by decide +kernel) ⟨Nat.le_of_ble_eq_true rfl, Nat.le_of_ble_eq_true rfl⟩) (mk_preV hK hN hW 0 (by decide) rfl rfl rfl) rfl rfl hl.1 rfl (lv_room (Nat.le_of_ble_eq_true rfl)) dX5_split_3 ⟨Nat.zero_le _, Nat.zero_le _⟩) hW (fun H locs hW => ?_)
  refine lv_astore (lv' := [(4, .ref (ad 9)), (0, .ref (ad 0)), (1, .int (iI 0)), (2, .int (iI d)), (3, .int (iI f))]) hx hb dX5_split_6 hl (by decide) rfl (fun ls hl => ?_)
  refine lv_iload_n hx hb dX5_split_8 rfl (lv_at hl 4 rfl) ?_
  refine mk_iconst hx hb (2) dX5_split_9 ?_
  refine mk_icmp_lt (tgt := 18) hx hb dX5_split_10 (by decide) (by omega) (by omega) (fun c_10 => ?_) (fun c_10 => ?_)
  · skip
    omega
  · skip
    refine lv_iload_n hx hb dX5_split_13 rfl (lv_at hl 4 rfl) ?_
    refine mk_iconst hx hb (5) dX5_split_14 ?_
    refine mk_icmp_le (tgt := 28) hx hb dX5_split_15 (by decide) (by omega) (by omega) (fun c_15 => ?_) (fun c_15 => ?_)
    · skip
      refine lv_aload hx hb dX5_split_28 (lv_at hl 0 rfl) ?_
      refine mk_getN (ci := 1) (C := RX1) (T := TX1) (N := 4) hx hb hts inX1 hown hK hW 9 (by decide) rfl rfl 1 (by decide) fn63 (fun _ h9 => h9) rfl dX5_split_30 ?_
      refine mk_goIE (EmbL0 cg ad) (va_runV (As := []) (rest := []) ⟨hx, hb, hml, hown, hts⟩ (c_X4_isFull l cg D (fun j => ad (embL 0 j)) (sub (embL 0) st) (bM b 0) hmm hm4) (cwV 0 hts gX5_split_X4_isFull rfl rfl rfl (by decide +kernel) ⟨Nat.le_of_ble_eq_true rfl, Nat.le_of_ble_eq_true rfl⟩) (mk_preV hK hN (hW.emb (EmbL0 cg ad)) 1 (by decide) rfl rfl rfl) rfl rfl hl.1 rfl (lv_room (Nat.le_of_ble_eq_true rfl)) dX5_split_33 ⟨Nat.zero_le _, Nat.zero_le _⟩) hW (fun z1 st1 hp33 H locs hW => ?_)
      obtain ⟨est1, hz1⟩ := hp33
      rw [est1, up_self (EmbL0 cg ad).2.1] at hW
      refine mk_if_ne (tgt := 51) hx hb dX5_split_36 (by decide) (by omega) (fun c_36 => ?_) (fun c_36 => ?_)
      · skip
        exact mx_throw (text := "no further split of the share, or none on that day") hx hb hst hown (by decide) (hts (.classLink RX5 77 xE3) (by decide +kernel)) (hts (.initialized xE3) (by decide +kernel)) (fun w h => hts w (List.mem_cons_of_mem _ (List.mem_append_left _ (List.mem_append_right _ h)))) xb3 xo3 hxK hxZ (by decide) (hml.trans hl.1.symm) htab hlocks hW dX5_split_51 dX5_split_54 dX5_split_55 dX5_split_57 dX5_split_60 (Nat.le_of_ble_eq_true rfl) (Nat.le_of_ble_eq_true rfl) (Nat.le_refl _) (Nat.le_refl _)
      · skip
        refine lv_aload hx hb dX5_split_39 (lv_at hl 0 rfl) ?_
        refine mk_getN (ci := 1) (C := RX1) (T := TX1) (N := 4) hx hb hts inX1 hown hK hW 9 (by decide) rfl rfl 1 (by decide) fn63 (fun _ h9 => h9) rfl dX5_split_41 ?_
        refine lv_iload_n hx hb dX5_split_44 rfl (lv_at hl 3 rfl) ?_
        refine mk_goIE (EmbL0 cg ad) (va_runV (As := [.int (iI d)]) (rest := []) ⟨hx, hb, hml, hown, hts⟩ (c_X4_hasDay l cg D (fun j => ad (embL 0 j)) (sub (embL 0) st) d (bM b 0) hmm hSS (by omega)) (cwV 1 hts gX5_split_X4_hasDay rfl rfl rfl (by decide +kernel) ⟨Nat.le_of_ble_eq_true rfl, Nat.le_of_ble_eq_true rfl⟩) (mk_preV hK hN (hW.emb (EmbL0 cg ad)) 1 (by decide) rfl rfl rfl) rfl rfl hl.1 rfl (lv_room (Nat.le_of_ble_eq_true rfl)) dX5_split_45 ⟨Nat.zero_le _, Nat.zero_le _⟩) hW (fun z2 st2 hp45 H locs hW => ?_)
        obtain ⟨est2, hz2⟩ := hp45
        rw [est2, up_self (EmbL0 cg ad).2.1] at hW
        have hz21 : z2 = 1 := by
          rcases hno with h | ⟨j, h1, h2⟩
          · omega
          · rcases hz2 with ⟨h3, -⟩ | ⟨h3, h4⟩
            · exact h3
            · exact absurd (by rw [((hX.2.1.2.2.2.1 0 (by omega)).2 j h1).1]; exact h2) (h4 j h1)
        refine mk_if_eq (tgt := 61) hx hb dX5_split_48 (by decide) (by omega) (fun c_48 => ?_) (fun c_48 => ?_)
        · skip
          omega
        · skip
          exact mx_throw (text := "no further split of the share, or none on that day") hx hb hst hown (by decide) (hts (.classLink RX5 77 xE3) (by decide +kernel)) (hts (.initialized xE3) (by decide +kernel)) (fun w h => hts w (List.mem_cons_of_mem _ (List.mem_append_left _ (List.mem_append_right _ h)))) xb3 xo3 hxK hxZ (by decide) (hml.trans hl.1.symm) htab hlocks hW dX5_split_51 dX5_split_54 dX5_split_55 dX5_split_57 dX5_split_60 (Nat.le_of_ble_eq_true rfl) (Nat.le_of_ble_eq_true rfl) (Nat.le_refl _) (Nat.le_refl _)
    · skip
      omega

set_option maxHeartbeats 4000000 in
set_option maxRecDepth 100000 in
theorem c_X5_split_noF_1 (l : Launch) (cg : Nat → ClassId) (D : va_G) (ad : Nat → Nat) (st : Nat → Nat → Int) (hst : l.stackTraces = false) (d f : Int) (hd : 0 ≤ d ∧ d < 1825) (hf9 : -2147483648 ≤ f ∧ f < 2147483648) (hno : ¬ (2 ≤ f ∧ f ≤ 5)) : TX l yX5_split wsX5_split ({ frames := 8, cells := 1, slots := 6, locals := 150 }) D vwCl (TY cg) 73 (celX cg) ad st [.ref (ad 0), .int (iI 1), .int (iI d), .int (iI f)] (xE2) := by
  refine mx_open (cc := cX5_split) (maxL := 5) (ret := (some .int)) (by decide) rfl (Nat.le_of_ble_eq_true rfl) ?_
  intro p e s m args below meth c hx hb hml hr hown hts hlocks hK hN hargs ls hl hW hxK hxZ htab
  have hown : s.vm.findClass RX5 = some m.cls := hown
  have hl : lv_has ls 5 [(0, .ref (ad 0)), (1, .int (iI 1)), (2, .int (iI d)), (3, .int (iI f))] := hl
  refine lv_aload_n hx hb dX5_split_0 rfl (lv_at hl 0 rfl) ?_
  refine lv_iload_n hx hb dX5_split_1 rfl (lv_at hl 1 rfl) ?_
  refine lv_iload_n hx hb dX5_split_2 rfl (lv_at hl 2 rfl) ?_
  refine mk_goR (st9 := st) (va_runV (As := [.int (iI 1), .int (iI d)]) (rest := []) ⟨hx, hb, hml, hown, hts⟩ (c_X5_ledgerAt_1 l cg D ad st d (by omega)) (cwV 2 hts gX5_split_X5_ledgerAt rfl rfl rfl (by decide +kernel) ⟨Nat.le_of_ble_eq_true rfl, Nat.le_of_ble_eq_true rfl⟩) (mk_preV hK hN hW 0 (by decide) rfl rfl rfl) rfl rfl hl.1 rfl (lv_room (Nat.le_of_ble_eq_true rfl)) dX5_split_3 ⟨Nat.zero_le _, Nat.zero_le _⟩) hW (fun H locs hW => ?_)
  refine lv_astore (lv' := [(4, .ref (ad 30)), (0, .ref (ad 0)), (1, .int (iI 1)), (2, .int (iI d)), (3, .int (iI f))]) hx hb dX5_split_6 hl (by decide) rfl (fun ls hl => ?_)
  refine lv_iload_n hx hb dX5_split_8 rfl (lv_at hl 4 rfl) ?_
  refine mk_iconst hx hb (2) dX5_split_9 ?_
  refine mk_icmp_lt (tgt := 18) hx hb dX5_split_10 (by decide) (by omega) (by omega) (fun c_10 => ?_) (fun c_10 => ?_)
  · skip
    exact mx_throw (text := "the factor is out of range") hx hb hst hown (by decide) (hts (.classLink RX5 56 xE2) (by decide +kernel)) (hts (.initialized xE2) (by decide +kernel)) (fun w h => hts w (List.mem_cons_of_mem _ (List.mem_append_left _ (List.mem_append_left _ (List.mem_append_right _ h))))) xb2 xo2 hxK hxZ (by decide) (hml.trans hl.1.symm) htab hlocks hW dX5_split_18 dX5_split_21 dX5_split_22 dX5_split_24 dX5_split_27 (Nat.le_of_ble_eq_true rfl) (Nat.le_of_ble_eq_true rfl) (Nat.le_refl _) (Nat.le_refl _)
  · skip
    refine lv_iload_n hx hb dX5_split_13 rfl (lv_at hl 4 rfl) ?_
    refine mk_iconst hx hb (5) dX5_split_14 ?_
    refine mk_icmp_le (tgt := 28) hx hb dX5_split_15 (by decide) (by omega) (by omega) (fun c_15 => ?_) (fun c_15 => ?_)
    · skip
      omega
    · skip
      exact mx_throw (text := "the factor is out of range") hx hb hst hown (by decide) (hts (.classLink RX5 56 xE2) (by decide +kernel)) (hts (.initialized xE2) (by decide +kernel)) (fun w h => hts w (List.mem_cons_of_mem _ (List.mem_append_left _ (List.mem_append_left _ (List.mem_append_right _ h))))) xb2 xo2 hxK hxZ (by decide) (hml.trans hl.1.symm) htab hlocks hW dX5_split_18 dX5_split_21 dX5_split_22 dX5_split_24 dX5_split_27 (Nat.le_of_ble_eq_true rfl) (Nat.le_of_ble_eq_true rfl) (Nat.le_refl _) (Nat.le_refl _)

set_option maxHeartbeats 4000000 in
set_option maxRecDepth 100000 in
theorem c_X5_split_noS_1 (l : Launch) (cg : Nat → ClassId) (D : va_G) (ad : Nat → Nat) (st : Nat → Nat → Int) (hst : l.stackTraces = false) (b : Nat → Nat → Int) (hX : XI st b) (d f : Int) (hd : 0 ≤ d ∧ d < 1825) (hf9 : 2 ≤ f ∧ f ≤ 5) (hno : bM b 1 = 4 ∨ ∃ j, j < bM b 1 ∧ bSD b 1 j = d) : TX l yX5_split wsX5_split ({ frames := 8, cells := 1, slots := 6, locals := 150 }) D vwCl (TY cg) 73 (celX cg) ad st [.ref (ad 0), .int (iI 1), .int (iI d), .int (iI f)] (xE3) := by
  refine mx_open (cc := cX5_split) (maxL := 5) (ret := (some .int)) (by decide) rfl (Nat.le_of_ble_eq_true rfl) ?_
  intro p e s m args below meth c hx hb hml hr hown hts hlocks hK hN hargs ls hl hW hxK hxZ htab
  have hown : s.vm.findClass RX5 = some m.cls := hown
  have hl : lv_has ls 5 [(0, .ref (ad 0)), (1, .int (iI 1)), (2, .int (iI d)), (3, .int (iI f))] := hl
  have inX1 : ∀ w ∈ wsX10, w ∈ wsX5_split := by decide +kernel
  have fn63 := hN.f (args := args) "GainsReckoner" 63 "GainsReckoner$Ledger" "splits" "LGainsReckoner$Splits;" (by decide +kernel)
  have hmm := hX.2.1.m hX.1.j (show 1 < 3 by omega)
  have hSS := hX.2.1.S hX.1.j (show 1 < 3 by omega)
  have hm4 := hSS.1
  refine lv_aload_n hx hb dX5_split_0 rfl (lv_at hl 0 rfl) ?_
  refine lv_iload_n hx hb dX5_split_1 rfl (lv_at hl 1 rfl) ?_
  refine lv_iload_n hx hb dX5_split_2 rfl (lv_at hl 2 rfl) ?_
  refine mk_goR (st9 := st) (va_runV (As := [.int (iI 1), .int (iI d)]) (rest := []) ⟨hx, hb, hml, hown, hts⟩ (c_X5_ledgerAt_1 l cg D ad st d (by omega)) (cwV 2 hts gX5_split_X5_ledgerAt rfl rfl rfl (by decide +kernel) ⟨Nat.le_of_ble_eq_true rfl, Nat.le_of_ble_eq_true rfl⟩) (mk_preV hK hN hW 0 (by decide) rfl rfl rfl) rfl rfl hl.1 rfl (lv_room (Nat.le_of_ble_eq_true rfl)) dX5_split_3 ⟨Nat.zero_le _, Nat.zero_le _⟩) hW (fun H locs hW => ?_)
  refine lv_astore (lv' := [(4, .ref (ad 30)), (0, .ref (ad 0)), (1, .int (iI 1)), (2, .int (iI d)), (3, .int (iI f))]) hx hb dX5_split_6 hl (by decide) rfl (fun ls hl => ?_)
  refine lv_iload_n hx hb dX5_split_8 rfl (lv_at hl 4 rfl) ?_
  refine mk_iconst hx hb (2) dX5_split_9 ?_
  refine mk_icmp_lt (tgt := 18) hx hb dX5_split_10 (by decide) (by omega) (by omega) (fun c_10 => ?_) (fun c_10 => ?_)
  · skip
    omega
  · skip
    refine lv_iload_n hx hb dX5_split_13 rfl (lv_at hl 4 rfl) ?_
    refine mk_iconst hx hb (5) dX5_split_14 ?_
    refine mk_icmp_le (tgt := 28) hx hb dX5_split_15 (by decide) (by omega) (by omega) (fun c_15 => ?_) (fun c_15 => ?_)
    · skip
      refine lv_aload hx hb dX5_split_28 (lv_at hl 0 rfl) ?_
      refine mk_getN (ci := 1) (C := RX1) (T := TX1) (N := 4) hx hb hts inX1 hown hK hW 30 (by decide) rfl rfl 1 (by decide) fn63 (fun _ h9 => h9) rfl dX5_split_30 ?_
      refine mk_goIE (EmbL1 cg ad) (va_runV (As := []) (rest := []) ⟨hx, hb, hml, hown, hts⟩ (c_X4_isFull l cg D (fun j => ad (embL 1 j)) (sub (embL 1) st) (bM b 1) hmm hm4) (cwV 0 hts gX5_split_X4_isFull rfl rfl rfl (by decide +kernel) ⟨Nat.le_of_ble_eq_true rfl, Nat.le_of_ble_eq_true rfl⟩) (mk_preV hK hN (hW.emb (EmbL1 cg ad)) 1 (by decide) rfl rfl rfl) rfl rfl hl.1 rfl (lv_room (Nat.le_of_ble_eq_true rfl)) dX5_split_33 ⟨Nat.zero_le _, Nat.zero_le _⟩) hW (fun z1 st1 hp33 H locs hW => ?_)
      obtain ⟨est1, hz1⟩ := hp33
      rw [est1, up_self (EmbL1 cg ad).2.1] at hW
      refine mk_if_ne (tgt := 51) hx hb dX5_split_36 (by decide) (by omega) (fun c_36 => ?_) (fun c_36 => ?_)
      · skip
        exact mx_throw (text := "no further split of the share, or none on that day") hx hb hst hown (by decide) (hts (.classLink RX5 77 xE3) (by decide +kernel)) (hts (.initialized xE3) (by decide +kernel)) (fun w h => hts w (List.mem_cons_of_mem _ (List.mem_append_left _ (List.mem_append_right _ h)))) xb3 xo3 hxK hxZ (by decide) (hml.trans hl.1.symm) htab hlocks hW dX5_split_51 dX5_split_54 dX5_split_55 dX5_split_57 dX5_split_60 (Nat.le_of_ble_eq_true rfl) (Nat.le_of_ble_eq_true rfl) (Nat.le_refl _) (Nat.le_refl _)
      · skip
        refine lv_aload hx hb dX5_split_39 (lv_at hl 0 rfl) ?_
        refine mk_getN (ci := 1) (C := RX1) (T := TX1) (N := 4) hx hb hts inX1 hown hK hW 30 (by decide) rfl rfl 1 (by decide) fn63 (fun _ h9 => h9) rfl dX5_split_41 ?_
        refine lv_iload_n hx hb dX5_split_44 rfl (lv_at hl 3 rfl) ?_
        refine mk_goIE (EmbL1 cg ad) (va_runV (As := [.int (iI d)]) (rest := []) ⟨hx, hb, hml, hown, hts⟩ (c_X4_hasDay l cg D (fun j => ad (embL 1 j)) (sub (embL 1) st) d (bM b 1) hmm hSS (by omega)) (cwV 1 hts gX5_split_X4_hasDay rfl rfl rfl (by decide +kernel) ⟨Nat.le_of_ble_eq_true rfl, Nat.le_of_ble_eq_true rfl⟩) (mk_preV hK hN (hW.emb (EmbL1 cg ad)) 1 (by decide) rfl rfl rfl) rfl rfl hl.1 rfl (lv_room (Nat.le_of_ble_eq_true rfl)) dX5_split_45 ⟨Nat.zero_le _, Nat.zero_le _⟩) hW (fun z2 st2 hp45 H locs hW => ?_)
        obtain ⟨est2, hz2⟩ := hp45
        rw [est2, up_self (EmbL1 cg ad).2.1] at hW
        have hz21 : z2 = 1 := by
          rcases hno with h | ⟨j, h1, h2⟩
          · omega
          · rcases hz2 with ⟨h3, -⟩ | ⟨h3, h4⟩
            · exact h3
            · exact absurd (by rw [((hX.2.1.2.2.2.1 1 (by omega)).2 j h1).1]; exact h2) (h4 j h1)
        refine mk_if_eq (tgt := 61) hx hb dX5_split_48 (by decide) (by omega) (fun c_48 => ?_) (fun c_48 => ?_)
        · skip
          omega
        · skip
          exact mx_throw (text := "no further split of the share, or none on that day") hx hb hst hown (by decide) (hts (.classLink RX5 77 xE3) (by decide +kernel)) (hts (.initialized xE3) (by decide +kernel)) (fun w h => hts w (List.mem_cons_of_mem _ (List.mem_append_left _ (List.mem_append_right _ h)))) xb3 xo3 hxK hxZ (by decide) (hml.trans hl.1.symm) htab hlocks hW dX5_split_51 dX5_split_54 dX5_split_55 dX5_split_57 dX5_split_60 (Nat.le_of_ble_eq_true rfl) (Nat.le_of_ble_eq_true rfl) (Nat.le_refl _) (Nat.le_refl _)
    · skip
      omega

set_option maxHeartbeats 4000000 in
set_option maxRecDepth 100000 in
theorem c_X5_split_noF_2 (l : Launch) (cg : Nat → ClassId) (D : va_G) (ad : Nat → Nat) (st : Nat → Nat → Int) (hst : l.stackTraces = false) (d f : Int) (hd : 0 ≤ d ∧ d < 1825) (hf9 : -2147483648 ≤ f ∧ f < 2147483648) (hno : ¬ (2 ≤ f ∧ f ≤ 5)) : TX l yX5_split wsX5_split ({ frames := 8, cells := 1, slots := 6, locals := 150 }) D vwCl (TY cg) 73 (celX cg) ad st [.ref (ad 0), .int (iI 2), .int (iI d), .int (iI f)] (xE2) := by
  refine mx_open (cc := cX5_split) (maxL := 5) (ret := (some .int)) (by decide) rfl (Nat.le_of_ble_eq_true rfl) ?_
  intro p e s m args below meth c hx hb hml hr hown hts hlocks hK hN hargs ls hl hW hxK hxZ htab
  have hown : s.vm.findClass RX5 = some m.cls := hown
  have hl : lv_has ls 5 [(0, .ref (ad 0)), (1, .int (iI 2)), (2, .int (iI d)), (3, .int (iI f))] := hl
  refine lv_aload_n hx hb dX5_split_0 rfl (lv_at hl 0 rfl) ?_
  refine lv_iload_n hx hb dX5_split_1 rfl (lv_at hl 1 rfl) ?_
  refine lv_iload_n hx hb dX5_split_2 rfl (lv_at hl 2 rfl) ?_
  refine mk_goR (st9 := st) (va_runV (As := [.int (iI 2), .int (iI d)]) (rest := []) ⟨hx, hb, hml, hown, hts⟩ (c_X5_ledgerAt_2 l cg D ad st d (by omega)) (cwV 2 hts gX5_split_X5_ledgerAt rfl rfl rfl (by decide +kernel) ⟨Nat.le_of_ble_eq_true rfl, Nat.le_of_ble_eq_true rfl⟩) (mk_preV hK hN hW 0 (by decide) rfl rfl rfl) rfl rfl hl.1 rfl (lv_room (Nat.le_of_ble_eq_true rfl)) dX5_split_3 ⟨Nat.zero_le _, Nat.zero_le _⟩) hW (fun H locs hW => ?_)
  refine lv_astore (lv' := [(4, .ref (ad 51)), (0, .ref (ad 0)), (1, .int (iI 2)), (2, .int (iI d)), (3, .int (iI f))]) hx hb dX5_split_6 hl (by decide) rfl (fun ls hl => ?_)
  refine lv_iload_n hx hb dX5_split_8 rfl (lv_at hl 4 rfl) ?_
  refine mk_iconst hx hb (2) dX5_split_9 ?_
  refine mk_icmp_lt (tgt := 18) hx hb dX5_split_10 (by decide) (by omega) (by omega) (fun c_10 => ?_) (fun c_10 => ?_)
  · skip
    exact mx_throw (text := "the factor is out of range") hx hb hst hown (by decide) (hts (.classLink RX5 56 xE2) (by decide +kernel)) (hts (.initialized xE2) (by decide +kernel)) (fun w h => hts w (List.mem_cons_of_mem _ (List.mem_append_left _ (List.mem_append_left _ (List.mem_append_right _ h))))) xb2 xo2 hxK hxZ (by decide) (hml.trans hl.1.symm) htab hlocks hW dX5_split_18 dX5_split_21 dX5_split_22 dX5_split_24 dX5_split_27 (Nat.le_of_ble_eq_true rfl) (Nat.le_of_ble_eq_true rfl) (Nat.le_refl _) (Nat.le_refl _)
  · skip
    refine lv_iload_n hx hb dX5_split_13 rfl (lv_at hl 4 rfl) ?_
    refine mk_iconst hx hb (5) dX5_split_14 ?_
    refine mk_icmp_le (tgt := 28) hx hb dX5_split_15 (by decide) (by omega) (by omega) (fun c_15 => ?_) (fun c_15 => ?_)
    · skip
      omega
    · skip
      exact mx_throw (text := "the factor is out of range") hx hb hst hown (by decide) (hts (.classLink RX5 56 xE2) (by decide +kernel)) (hts (.initialized xE2) (by decide +kernel)) (fun w h => hts w (List.mem_cons_of_mem _ (List.mem_append_left _ (List.mem_append_left _ (List.mem_append_right _ h))))) xb2 xo2 hxK hxZ (by decide) (hml.trans hl.1.symm) htab hlocks hW dX5_split_18 dX5_split_21 dX5_split_22 dX5_split_24 dX5_split_27 (Nat.le_of_ble_eq_true rfl) (Nat.le_of_ble_eq_true rfl) (Nat.le_refl _) (Nat.le_refl _)

set_option maxHeartbeats 4000000 in
set_option maxRecDepth 100000 in
theorem c_X5_split_noS_2 (l : Launch) (cg : Nat → ClassId) (D : va_G) (ad : Nat → Nat) (st : Nat → Nat → Int) (hst : l.stackTraces = false) (b : Nat → Nat → Int) (hX : XI st b) (d f : Int) (hd : 0 ≤ d ∧ d < 1825) (hf9 : 2 ≤ f ∧ f ≤ 5) (hno : bM b 2 = 4 ∨ ∃ j, j < bM b 2 ∧ bSD b 2 j = d) : TX l yX5_split wsX5_split ({ frames := 8, cells := 1, slots := 6, locals := 150 }) D vwCl (TY cg) 73 (celX cg) ad st [.ref (ad 0), .int (iI 2), .int (iI d), .int (iI f)] (xE3) := by
  refine mx_open (cc := cX5_split) (maxL := 5) (ret := (some .int)) (by decide) rfl (Nat.le_of_ble_eq_true rfl) ?_
  intro p e s m args below meth c hx hb hml hr hown hts hlocks hK hN hargs ls hl hW hxK hxZ htab
  have hown : s.vm.findClass RX5 = some m.cls := hown
  have hl : lv_has ls 5 [(0, .ref (ad 0)), (1, .int (iI 2)), (2, .int (iI d)), (3, .int (iI f))] := hl
  have inX1 : ∀ w ∈ wsX10, w ∈ wsX5_split := by decide +kernel
  have fn63 := hN.f (args := args) "GainsReckoner" 63 "GainsReckoner$Ledger" "splits" "LGainsReckoner$Splits;" (by decide +kernel)
  have hmm := hX.2.1.m hX.1.j (show 2 < 3 by omega)
  have hSS := hX.2.1.S hX.1.j (show 2 < 3 by omega)
  have hm4 := hSS.1
  refine lv_aload_n hx hb dX5_split_0 rfl (lv_at hl 0 rfl) ?_
  refine lv_iload_n hx hb dX5_split_1 rfl (lv_at hl 1 rfl) ?_
  refine lv_iload_n hx hb dX5_split_2 rfl (lv_at hl 2 rfl) ?_
  refine mk_goR (st9 := st) (va_runV (As := [.int (iI 2), .int (iI d)]) (rest := []) ⟨hx, hb, hml, hown, hts⟩ (c_X5_ledgerAt_2 l cg D ad st d (by omega)) (cwV 2 hts gX5_split_X5_ledgerAt rfl rfl rfl (by decide +kernel) ⟨Nat.le_of_ble_eq_true rfl, Nat.le_of_ble_eq_true rfl⟩) (mk_preV hK hN hW 0 (by decide) rfl rfl rfl) rfl rfl hl.1 rfl (lv_room (Nat.le_of_ble_eq_true rfl)) dX5_split_3 ⟨Nat.zero_le _, Nat.zero_le _⟩) hW (fun H locs hW => ?_)
  refine lv_astore (lv' := [(4, .ref (ad 51)), (0, .ref (ad 0)), (1, .int (iI 2)), (2, .int (iI d)), (3, .int (iI f))]) hx hb dX5_split_6 hl (by decide) rfl (fun ls hl => ?_)
  refine lv_iload_n hx hb dX5_split_8 rfl (lv_at hl 4 rfl) ?_
  refine mk_iconst hx hb (2) dX5_split_9 ?_
  refine mk_icmp_lt (tgt := 18) hx hb dX5_split_10 (by decide) (by omega) (by omega) (fun c_10 => ?_) (fun c_10 => ?_)
  · skip
    omega
  · skip
    refine lv_iload_n hx hb dX5_split_13 rfl (lv_at hl 4 rfl) ?_
    refine mk_iconst hx hb (5) dX5_split_14 ?_
    refine mk_icmp_le (tgt := 28) hx hb dX5_split_15 (by decide) (by omega) (by omega) (fun c_15 => ?_) (fun c_15 => ?_)
    · skip
      refine lv_aload hx hb dX5_split_28 (lv_at hl 0 rfl) ?_
      refine mk_getN (ci := 1) (C := RX1) (T := TX1) (N := 4) hx hb hts inX1 hown hK hW 51 (by decide) rfl rfl 1 (by decide) fn63 (fun _ h9 => h9) rfl dX5_split_30 ?_
      refine mk_goIE (EmbL2 cg ad) (va_runV (As := []) (rest := []) ⟨hx, hb, hml, hown, hts⟩ (c_X4_isFull l cg D (fun j => ad (embL 2 j)) (sub (embL 2) st) (bM b 2) hmm hm4) (cwV 0 hts gX5_split_X4_isFull rfl rfl rfl (by decide +kernel) ⟨Nat.le_of_ble_eq_true rfl, Nat.le_of_ble_eq_true rfl⟩) (mk_preV hK hN (hW.emb (EmbL2 cg ad)) 1 (by decide) rfl rfl rfl) rfl rfl hl.1 rfl (lv_room (Nat.le_of_ble_eq_true rfl)) dX5_split_33 ⟨Nat.zero_le _, Nat.zero_le _⟩) hW (fun z1 st1 hp33 H locs hW => ?_)
      obtain ⟨est1, hz1⟩ := hp33
      rw [est1, up_self (EmbL2 cg ad).2.1] at hW
      refine mk_if_ne (tgt := 51) hx hb dX5_split_36 (by decide) (by omega) (fun c_36 => ?_) (fun c_36 => ?_)
      · skip
        exact mx_throw (text := "no further split of the share, or none on that day") hx hb hst hown (by decide) (hts (.classLink RX5 77 xE3) (by decide +kernel)) (hts (.initialized xE3) (by decide +kernel)) (fun w h => hts w (List.mem_cons_of_mem _ (List.mem_append_left _ (List.mem_append_right _ h)))) xb3 xo3 hxK hxZ (by decide) (hml.trans hl.1.symm) htab hlocks hW dX5_split_51 dX5_split_54 dX5_split_55 dX5_split_57 dX5_split_60 (Nat.le_of_ble_eq_true rfl) (Nat.le_of_ble_eq_true rfl) (Nat.le_refl _) (Nat.le_refl _)
      · skip
        refine lv_aload hx hb dX5_split_39 (lv_at hl 0 rfl) ?_
        refine mk_getN (ci := 1) (C := RX1) (T := TX1) (N := 4) hx hb hts inX1 hown hK hW 51 (by decide) rfl rfl 1 (by decide) fn63 (fun _ h9 => h9) rfl dX5_split_41 ?_
        refine lv_iload_n hx hb dX5_split_44 rfl (lv_at hl 3 rfl) ?_
        refine mk_goIE (EmbL2 cg ad) (va_runV (As := [.int (iI d)]) (rest := []) ⟨hx, hb, hml, hown, hts⟩ (c_X4_hasDay l cg D (fun j => ad (embL 2 j)) (sub (embL 2) st) d (bM b 2) hmm hSS (by omega)) (cwV 1 hts gX5_split_X4_hasDay rfl rfl rfl (by decide +kernel) ⟨Nat.le_of_ble_eq_true rfl, Nat.le_of_ble_eq_true rfl⟩) (mk_preV hK hN (hW.emb (EmbL2 cg ad)) 1 (by decide) rfl rfl rfl) rfl rfl hl.1 rfl (lv_room (Nat.le_of_ble_eq_true rfl)) dX5_split_45 ⟨Nat.zero_le _, Nat.zero_le _⟩) hW (fun z2 st2 hp45 H locs hW => ?_)
        obtain ⟨est2, hz2⟩ := hp45
        rw [est2, up_self (EmbL2 cg ad).2.1] at hW
        have hz21 : z2 = 1 := by
          rcases hno with h | ⟨j, h1, h2⟩
          · omega
          · rcases hz2 with ⟨h3, -⟩ | ⟨h3, h4⟩
            · exact h3
            · exact absurd (by rw [((hX.2.1.2.2.2.1 2 (by omega)).2 j h1).1]; exact h2) (h4 j h1)
        refine mk_if_eq (tgt := 61) hx hb dX5_split_48 (by decide) (by omega) (fun c_48 => ?_) (fun c_48 => ?_)
        · skip
          omega
        · skip
          exact mx_throw (text := "no further split of the share, or none on that day") hx hb hst hown (by decide) (hts (.classLink RX5 77 xE3) (by decide +kernel)) (hts (.initialized xE3) (by decide +kernel)) (fun w h => hts w (List.mem_cons_of_mem _ (List.mem_append_left _ (List.mem_append_right _ h)))) xb3 xo3 hxK hxZ (by decide) (hml.trans hl.1.symm) htab hlocks hW dX5_split_51 dX5_split_54 dX5_split_55 dX5_split_57 dX5_split_60 (Nat.le_of_ble_eq_true rfl) (Nat.le_of_ble_eq_true rfl) (Nat.le_refl _) (Nat.le_refl _)
    · skip
      omega

set_option maxHeartbeats 4000000 in
set_option maxRecDepth 100000 in
theorem c_X5_cancel_noT (l : Launch) (cg : Nat → ClassId) (D : va_G) (ad : Nat → Nat) (st : Nat → Nat → Int) (hst : l.stackTraces = false) (b : Nat → Nat → Int) (hX : XI st b) (a : Int) (ha : -2147483648 ≤ a ∧ a < 2147483648) (hno : ¬ (0 ≤ a ∧ a < bN b)) : TX l yX5_cancel wsX5_cancel ({ frames := 8, cells := 1, slots := 6, locals := 150 }) D vwCl (TY cg) 73 (celX cg) ad st [.ref (ad 0), .int (iI a)] (xE1) := by
  refine mx_open (cc := cX5_cancel) (maxL := 3) (ret := none) (by decide) rfl (Nat.le_of_ble_eq_true rfl) ?_
  intro p e s m args below meth c hx hb hml hr hown hts hlocks hK hN hargs ls hl hW hxK hxZ htab
  have hown : s.vm.findClass RX5 = some m.cls := hown
  have hl : lv_has ls 3 [(0, .ref (ad 0)), (1, .int (iI a))] := hl
  have inX0 : ∀ w ∈ wsX00, w ∈ wsX5_cancel := by decide +kernel
  have inX5 : ∀ w ∈ wsX50, w ∈ wsX5_cancel := by decide +kernel
  have fl10 := hts (.fieldLink RX5 10 "GainsReckoner" "journal" "LGainsReckoner$Journal;") (by decide +kernel)
  have fn87 := hN.f (args := args) "GainsReckoner" 87 "GainsReckoner$Journal" "size" "I" (by decide +kernel)
  have hn6 := hX.1.n60
  refine lv_iload_n hx hb dX5_cancel_0 rfl (lv_at hl 1 rfl) ?_
  refine mk_if_lt (tgt := 15) hx hb dX5_cancel_1 (by decide) (by omega) (fun c_1 => ?_) (fun c_1 => ?_)
  · skip
    exact mx_throw (text := "there was no such trade") hx hb hst hown (by decide) (hts (.classLink RX5 88 xE1) (by decide +kernel)) (hts (.initialized xE1) (by decide +kernel)) (fun w h => hts w (List.mem_cons_of_mem _ (List.mem_append_left _ (List.mem_append_right _ h)))) xb1 xo1 hxK hxZ (by decide) (hml.trans hl.1.symm) htab hlocks hW dX5_cancel_15 dX5_cancel_18 dX5_cancel_19 dX5_cancel_21 dX5_cancel_24 (Nat.le_of_ble_eq_true rfl) (Nat.le_of_ble_eq_true rfl) (Nat.le_refl _) (Nat.le_refl _)
  · skip
    refine lv_iload_n hx hb dX5_cancel_4 rfl (lv_at hl 1 rfl) ?_
    refine lv_aload_n hx hb dX5_cancel_5 rfl (lv_at hl 0 rfl) ?_
    refine mk_get (ci := 5) (C := RX5) (T := TX5) (N := 4) hx hb hts inX5 hown hK hW 0 (by decide) rfl rfl 0 (by decide) fl10 (fun _ h9 => h9) rfl dX5_cancel_6 ?_
    refine mk_getN (ci := 0) (C := RX0) (T := TX0) (N := 7) hx hb hts inX0 hown hK hW 1 (by decide) rfl rfl 6 (by decide) fn87 (fun _ h9 => h9) rfl dX5_cancel_9 ?_
    refine mk_sayi (y := (((bN b) : Nat) : Int)) (hX.2.1.n hX.1.j) ?_
    refine mk_icmp_lt (tgt := 25) hx hb dX5_cancel_12 (by decide) (by omega) (by omega) (fun c_12 => ?_) (fun c_12 => ?_)
    · skip
      omega
    · skip
      exact mx_throw (text := "there was no such trade") hx hb hst hown (by decide) (hts (.classLink RX5 88 xE1) (by decide +kernel)) (hts (.initialized xE1) (by decide +kernel)) (fun w h => hts w (List.mem_cons_of_mem _ (List.mem_append_left _ (List.mem_append_right _ h)))) xb1 xo1 hxK hxZ (by decide) (hml.trans hl.1.symm) htab hlocks hW dX5_cancel_15 dX5_cancel_18 dX5_cancel_19 dX5_cancel_21 dX5_cancel_24 (Nat.le_of_ble_eq_true rfl) (Nat.le_of_ble_eq_true rfl) (Nat.le_refl _) (Nat.le_refl _)

set_option maxHeartbeats 4000000 in
set_option maxRecDepth 100000 in
theorem c_X5_cancel_noG (l : Launch) (cg : Nat → ClassId) (D : va_G) (ad : Nat → Nat) (st : Nat → Nat → Int) (hst : l.stackTraces = false) (b : Nat → Nat → Int) (hX : XI st b) (t : Nat) (ht : t < bN b) (hg : b 6 t = 1) : TX l yX5_cancel wsX5_cancel ({ frames := 8, cells := 1, slots := 6, locals := 150 }) D vwCl (TY cg) 73 (celX cg) ad st [.ref (ad 0), .int (iI ((t : Nat) : Int))] (xE3) := by
  refine mx_open (cc := cX5_cancel) (maxL := 3) (ret := none) (by decide) rfl (Nat.le_of_ble_eq_true rfl) ?_
  intro p e s m args below meth c hx hb hml hr hown hts hlocks hK hN hargs ls hl hW hxK hxZ htab
  have hown : s.vm.findClass RX5 = some m.cls := hown
  have hl : lv_has ls 3 [(0, .ref (ad 0)), (1, .int (iI ((t : Nat) : Int)))] := hl
  have inX0 : ∀ w ∈ wsX00, w ∈ wsX5_cancel := by decide +kernel
  have inX5 : ∀ w ∈ wsX50, w ∈ wsX5_cancel := by decide +kernel
  have fl10 := hts (.fieldLink RX5 10 "GainsReckoner" "journal" "LGainsReckoner$Journal;") (by decide +kernel)
  have fn87 := hN.f (args := args) "GainsReckoner" 87 "GainsReckoner$Journal" "size" "I" (by decide +kernel)
  have fn93 := hN.f (args := args) "GainsReckoner" 93 "GainsReckoner$Journal" "cancelled" "[Z" (by decide +kernel)
  have hn6 := hX.1.n60
  have hbt := hX.1.2.1.2 t ht
  have hxt := hX.2.1.2.2.1 t ht
  refine lv_iload_n hx hb dX5_cancel_0 rfl (lv_at hl 1 rfl) ?_
  refine mk_if_lt (tgt := 15) hx hb dX5_cancel_1 (by decide) (by omega) (fun c_1 => ?_) (fun c_1 => ?_)
  · skip
    omega
  · skip
    refine lv_iload_n hx hb dX5_cancel_4 rfl (lv_at hl 1 rfl) ?_
    refine lv_aload_n hx hb dX5_cancel_5 rfl (lv_at hl 0 rfl) ?_
    refine mk_get (ci := 5) (C := RX5) (T := TX5) (N := 4) hx hb hts inX5 hown hK hW 0 (by decide) rfl rfl 0 (by decide) fl10 (fun _ h9 => h9) rfl dX5_cancel_6 ?_
    refine mk_getN (ci := 0) (C := RX0) (T := TX0) (N := 7) hx hb hts inX0 hown hK hW 1 (by decide) rfl rfl 6 (by decide) fn87 (fun _ h9 => h9) rfl dX5_cancel_9 ?_
    refine mk_sayi (y := (((bN b) : Nat) : Int)) (hX.2.1.n hX.1.j) ?_
    refine mk_icmp_lt (tgt := 25) hx hb dX5_cancel_12 (by decide) (by omega) (by omega) (fun c_12 => ?_) (fun c_12 => ?_)
    · skip
      refine lv_aload_n hx hb dX5_cancel_25 rfl (lv_at hl 0 rfl) ?_
      refine mk_get (ci := 5) (C := RX5) (T := TX5) (N := 4) hx hb hts inX5 hown hK hW 0 (by decide) rfl rfl 0 (by decide) fl10 (fun _ h9 => h9) rfl dX5_cancel_26 ?_
      refine mk_getN (ci := 0) (C := RX0) (T := TX0) (N := 7) hx hb hts inX0 hown hK hW 1 (by decide) rfl rfl 1 (by decide) fn93 (fun _ h9 => h9) rfl dX5_cancel_29 ?_
      refine lv_iload_n hx hb dX5_cancel_32 rfl (lv_at hl 1 rfl) ?_
      refine mk_zald hx hb hK hW 3 (by decide) rfl 1 rfl (j := t) rfl (by omega) (by decide) dX5_cancel_33 ?_
      refine mk_sayi (y := (b 6 t)) hxt.2.2.2.2.2 ?_
      refine mk_if_eq (tgt := 47) hx hb dX5_cancel_34 (by decide) (by omega) (fun c_34 => ?_) (fun c_34 => ?_)
      · skip
        omega
      · skip
        exact mx_throw (text := "the trade was cancelled") hx hb hst hown (by decide) (hts (.classLink RX5 77 xE3) (by decide +kernel)) (hts (.initialized xE3) (by decide +kernel)) (fun w h => hts w (List.mem_cons_of_mem _ (List.mem_append_right _ h))) xb3 xo3 hxK hxZ (by decide) (hml.trans hl.1.symm) htab hlocks hW dX5_cancel_37 dX5_cancel_40 dX5_cancel_41 dX5_cancel_43 dX5_cancel_46 (Nat.le_of_ble_eq_true rfl) (Nat.le_of_ble_eq_true rfl) (Nat.le_refl _) (Nat.le_refl _)
    · skip
      omega

set_option maxHeartbeats 4000000 in
set_option maxRecDepth 100000 in
theorem c_X5_cancel_noS_0 (l : Launch) (cg : Nat → ClassId) (D : va_G) (ad : Nat → Nat) (st : Nat → Nat → Int) (hst : l.stackTraces = false) (b : Nat → Nat → Int) (hX : XI st b) (t : Nat) (ht : t < bN b) (hg : b 6 t = 0) (hs : b 5 t = 0) (hv : b 1 t = ((0 : Nat) : Int)) (hsp : ∃ e, b 2 t ≤ e ∧ bH b 0 e < bU b 0 t) : TX l yX5_cancel wsX5_cancel ({ frames := 8, cells := 1, slots := 6, locals := 150 }) D vwCl (TY cg) 73 (celX cg) ad st [.ref (ad 0), .int (iI ((t : Nat) : Int))] (xE3) := by
  refine mx_open (cc := cX5_cancel) (maxL := 3) (ret := none) (by decide) rfl (Nat.le_of_ble_eq_true rfl) ?_
  intro p e s m args below meth c hx hb hml hr hown hts hlocks hK hN hargs ls hl hW hxK hxZ htab
  have hown : s.vm.findClass RX5 = some m.cls := hown
  have hl : lv_has ls 3 [(0, .ref (ad 0)), (1, .int (iI ((t : Nat) : Int)))] := hl
  have inX0 : ∀ w ∈ wsX00, w ∈ wsX5_cancel := by decide +kernel
  have inX5 : ∀ w ∈ wsX50, w ∈ wsX5_cancel := by decide +kernel
  have fl10 := hts (.fieldLink RX5 10 "GainsReckoner" "journal" "LGainsReckoner$Journal;") (by decide +kernel)
  have fn87 := hN.f (args := args) "GainsReckoner" 87 "GainsReckoner$Journal" "size" "I" (by decide +kernel)
  have fn93 := hN.f (args := args) "GainsReckoner" 93 "GainsReckoner$Journal" "cancelled" "[Z" (by decide +kernel)
  have fn99 := hN.f (args := args) "GainsReckoner" 99 "GainsReckoner$Journal" "share" "[I" (by decide +kernel)
  have fn102 := hN.f (args := args) "GainsReckoner" 102 "GainsReckoner$Journal" "day" "[I" (by decide +kernel)
  have fn105 := hN.f (args := args) "GainsReckoner" 105 "GainsReckoner$Journal" "sale" "[Z" (by decide +kernel)
  have fn108 := hN.f (args := args) "GainsReckoner" 108 "GainsReckoner$Journal" "count" "[I" (by decide +kernel)
  have hn6 := hX.1.n60
  have hbt := hX.1.2.1.2 t ht
  have hxt := hX.2.1.2.2.1 t ht
  refine lv_iload_n hx hb dX5_cancel_0 rfl (lv_at hl 1 rfl) ?_
  refine mk_if_lt (tgt := 15) hx hb dX5_cancel_1 (by decide) (by omega) (fun c_1 => ?_) (fun c_1 => ?_)
  · skip
    omega
  · skip
    refine lv_iload_n hx hb dX5_cancel_4 rfl (lv_at hl 1 rfl) ?_
    refine lv_aload_n hx hb dX5_cancel_5 rfl (lv_at hl 0 rfl) ?_
    refine mk_get (ci := 5) (C := RX5) (T := TX5) (N := 4) hx hb hts inX5 hown hK hW 0 (by decide) rfl rfl 0 (by decide) fl10 (fun _ h9 => h9) rfl dX5_cancel_6 ?_
    refine mk_getN (ci := 0) (C := RX0) (T := TX0) (N := 7) hx hb hts inX0 hown hK hW 1 (by decide) rfl rfl 6 (by decide) fn87 (fun _ h9 => h9) rfl dX5_cancel_9 ?_
    refine mk_sayi (y := (((bN b) : Nat) : Int)) (hX.2.1.n hX.1.j) ?_
    refine mk_icmp_lt (tgt := 25) hx hb dX5_cancel_12 (by decide) (by omega) (by omega) (fun c_12 => ?_) (fun c_12 => ?_)
    · skip
      refine lv_aload_n hx hb dX5_cancel_25 rfl (lv_at hl 0 rfl) ?_
      refine mk_get (ci := 5) (C := RX5) (T := TX5) (N := 4) hx hb hts inX5 hown hK hW 0 (by decide) rfl rfl 0 (by decide) fl10 (fun _ h9 => h9) rfl dX5_cancel_26 ?_
      refine mk_getN (ci := 0) (C := RX0) (T := TX0) (N := 7) hx hb hts inX0 hown hK hW 1 (by decide) rfl rfl 1 (by decide) fn93 (fun _ h9 => h9) rfl dX5_cancel_29 ?_
      refine lv_iload_n hx hb dX5_cancel_32 rfl (lv_at hl 1 rfl) ?_
      refine mk_zald hx hb hK hW 3 (by decide) rfl 1 rfl (j := t) rfl (by omega) (by decide) dX5_cancel_33 ?_
      refine mk_sayi (y := (b 6 t)) hxt.2.2.2.2.2 ?_
      refine mk_if_eq (tgt := 47) hx hb dX5_cancel_34 (by decide) (by omega) (fun c_34 => ?_) (fun c_34 => ?_)
      · skip
        refine lv_aload_n hx hb dX5_cancel_47 rfl (lv_at hl 0 rfl) ?_
        refine lv_aload_n hx hb dX5_cancel_48 rfl (lv_at hl 0 rfl) ?_
        refine mk_get (ci := 5) (C := RX5) (T := TX5) (N := 4) hx hb hts inX5 hown hK hW 0 (by decide) rfl rfl 0 (by decide) fl10 (fun _ h9 => h9) rfl dX5_cancel_49 ?_
        refine mk_getN (ci := 0) (C := RX0) (T := TX0) (N := 7) hx hb hts inX0 hown hK hW 1 (by decide) rfl rfl 2 (by decide) fn99 (fun _ h9 => h9) rfl dX5_cancel_52 ?_
        refine lv_iload_n hx hb dX5_cancel_55 rfl (lv_at hl 1 rfl) ?_
        refine mk_iald hx hb hK hW 4 (by decide) rfl 0 rfl (j := t) rfl (by omega) (by decide) dX5_cancel_56 ?_
        refine mk_sayi (y := 0) (hxt.1.trans hv) ?_
        refine lv_aload_n hx hb dX5_cancel_57 rfl (lv_at hl 0 rfl) ?_
        refine mk_get (ci := 5) (C := RX5) (T := TX5) (N := 4) hx hb hts inX5 hown hK hW 0 (by decide) rfl rfl 0 (by decide) fl10 (fun _ h9 => h9) rfl dX5_cancel_58 ?_
        refine mk_getN (ci := 0) (C := RX0) (T := TX0) (N := 7) hx hb hts inX0 hown hK hW 1 (by decide) rfl rfl 3 (by decide) fn102 (fun _ h9 => h9) rfl dX5_cancel_61 ?_
        refine lv_iload_n hx hb dX5_cancel_64 rfl (lv_at hl 1 rfl) ?_
        refine mk_iald hx hb hK hW 5 (by decide) rfl 0 rfl (j := t) rfl (by omega) (by decide) dX5_cancel_65 ?_
        refine mk_sayi (y := (b 2 t)) hxt.2.1 ?_
        refine mk_goR (st9 := st) (va_runV (As := [.int (iI 0), .int (iI (b 2 t))]) (rest := []) ⟨hx, hb, hml, hown, hts⟩ (c_X5_ledgerAt_0 l cg D ad st (b 2 t) hbt.2.2.2.1) (cwV 2 hts gX5_cancel_X5_ledgerAt rfl rfl rfl (by decide +kernel) ⟨Nat.le_of_ble_eq_true rfl, Nat.le_of_ble_eq_true rfl⟩) (mk_preV hK hN hW 0 (by decide) rfl rfl rfl) rfl rfl hl.1 rfl (lv_room (Nat.le_of_ble_eq_true rfl)) dX5_cancel_66 ⟨Nat.zero_le _, Nat.zero_le _⟩) hW (fun H locs hW => ?_)
        refine lv_astore_n (lv' := [(2, .ref (ad 9)), (0, .ref (ad 0)), (1, .int (iI ((t : Nat) : Int)))]) hx hb dX5_cancel_69 rfl hl (by decide) rfl (fun ls hl => ?_)
        refine lv_aload_n hx hb dX5_cancel_70 rfl (lv_at hl 1 rfl) ?_
        refine mk_get (ci := 5) (C := RX5) (T := TX5) (N := 4) hx hb hts inX5 hown hK hW 0 (by decide) rfl rfl 0 (by decide) fl10 (fun _ h9 => h9) rfl dX5_cancel_71 ?_
        refine mk_getN (ci := 0) (C := RX0) (T := TX0) (N := 7) hx hb hts inX0 hown hK hW 1 (by decide) rfl rfl 0 (by decide) fn105 (fun _ h9 => h9) rfl dX5_cancel_74 ?_
        refine lv_iload_n hx hb dX5_cancel_77 rfl (lv_at hl 2 rfl) ?_
        refine mk_zald hx hb hK hW 2 (by decide) rfl 1 rfl (j := t) rfl (by omega) (by decide) dX5_cancel_78 ?_
        refine mk_sayi (y := (b 5 t)) hxt.2.2.2.2.1 ?_
        refine mk_if_ne (tgt := 104) hx hb dX5_cancel_79 (by decide) (by omega) (fun c_79 => ?_) (fun c_79 => ?_)
        · skip
          omega
        · skip
          refine lv_aload_n hx hb dX5_cancel_82 rfl (lv_at hl 0 rfl) ?_
          refine lv_aload_n hx hb dX5_cancel_83 rfl (lv_at hl 1 rfl) ?_
          refine mk_get (ci := 5) (C := RX5) (T := TX5) (N := 4) hx hb hts inX5 hown hK hW 0 (by decide) rfl rfl 0 (by decide) fl10 (fun _ h9 => h9) rfl dX5_cancel_84 ?_
          refine mk_getN (ci := 0) (C := RX0) (T := TX0) (N := 7) hx hb hts inX0 hown hK hW 1 (by decide) rfl rfl 3 (by decide) fn102 (fun _ h9 => h9) rfl dX5_cancel_87 ?_
          refine lv_iload_n hx hb dX5_cancel_90 rfl (lv_at hl 2 rfl) ?_
          refine mk_iald hx hb hK hW 5 (by decide) rfl 0 rfl (j := t) rfl (by omega) (by decide) dX5_cancel_91 ?_
          refine mk_sayi (y := (b 2 t)) hxt.2.1 ?_
          refine lv_aload_n hx hb dX5_cancel_92 rfl (lv_at hl 1 rfl) ?_
          refine mk_get (ci := 5) (C := RX5) (T := TX5) (N := 4) hx hb hts inX5 hown hK hW 0 (by decide) rfl rfl 0 (by decide) fl10 (fun _ h9 => h9) rfl dX5_cancel_93 ?_
          refine mk_getN (ci := 0) (C := RX0) (T := TX0) (N := 7) hx hb hts inX0 hown hK hW 1 (by decide) rfl rfl 4 (by decide) fn108 (fun _ h9 => h9) rfl dX5_cancel_96 ?_
          refine lv_iload_n hx hb dX5_cancel_99 rfl (lv_at hl 2 rfl) ?_
          refine mk_iald hx hb hK hW 6 (by decide) rfl 0 rfl (j := t) rfl (by omega) (by decide) dX5_cancel_100 ?_
          refine mk_sayi (y := (b 3 t)) hxt.2.2.1 ?_
          exact mx_go (vx_runS (As := [.ref (ad 9), .int (iI (b 2 t)), .int (iI (b 3 t))]) (rest := []) ⟨hx, hb, hml, hown, hts⟩ (c_X5_checkCanSpare_no_0 l cg D ad st hst b hX (b 2 t) (b 3 t) hbt.2.2.2.1 hbt.2.2.2.2.1 hsp) (cwS 3 hts gX5_cancel_X5_checkCanSpare rfl rfl rfl (by decide +kernel) ⟨Nat.le_of_ble_eq_true rfl, Nat.le_of_ble_eq_true rfl⟩) (mx_preS hK hN hxK hxZ hW) rfl rfl hl.1 rfl (lv_room (Nat.le_of_ble_eq_true rfl)) dX5_cancel_101 ⟨Nat.le_refl _, Nat.le_refl _⟩) hW (fun ce q9 H1 locs1 hW1 _ hce hcv hcl => mx_out htab hlocks hW1 hce hcv hcl)
      · skip
        omega
    · skip
      omega

set_option maxHeartbeats 4000000 in
set_option maxRecDepth 100000 in
theorem c_X5_cancel_noS_1 (l : Launch) (cg : Nat → ClassId) (D : va_G) (ad : Nat → Nat) (st : Nat → Nat → Int) (hst : l.stackTraces = false) (b : Nat → Nat → Int) (hX : XI st b) (t : Nat) (ht : t < bN b) (hg : b 6 t = 0) (hs : b 5 t = 0) (hv : b 1 t = ((1 : Nat) : Int)) (hsp : ∃ e, b 2 t ≤ e ∧ bH b 1 e < bU b 1 t) : TX l yX5_cancel wsX5_cancel ({ frames := 8, cells := 1, slots := 6, locals := 150 }) D vwCl (TY cg) 73 (celX cg) ad st [.ref (ad 0), .int (iI ((t : Nat) : Int))] (xE3) := by
  refine mx_open (cc := cX5_cancel) (maxL := 3) (ret := none) (by decide) rfl (Nat.le_of_ble_eq_true rfl) ?_
  intro p e s m args below meth c hx hb hml hr hown hts hlocks hK hN hargs ls hl hW hxK hxZ htab
  have hown : s.vm.findClass RX5 = some m.cls := hown
  have hl : lv_has ls 3 [(0, .ref (ad 0)), (1, .int (iI ((t : Nat) : Int)))] := hl
  have inX0 : ∀ w ∈ wsX00, w ∈ wsX5_cancel := by decide +kernel
  have inX5 : ∀ w ∈ wsX50, w ∈ wsX5_cancel := by decide +kernel
  have fl10 := hts (.fieldLink RX5 10 "GainsReckoner" "journal" "LGainsReckoner$Journal;") (by decide +kernel)
  have fn87 := hN.f (args := args) "GainsReckoner" 87 "GainsReckoner$Journal" "size" "I" (by decide +kernel)
  have fn93 := hN.f (args := args) "GainsReckoner" 93 "GainsReckoner$Journal" "cancelled" "[Z" (by decide +kernel)
  have fn99 := hN.f (args := args) "GainsReckoner" 99 "GainsReckoner$Journal" "share" "[I" (by decide +kernel)
  have fn102 := hN.f (args := args) "GainsReckoner" 102 "GainsReckoner$Journal" "day" "[I" (by decide +kernel)
  have fn105 := hN.f (args := args) "GainsReckoner" 105 "GainsReckoner$Journal" "sale" "[Z" (by decide +kernel)
  have fn108 := hN.f (args := args) "GainsReckoner" 108 "GainsReckoner$Journal" "count" "[I" (by decide +kernel)
  have hn6 := hX.1.n60
  have hbt := hX.1.2.1.2 t ht
  have hxt := hX.2.1.2.2.1 t ht
  refine lv_iload_n hx hb dX5_cancel_0 rfl (lv_at hl 1 rfl) ?_
  refine mk_if_lt (tgt := 15) hx hb dX5_cancel_1 (by decide) (by omega) (fun c_1 => ?_) (fun c_1 => ?_)
  · skip
    omega
  · skip
    refine lv_iload_n hx hb dX5_cancel_4 rfl (lv_at hl 1 rfl) ?_
    refine lv_aload_n hx hb dX5_cancel_5 rfl (lv_at hl 0 rfl) ?_
    refine mk_get (ci := 5) (C := RX5) (T := TX5) (N := 4) hx hb hts inX5 hown hK hW 0 (by decide) rfl rfl 0 (by decide) fl10 (fun _ h9 => h9) rfl dX5_cancel_6 ?_
    refine mk_getN (ci := 0) (C := RX0) (T := TX0) (N := 7) hx hb hts inX0 hown hK hW 1 (by decide) rfl rfl 6 (by decide) fn87 (fun _ h9 => h9) rfl dX5_cancel_9 ?_
    refine mk_sayi (y := (((bN b) : Nat) : Int)) (hX.2.1.n hX.1.j) ?_
    refine mk_icmp_lt (tgt := 25) hx hb dX5_cancel_12 (by decide) (by omega) (by omega) (fun c_12 => ?_) (fun c_12 => ?_)
    · skip
      refine lv_aload_n hx hb dX5_cancel_25 rfl (lv_at hl 0 rfl) ?_
      refine mk_get (ci := 5) (C := RX5) (T := TX5) (N := 4) hx hb hts inX5 hown hK hW 0 (by decide) rfl rfl 0 (by decide) fl10 (fun _ h9 => h9) rfl dX5_cancel_26 ?_
      refine mk_getN (ci := 0) (C := RX0) (T := TX0) (N := 7) hx hb hts inX0 hown hK hW 1 (by decide) rfl rfl 1 (by decide) fn93 (fun _ h9 => h9) rfl dX5_cancel_29 ?_
      refine lv_iload_n hx hb dX5_cancel_32 rfl (lv_at hl 1 rfl) ?_
      refine mk_zald hx hb hK hW 3 (by decide) rfl 1 rfl (j := t) rfl (by omega) (by decide) dX5_cancel_33 ?_
      refine mk_sayi (y := (b 6 t)) hxt.2.2.2.2.2 ?_
      refine mk_if_eq (tgt := 47) hx hb dX5_cancel_34 (by decide) (by omega) (fun c_34 => ?_) (fun c_34 => ?_)
      · skip
        refine lv_aload_n hx hb dX5_cancel_47 rfl (lv_at hl 0 rfl) ?_
        refine lv_aload_n hx hb dX5_cancel_48 rfl (lv_at hl 0 rfl) ?_
        refine mk_get (ci := 5) (C := RX5) (T := TX5) (N := 4) hx hb hts inX5 hown hK hW 0 (by decide) rfl rfl 0 (by decide) fl10 (fun _ h9 => h9) rfl dX5_cancel_49 ?_
        refine mk_getN (ci := 0) (C := RX0) (T := TX0) (N := 7) hx hb hts inX0 hown hK hW 1 (by decide) rfl rfl 2 (by decide) fn99 (fun _ h9 => h9) rfl dX5_cancel_52 ?_
        refine lv_iload_n hx hb dX5_cancel_55 rfl (lv_at hl 1 rfl) ?_
        refine mk_iald hx hb hK hW 4 (by decide) rfl 0 rfl (j := t) rfl (by omega) (by decide) dX5_cancel_56 ?_
        refine mk_sayi (y := 1) (hxt.1.trans hv) ?_
        refine lv_aload_n hx hb dX5_cancel_57 rfl (lv_at hl 0 rfl) ?_
        refine mk_get (ci := 5) (C := RX5) (T := TX5) (N := 4) hx hb hts inX5 hown hK hW 0 (by decide) rfl rfl 0 (by decide) fl10 (fun _ h9 => h9) rfl dX5_cancel_58 ?_
        refine mk_getN (ci := 0) (C := RX0) (T := TX0) (N := 7) hx hb hts inX0 hown hK hW 1 (by decide) rfl rfl 3 (by decide) fn102 (fun _ h9 => h9) rfl dX5_cancel_61 ?_
        refine lv_iload_n hx hb dX5_cancel_64 rfl (lv_at hl 1 rfl) ?_
        refine mk_iald hx hb hK hW 5 (by decide) rfl 0 rfl (j := t) rfl (by omega) (by decide) dX5_cancel_65 ?_
        refine mk_sayi (y := (b 2 t)) hxt.2.1 ?_
        refine mk_goR (st9 := st) (va_runV (As := [.int (iI 1), .int (iI (b 2 t))]) (rest := []) ⟨hx, hb, hml, hown, hts⟩ (c_X5_ledgerAt_1 l cg D ad st (b 2 t) hbt.2.2.2.1) (cwV 2 hts gX5_cancel_X5_ledgerAt rfl rfl rfl (by decide +kernel) ⟨Nat.le_of_ble_eq_true rfl, Nat.le_of_ble_eq_true rfl⟩) (mk_preV hK hN hW 0 (by decide) rfl rfl rfl) rfl rfl hl.1 rfl (lv_room (Nat.le_of_ble_eq_true rfl)) dX5_cancel_66 ⟨Nat.zero_le _, Nat.zero_le _⟩) hW (fun H locs hW => ?_)
        refine lv_astore_n (lv' := [(2, .ref (ad 30)), (0, .ref (ad 0)), (1, .int (iI ((t : Nat) : Int)))]) hx hb dX5_cancel_69 rfl hl (by decide) rfl (fun ls hl => ?_)
        refine lv_aload_n hx hb dX5_cancel_70 rfl (lv_at hl 1 rfl) ?_
        refine mk_get (ci := 5) (C := RX5) (T := TX5) (N := 4) hx hb hts inX5 hown hK hW 0 (by decide) rfl rfl 0 (by decide) fl10 (fun _ h9 => h9) rfl dX5_cancel_71 ?_
        refine mk_getN (ci := 0) (C := RX0) (T := TX0) (N := 7) hx hb hts inX0 hown hK hW 1 (by decide) rfl rfl 0 (by decide) fn105 (fun _ h9 => h9) rfl dX5_cancel_74 ?_
        refine lv_iload_n hx hb dX5_cancel_77 rfl (lv_at hl 2 rfl) ?_
        refine mk_zald hx hb hK hW 2 (by decide) rfl 1 rfl (j := t) rfl (by omega) (by decide) dX5_cancel_78 ?_
        refine mk_sayi (y := (b 5 t)) hxt.2.2.2.2.1 ?_
        refine mk_if_ne (tgt := 104) hx hb dX5_cancel_79 (by decide) (by omega) (fun c_79 => ?_) (fun c_79 => ?_)
        · skip
          omega
        · skip
          refine lv_aload_n hx hb dX5_cancel_82 rfl (lv_at hl 0 rfl) ?_
          refine lv_aload_n hx hb dX5_cancel_83 rfl (lv_at hl 1 rfl) ?_
          refine mk_get (ci := 5) (C := RX5) (T := TX5) (N := 4) hx hb hts inX5 hown hK hW 0 (by decide) rfl rfl 0 (by decide) fl10 (fun _ h9 => h9) rfl dX5_cancel_84 ?_
          refine mk_getN (ci := 0) (C := RX0) (T := TX0) (N := 7) hx hb hts inX0 hown hK hW 1 (by decide) rfl rfl 3 (by decide) fn102 (fun _ h9 => h9) rfl dX5_cancel_87 ?_
          refine lv_iload_n hx hb dX5_cancel_90 rfl (lv_at hl 2 rfl) ?_
          refine mk_iald hx hb hK hW 5 (by decide) rfl 0 rfl (j := t) rfl (by omega) (by decide) dX5_cancel_91 ?_
          refine mk_sayi (y := (b 2 t)) hxt.2.1 ?_
          refine lv_aload_n hx hb dX5_cancel_92 rfl (lv_at hl 1 rfl) ?_
          refine mk_get (ci := 5) (C := RX5) (T := TX5) (N := 4) hx hb hts inX5 hown hK hW 0 (by decide) rfl rfl 0 (by decide) fl10 (fun _ h9 => h9) rfl dX5_cancel_93 ?_
          refine mk_getN (ci := 0) (C := RX0) (T := TX0) (N := 7) hx hb hts inX0 hown hK hW 1 (by decide) rfl rfl 4 (by decide) fn108 (fun _ h9 => h9) rfl dX5_cancel_96 ?_
          refine lv_iload_n hx hb dX5_cancel_99 rfl (lv_at hl 2 rfl) ?_
          refine mk_iald hx hb hK hW 6 (by decide) rfl 0 rfl (j := t) rfl (by omega) (by decide) dX5_cancel_100 ?_
          refine mk_sayi (y := (b 3 t)) hxt.2.2.1 ?_
          exact mx_go (vx_runS (As := [.ref (ad 30), .int (iI (b 2 t)), .int (iI (b 3 t))]) (rest := []) ⟨hx, hb, hml, hown, hts⟩ (c_X5_checkCanSpare_no_1 l cg D ad st hst b hX (b 2 t) (b 3 t) hbt.2.2.2.1 hbt.2.2.2.2.1 hsp) (cwS 3 hts gX5_cancel_X5_checkCanSpare rfl rfl rfl (by decide +kernel) ⟨Nat.le_of_ble_eq_true rfl, Nat.le_of_ble_eq_true rfl⟩) (mx_preS hK hN hxK hxZ hW) rfl rfl hl.1 rfl (lv_room (Nat.le_of_ble_eq_true rfl)) dX5_cancel_101 ⟨Nat.le_refl _, Nat.le_refl _⟩) hW (fun ce q9 H1 locs1 hW1 _ hce hcv hcl => mx_out htab hlocks hW1 hce hcv hcl)
      · skip
        omega
    · skip
      omega

set_option maxHeartbeats 4000000 in
set_option maxRecDepth 100000 in
theorem c_X5_cancel_noS_2 (l : Launch) (cg : Nat → ClassId) (D : va_G) (ad : Nat → Nat) (st : Nat → Nat → Int) (hst : l.stackTraces = false) (b : Nat → Nat → Int) (hX : XI st b) (t : Nat) (ht : t < bN b) (hg : b 6 t = 0) (hs : b 5 t = 0) (hv : b 1 t = ((2 : Nat) : Int)) (hsp : ∃ e, b 2 t ≤ e ∧ bH b 2 e < bU b 2 t) : TX l yX5_cancel wsX5_cancel ({ frames := 8, cells := 1, slots := 6, locals := 150 }) D vwCl (TY cg) 73 (celX cg) ad st [.ref (ad 0), .int (iI ((t : Nat) : Int))] (xE3) := by
  refine mx_open (cc := cX5_cancel) (maxL := 3) (ret := none) (by decide) rfl (Nat.le_of_ble_eq_true rfl) ?_
  intro p e s m args below meth c hx hb hml hr hown hts hlocks hK hN hargs ls hl hW hxK hxZ htab
  have hown : s.vm.findClass RX5 = some m.cls := hown
  have hl : lv_has ls 3 [(0, .ref (ad 0)), (1, .int (iI ((t : Nat) : Int)))] := hl
  have inX0 : ∀ w ∈ wsX00, w ∈ wsX5_cancel := by decide +kernel
  have inX5 : ∀ w ∈ wsX50, w ∈ wsX5_cancel := by decide +kernel
  have fl10 := hts (.fieldLink RX5 10 "GainsReckoner" "journal" "LGainsReckoner$Journal;") (by decide +kernel)
  have fn87 := hN.f (args := args) "GainsReckoner" 87 "GainsReckoner$Journal" "size" "I" (by decide +kernel)
  have fn93 := hN.f (args := args) "GainsReckoner" 93 "GainsReckoner$Journal" "cancelled" "[Z" (by decide +kernel)
  have fn99 := hN.f (args := args) "GainsReckoner" 99 "GainsReckoner$Journal" "share" "[I" (by decide +kernel)
  have fn102 := hN.f (args := args) "GainsReckoner" 102 "GainsReckoner$Journal" "day" "[I" (by decide +kernel)
  have fn105 := hN.f (args := args) "GainsReckoner" 105 "GainsReckoner$Journal" "sale" "[Z" (by decide +kernel)
  have fn108 := hN.f (args := args) "GainsReckoner" 108 "GainsReckoner$Journal" "count" "[I" (by decide +kernel)
  have hn6 := hX.1.n60
  have hbt := hX.1.2.1.2 t ht
  have hxt := hX.2.1.2.2.1 t ht
  refine lv_iload_n hx hb dX5_cancel_0 rfl (lv_at hl 1 rfl) ?_
  refine mk_if_lt (tgt := 15) hx hb dX5_cancel_1 (by decide) (by omega) (fun c_1 => ?_) (fun c_1 => ?_)
  · skip
    omega
  · skip
    refine lv_iload_n hx hb dX5_cancel_4 rfl (lv_at hl 1 rfl) ?_
    refine lv_aload_n hx hb dX5_cancel_5 rfl (lv_at hl 0 rfl) ?_
    refine mk_get (ci := 5) (C := RX5) (T := TX5) (N := 4) hx hb hts inX5 hown hK hW 0 (by decide) rfl rfl 0 (by decide) fl10 (fun _ h9 => h9) rfl dX5_cancel_6 ?_
    refine mk_getN (ci := 0) (C := RX0) (T := TX0) (N := 7) hx hb hts inX0 hown hK hW 1 (by decide) rfl rfl 6 (by decide) fn87 (fun _ h9 => h9) rfl dX5_cancel_9 ?_
    refine mk_sayi (y := (((bN b) : Nat) : Int)) (hX.2.1.n hX.1.j) ?_
    refine mk_icmp_lt (tgt := 25) hx hb dX5_cancel_12 (by decide) (by omega) (by omega) (fun c_12 => ?_) (fun c_12 => ?_)
    · skip
      refine lv_aload_n hx hb dX5_cancel_25 rfl (lv_at hl 0 rfl) ?_
      refine mk_get (ci := 5) (C := RX5) (T := TX5) (N := 4) hx hb hts inX5 hown hK hW 0 (by decide) rfl rfl 0 (by decide) fl10 (fun _ h9 => h9) rfl dX5_cancel_26 ?_
      refine mk_getN (ci := 0) (C := RX0) (T := TX0) (N := 7) hx hb hts inX0 hown hK hW 1 (by decide) rfl rfl 1 (by decide) fn93 (fun _ h9 => h9) rfl dX5_cancel_29 ?_
      refine lv_iload_n hx hb dX5_cancel_32 rfl (lv_at hl 1 rfl) ?_
      refine mk_zald hx hb hK hW 3 (by decide) rfl 1 rfl (j := t) rfl (by omega) (by decide) dX5_cancel_33 ?_
      refine mk_sayi (y := (b 6 t)) hxt.2.2.2.2.2 ?_
      refine mk_if_eq (tgt := 47) hx hb dX5_cancel_34 (by decide) (by omega) (fun c_34 => ?_) (fun c_34 => ?_)
      · skip
        refine lv_aload_n hx hb dX5_cancel_47 rfl (lv_at hl 0 rfl) ?_
        refine lv_aload_n hx hb dX5_cancel_48 rfl (lv_at hl 0 rfl) ?_
        refine mk_get (ci := 5) (C := RX5) (T := TX5) (N := 4) hx hb hts inX5 hown hK hW 0 (by decide) rfl rfl 0 (by decide) fl10 (fun _ h9 => h9) rfl dX5_cancel_49 ?_
        refine mk_getN (ci := 0) (C := RX0) (T := TX0) (N := 7) hx hb hts inX0 hown hK hW 1 (by decide) rfl rfl 2 (by decide) fn99 (fun _ h9 => h9) rfl dX5_cancel_52 ?_
        refine lv_iload_n hx hb dX5_cancel_55 rfl (lv_at hl 1 rfl) ?_
        refine mk_iald hx hb hK hW 4 (by decide) rfl 0 rfl (j := t) rfl (by omega) (by decide) dX5_cancel_56 ?_
        refine mk_sayi (y := 2) (hxt.1.trans hv) ?_
        refine lv_aload_n hx hb dX5_cancel_57 rfl (lv_at hl 0 rfl) ?_
        refine mk_get (ci := 5) (C := RX5) (T := TX5) (N := 4) hx hb hts inX5 hown hK hW 0 (by decide) rfl rfl 0 (by decide) fl10 (fun _ h9 => h9) rfl dX5_cancel_58 ?_
        refine mk_getN (ci := 0) (C := RX0) (T := TX0) (N := 7) hx hb hts inX0 hown hK hW 1 (by decide) rfl rfl 3 (by decide) fn102 (fun _ h9 => h9) rfl dX5_cancel_61 ?_
        refine lv_iload_n hx hb dX5_cancel_64 rfl (lv_at hl 1 rfl) ?_
        refine mk_iald hx hb hK hW 5 (by decide) rfl 0 rfl (j := t) rfl (by omega) (by decide) dX5_cancel_65 ?_
        refine mk_sayi (y := (b 2 t)) hxt.2.1 ?_
        refine mk_goR (st9 := st) (va_runV (As := [.int (iI 2), .int (iI (b 2 t))]) (rest := []) ⟨hx, hb, hml, hown, hts⟩ (c_X5_ledgerAt_2 l cg D ad st (b 2 t) hbt.2.2.2.1) (cwV 2 hts gX5_cancel_X5_ledgerAt rfl rfl rfl (by decide +kernel) ⟨Nat.le_of_ble_eq_true rfl, Nat.le_of_ble_eq_true rfl⟩) (mk_preV hK hN hW 0 (by decide) rfl rfl rfl) rfl rfl hl.1 rfl (lv_room (Nat.le_of_ble_eq_true rfl)) dX5_cancel_66 ⟨Nat.zero_le _, Nat.zero_le _⟩) hW (fun H locs hW => ?_)
        refine lv_astore_n (lv' := [(2, .ref (ad 51)), (0, .ref (ad 0)), (1, .int (iI ((t : Nat) : Int)))]) hx hb dX5_cancel_69 rfl hl (by decide) rfl (fun ls hl => ?_)
        refine lv_aload_n hx hb dX5_cancel_70 rfl (lv_at hl 1 rfl) ?_
        refine mk_get (ci := 5) (C := RX5) (T := TX5) (N := 4) hx hb hts inX5 hown hK hW 0 (by decide) rfl rfl 0 (by decide) fl10 (fun _ h9 => h9) rfl dX5_cancel_71 ?_
        refine mk_getN (ci := 0) (C := RX0) (T := TX0) (N := 7) hx hb hts inX0 hown hK hW 1 (by decide) rfl rfl 0 (by decide) fn105 (fun _ h9 => h9) rfl dX5_cancel_74 ?_
        refine lv_iload_n hx hb dX5_cancel_77 rfl (lv_at hl 2 rfl) ?_
        refine mk_zald hx hb hK hW 2 (by decide) rfl 1 rfl (j := t) rfl (by omega) (by decide) dX5_cancel_78 ?_
        refine mk_sayi (y := (b 5 t)) hxt.2.2.2.2.1 ?_
        refine mk_if_ne (tgt := 104) hx hb dX5_cancel_79 (by decide) (by omega) (fun c_79 => ?_) (fun c_79 => ?_)
        · skip
          omega
        · skip
          refine lv_aload_n hx hb dX5_cancel_82 rfl (lv_at hl 0 rfl) ?_
          refine lv_aload_n hx hb dX5_cancel_83 rfl (lv_at hl 1 rfl) ?_
          refine mk_get (ci := 5) (C := RX5) (T := TX5) (N := 4) hx hb hts inX5 hown hK hW 0 (by decide) rfl rfl 0 (by decide) fl10 (fun _ h9 => h9) rfl dX5_cancel_84 ?_
          refine mk_getN (ci := 0) (C := RX0) (T := TX0) (N := 7) hx hb hts inX0 hown hK hW 1 (by decide) rfl rfl 3 (by decide) fn102 (fun _ h9 => h9) rfl dX5_cancel_87 ?_
          refine lv_iload_n hx hb dX5_cancel_90 rfl (lv_at hl 2 rfl) ?_
          refine mk_iald hx hb hK hW 5 (by decide) rfl 0 rfl (j := t) rfl (by omega) (by decide) dX5_cancel_91 ?_
          refine mk_sayi (y := (b 2 t)) hxt.2.1 ?_
          refine lv_aload_n hx hb dX5_cancel_92 rfl (lv_at hl 1 rfl) ?_
          refine mk_get (ci := 5) (C := RX5) (T := TX5) (N := 4) hx hb hts inX5 hown hK hW 0 (by decide) rfl rfl 0 (by decide) fl10 (fun _ h9 => h9) rfl dX5_cancel_93 ?_
          refine mk_getN (ci := 0) (C := RX0) (T := TX0) (N := 7) hx hb hts inX0 hown hK hW 1 (by decide) rfl rfl 4 (by decide) fn108 (fun _ h9 => h9) rfl dX5_cancel_96 ?_
          refine lv_iload_n hx hb dX5_cancel_99 rfl (lv_at hl 2 rfl) ?_
          refine mk_iald hx hb hK hW 6 (by decide) rfl 0 rfl (j := t) rfl (by omega) (by decide) dX5_cancel_100 ?_
          refine mk_sayi (y := (b 3 t)) hxt.2.2.1 ?_
          exact mx_go (vx_runS (As := [.ref (ad 51), .int (iI (b 2 t)), .int (iI (b 3 t))]) (rest := []) ⟨hx, hb, hml, hown, hts⟩ (c_X5_checkCanSpare_no_2 l cg D ad st hst b hX (b 2 t) (b 3 t) hbt.2.2.2.1 hbt.2.2.2.2.1 hsp) (cwS 3 hts gX5_cancel_X5_checkCanSpare rfl rfl rfl (by decide +kernel) ⟨Nat.le_of_ble_eq_true rfl, Nat.le_of_ble_eq_true rfl⟩) (mx_preS hK hN hxK hxZ hW) rfl rfl hl.1 rfl (lv_room (Nat.le_of_ble_eq_true rfl)) dX5_cancel_101 ⟨Nat.le_refl _, Nat.le_refl _⟩) hW (fun ce q9 H1 locs1 hW1 _ hce hcv hcl => mx_out htab hlocks hW1 hce hcv hcl)
      · skip
        omega
    · skip
      omega

set_option maxHeartbeats 4000000 in
set_option maxRecDepth 100000 in
theorem c_X5_setAllowance_noY (l : Launch) (cg : Nat → ClassId) (D : va_G) (ad : Nat → Nat) (st : Nat → Nat → Int) (hst : l.stackTraces = false) (y mo : Int) (hy : -2147483648 ≤ y ∧ y < 2147483648) (hno : ¬ (0 ≤ y ∧ y < 5)) : TX l yX5_setAllowance wsX5_setAllowance ({ frames := 8, cells := 1, slots := 6, locals := 150 }) D vwCl (TY cg) 73 (celX cg) ad st [.ref (ad 0), .int (iI y), .int (iI mo)] (xE1) := by
  refine mx_open (cc := cX5_setAllowance) (maxL := 4) (ret := (some .int)) (by decide) rfl (Nat.le_of_ble_eq_true rfl) ?_
  intro p e s m args below meth c hx hb hml hr hown hts hlocks hK hN hargs ls hl hW hxK hxZ htab
  have hown : s.vm.findClass RX5 = some m.cls := hown
  have hl : lv_has ls 4 [(0, .ref (ad 0)), (1, .int (iI y)), (2, .int (iI mo))] := hl
  refine lv_iload_n hx hb dX5_setAllowance_0 rfl (lv_at hl 1 rfl) ?_
  exact mx_go (vx_runS (As := [.int (iI y)]) (rest := []) ⟨hx, hb, hml, hown, hts⟩ (c_X5_checkYear_no l cg D ad st hst y hy hno) (cwS 1 hts gX5_setAllowance_X5_checkYear rfl rfl rfl (by decide +kernel) ⟨Nat.le_of_ble_eq_true rfl, Nat.le_of_ble_eq_true rfl⟩) (mx_preS hK hN hxK hxZ hW) rfl rfl hl.1 rfl (lv_room (Nat.le_of_ble_eq_true rfl)) dX5_setAllowance_1 ⟨Nat.le_refl _, Nat.le_refl _⟩) hW (fun ce q9 H1 locs1 hW1 _ hce hcv hcl => mx_out htab hlocks hW1 hce hcv hcl)

set_option maxHeartbeats 4000000 in
set_option maxRecDepth 100000 in
theorem c_X5_setAllowance_noM (l : Launch) (cg : Nat → ClassId) (D : va_G) (ad : Nat → Nat) (st : Nat → Nat → Int) (hst : l.stackTraces = false) (y mo : Int) (hy : 0 ≤ y ∧ y < 5) (hm : -2147483648 ≤ mo ∧ mo < 2147483648) (hno : ¬ (0 ≤ mo ∧ mo ≤ 1000000)) : TX l yX5_setAllowance wsX5_setAllowance ({ frames := 8, cells := 1, slots := 6, locals := 150 }) D vwCl (TY cg) 73 (celX cg) ad st [.ref (ad 0), .int (iI y), .int (iI mo)] (xE2) := by
  refine mx_open (cc := cX5_setAllowance) (maxL := 4) (ret := (some .int)) (by decide) rfl (Nat.le_of_ble_eq_true rfl) ?_
  intro p e s m args below meth c hx hb hml hr hown hts hlocks hK hN hargs ls hl hW hxK hxZ htab
  have hown : s.vm.findClass RX5 = some m.cls := hown
  have hl : lv_has ls 4 [(0, .ref (ad 0)), (1, .int (iI y)), (2, .int (iI mo))] := hl
  refine lv_iload_n hx hb dX5_setAllowance_0 rfl (lv_at hl 1 rfl) ?_
  refine mk_goV (va_runS (As := [.int (iI y)]) (rest := []) ⟨hx, hb, hml, hown, hts⟩ (c_X5_checkYear l cg D ad st y hy) (cwS 1 hts gX5_setAllowance_X5_checkYear rfl rfl rfl (by decide +kernel) ⟨Nat.le_of_ble_eq_true rfl, Nat.le_of_ble_eq_true rfl⟩) (mk_preS hK hN hW) rfl rfl hl.1 rfl (lv_room (Nat.le_of_ble_eq_true rfl)) dX5_setAllowance_1 ⟨Nat.zero_le _, Nat.zero_le _⟩) hW (fun st1 hp1 H locs hW => ?_)
  rw [hp1] at hW
  refine lv_iload_n hx hb dX5_setAllowance_4 rfl (lv_at hl 2 rfl) ?_
  exact mx_go (vx_runS (As := [.int (iI mo)]) (rest := []) ⟨hx, hb, hml, hown, hts⟩ (c_X5_checkMoney_no l cg D ad st hst mo hm hno) (cwS 1 hts gX5_setAllowance_X5_checkMoney rfl rfl rfl (by decide +kernel) ⟨Nat.le_of_ble_eq_true rfl, Nat.le_of_ble_eq_true rfl⟩) (mx_preS hK hN hxK hxZ hW) rfl rfl hl.1 rfl (lv_room (Nat.le_of_ble_eq_true rfl)) dX5_setAllowance_5 ⟨Nat.le_refl _, Nat.le_refl _⟩) hW (fun ce q9 H1 locs1 hW1 _ hce hcv hcl => mx_out htab hlocks hW1 hce hcv hcl)

set_option maxHeartbeats 4000000 in
set_option maxRecDepth 100000 in
theorem c_X5_setWindow_no (l : Launch) (cg : Nat → ClassId) (D : va_G) (ad : Nat → Nat) (st : Nat → Nat → Int) (hst : l.stackTraces = false) (w9 : Int) (hw9 : -2147483648 ≤ w9 ∧ w9 < 2147483648) (hno : ¬ (0 ≤ w9 ∧ w9 ≤ 60)) : TX l yX5_setWindow wsX5_setWindow ({ frames := 8, cells := 1, slots := 6, locals := 150 }) D vwCl (TY cg) 73 (celX cg) ad st [.ref (ad 0), .int (iI w9)] (xE2) := by
  refine mx_open (cc := cX5_setWindow) (maxL := 4) (ret := (some .int)) (by decide) rfl (Nat.le_of_ble_eq_true rfl) ?_
  intro p e s m args below meth c hx hb hml hr hown hts hlocks hK hN hargs ls hl hW hxK hxZ htab
  have hown : s.vm.findClass RX5 = some m.cls := hown
  have hl : lv_has ls 4 [(0, .ref (ad 0)), (1, .int (iI w9))] := hl
  refine lv_iload_n hx hb dX5_setWindow_0 rfl (lv_at hl 1 rfl) ?_
  refine mk_if_lt (tgt := 10) hx hb dX5_setWindow_1 (by decide) (by omega) (fun c_1 => ?_) (fun c_1 => ?_)
  · skip
    exact mx_throw (text := "the window is out of range") hx hb hst hown (by decide) (hts (.classLink RX5 56 xE2) (by decide +kernel)) (hts (.initialized xE2) (by decide +kernel)) (fun w h => hts w (List.mem_cons_of_mem _ (List.mem_append_right _ h))) xb2 xo2 hxK hxZ (by decide) (hml.trans hl.1.symm) htab hlocks hW dX5_setWindow_10 dX5_setWindow_13 dX5_setWindow_14 dX5_setWindow_16 dX5_setWindow_19 (Nat.le_of_ble_eq_true rfl) (Nat.le_of_ble_eq_true rfl) (Nat.le_refl _) (Nat.le_refl _)
  · skip
    refine lv_iload_n hx hb dX5_setWindow_4 rfl (lv_at hl 1 rfl) ?_
    refine mk_bipush hx hb (60) (by decide +kernel) dX5_setWindow_5 ?_
    refine mk_icmp_le (tgt := 20) hx hb dX5_setWindow_7 (by decide) (by omega) (by omega) (fun c_7 => ?_) (fun c_7 => ?_)
    · skip
      omega
    · skip
      exact mx_throw (text := "the window is out of range") hx hb hst hown (by decide) (hts (.classLink RX5 56 xE2) (by decide +kernel)) (hts (.initialized xE2) (by decide +kernel)) (fun w h => hts w (List.mem_cons_of_mem _ (List.mem_append_right _ h))) xb2 xo2 hxK hxZ (by decide) (hml.trans hl.1.symm) htab hlocks hW dX5_setWindow_10 dX5_setWindow_13 dX5_setWindow_14 dX5_setWindow_16 dX5_setWindow_19 (Nat.le_of_ble_eq_true rfl) (Nat.le_of_ble_eq_true rfl) (Nat.le_refl _) (Nat.le_refl _)

