set_option maxHeartbeats 4000000 in
set_option maxRecDepth 100000 in
theorem c_X1_reckon (l : Launch) (cg : Nat → ClassId) (D : va_G) (ad : Nat → Nat) (st : Nat → Nat → Int) (v wd : Int) (n mm : Nat) (hn : st 21 6 = n) (hJ : JV (st 22) (st 23) (st 24) (st 25) (st 26) (st 27) n) (hm : st 1 2 = mm) (hS : SPV (st 2) (st 3) mm) (hv : st 0 0 = v) (hvr : 0 ≤ v ∧ v < 3) (hwd : 0 ≤ wd ∧ wd ≤ 60) (hh : ∀ d, 0 ≤ hold (lvb (st 23) (st 24) v) (st 22) (st 25) (uni (st 26) (st 25) (st 2) (st 3) mm) n d) : MV l yX1_reckon wsX1_reckon ({ frames := 4, cells := 0, slots := 0, locals := 94 }) D vwCl (TY cg) 28 (celL cg) ad st [.ref (ad 0), .ref (ad 21), .int (iI wd)] (fun st1 => Fr [4, 5, 6, 7, 8, 9, 10, 11, 12, 13, 14, 15, 16, 17, 18, 19, 20] st st1 ∧ LOK (st 22) (st 23) (st 24) (st 25) (st 26) (st 27) (st 2) (st 3) n mm v wd st1) := by
  refine mk_open (cc := cX1_reckon) (maxL := 4) (ret := none) (by decide) rfl (Nat.le_of_ble_eq_true rfl) ?_
  intro p e s m args below meth c hx hb hml hr hown hts hlocks hK hN hargs ls hl hW
  have hown : s.vm.findClass RX1 = some m.cls := hown
  have hl : lv_has ls 4 [(0, .ref (ad 0)), (1, .ref (ad 21)), (2, .int (iI wd))] := hl
  have inX1 : ∀ w ∈ wsX10, w ∈ wsX1_reckon := by decide +kernel
  have inX2 : ∀ w ∈ wsX20, w ∈ wsX1_reckon := by decide +kernel
  have inX3 : ∀ w ∈ wsX30, w ∈ wsX1_reckon := by decide +kernel
  have fl21 := hts (.fieldLink RX1 21 "GainsReckoner$Ledger" "sheet" "LGainsReckoner$Sheet;") (by decide +kernel)
  have fl32 := hts (.fieldLink RX1 32 "GainsReckoner$Ledger" "share" "I") (by decide +kernel)
  have fl12 := hts (.fieldLink RX1 12 "GainsReckoner$Ledger" "splits" "LGainsReckoner$Splits;") (by decide +kernel)
  have fl28 := hts (.fieldLink RX1 28 "GainsReckoner$Ledger" "matched" "LGainsReckoner$Matches;") (by decide +kernel)
  have fn40 := hN.f (args := args) "GainsReckoner$Ledger" 40 "GainsReckoner$Matches" "size" "I" (by decide +kernel)
  have fn43 := hN.f (args := args) "GainsReckoner$Ledger" 43 "GainsReckoner$Sheet" "size" "I" (by decide +kernel)
  refine lv_aload_n hx hb dX1_reckon_0 rfl (lv_at hl 0 rfl) ?_
  refine mk_get (ci := 1) (C := RX1) (T := TX1) (N := 4) hx hb hts inX1 hown hK hW 0 (by decide) rfl rfl 2 (by decide) fl21 (fun _ h9 => h9) rfl dX1_reckon_1 ?_
  refine lv_aload_n hx hb dX1_reckon_4 rfl (lv_at hl 1 rfl) ?_
  refine lv_aload_n hx hb dX1_reckon_5 rfl (lv_at hl 0 rfl) ?_
  refine mk_get (ci := 1) (C := RX1) (T := TX1) (N := 4) hx hb hts inX1 hown hK hW 0 (by decide) rfl rfl 0 (by decide) fl32 (fun _ h9 => h9) rfl dX1_reckon_6 ?_
  refine mk_sayi (y := v) hv ?_
  refine lv_aload_n hx hb dX1_reckon_9 rfl (lv_at hl 0 rfl) ?_
  refine mk_get (ci := 1) (C := RX1) (T := TX1) (N := 4) hx hb hts inX1 hown hK hW 0 (by decide) rfl rfl 1 (by decide) fl12 (fun _ h9 => h9) rfl dX1_reckon_10 ?_
  refine mk_goV (va_runV (As := [.ref (ad 21), .int (iI v), .ref (ad 1)]) (rest := []) ⟨hx, hb, hml, hown, hts⟩ (c_X3_fill l cg D ad st v n mm hn hJ hm hS (by omega)) (cwV 3 hts gX1_reckon_X3_fill rfl rfl rfl (by decide +kernel) ⟨Nat.le_of_ble_eq_true rfl, Nat.le_of_ble_eq_true rfl⟩) (mk_preV hK hN hW 4 (by decide) rfl rfl rfl) rfl rfl hl.1 rfl (lv_room (Nat.le_of_ble_eq_true rfl)) dX1_reckon_13 ⟨Nat.zero_le _, Nat.zero_le _⟩) hW (fun st1 hp13 H locs hW => ?_)
  obtain ⟨hff, R, hI, hC, hmn⟩ := hp13
  have hRN := RN_of hJ hS hI hh
  obtain ⟨fb, efb⟩ : ∃ z, z = qB (lvb (st 23) (st 24) v) (st 22) (st 25) (uni (st 26) (st 25) (st 2) (st 3) mm) n (st1 5) := ⟨_, rfl⟩
  obtain ⟨fc, efc⟩ : ∃ z, z = qB (lvb (st 23) (st 24) v) (st 22) (st 25) (st 27) n (st1 5) := ⟨_, rfl⟩
  obtain ⟨fs, efs⟩ : ∃ z, z = qS (lvb (st 23) (st 24) v) (st 22) (st 25) (uni (st 26) (st 25) (st 2) (st 3) mm) n (st1 5) := ⟨_, rfl⟩
  obtain ⟨fp, efp⟩ : ∃ z, z = qS (lvb (st 23) (st 24) v) (st 22) (st 25) (st 27) n (st1 5) := ⟨_, rfl⟩
  rw [← efb, ← efc, ← efs, ← efp] at hC hRN
  rw [← efb, ← efs] at hmn
  obtain ⟨fD, eD⟩ : ∃ z, z = st1 5 := ⟨_, rfl⟩
  rw [← eD] at hC hRN
  obtain ⟨hR6, hso, hDr, hb0, hs0, hc0, hp0, hh0, hnz, -⟩ := id hRN
  have hlen := Nat.le_trans (mAll_le (D := fD) (w := wd) (c := fc) (p := fp) (R := R) (fun i => (hb0 i).1) (fun i => (hs0 i).1)) hnz
  refine lv_aload_n hx hb dX1_reckon_16 rfl (lv_at hl 0 rfl) ?_
  refine mk_get (ci := 1) (C := RX1) (T := TX1) (N := 4) hx hb hts inX1 hown hK hW 0 (by decide) rfl rfl 3 (by decide) fl28 (fun _ h9 => h9) rfl dX1_reckon_17 ?_
  refine mk_iconst hx hb (0) dX1_reckon_20 ?_
  refine mk_putN (ci := 2) (C := RX2) (T := TX2) (N := 7) hx hb hts inX2 tyX2 tyX2_ok nmX2 hown hK hW 14 (by decide) rfl rfl 6 (by decide) fn40 (fun _ h9 => h9) rfl (by decide +kernel) (Nat.le_of_ble_eq_true rfl) rfl dX1_reckon_21 (fun H locs hW => ?_)
  obtain ⟨st3, est3⟩ : ∃ z, z = stC st1 14 (fnU (st1 14) 6 0) := ⟨_, rfl⟩
  rw [← est3] at hW
  refine mk_iconst hx hb (0) dX1_reckon_24 ?_
  refine lv_istore_n (lv' := [(3, .int (iI 0)), (0, .ref (ad 0)), (1, .ref (ad 21)), (2, .int (iI wd))]) hx hb dX1_reckon_25 rfl hl (by decide) rfl (fun ls hl => ?_)
  have loop26 : ∀ (fuel : Nat) (q : Nat → Nat → Int) (r : Nat), (r ≤ R) → (Fr [7, 10, 12, 13, 14, 15, 16, 17, 18, 19, 20] st1 q) → (AL q fD (mAll fD fb fs fc fp wd R r)) → (∀ i, r ≤ i → i < R → q 7 i = fb i - blw fD fb fs wd r i) → (∀ i, r ≤ i → i < R → q 10 i = fs i - slft fD fb fs wd i 0) → (∀ i, i < r → q 12 i = pU fD fb fs wd R (i + 1) ∧ q 13 i = pC fD fb fs fc wd R (i + 1)) → R - r < fuel → ∀ (H : Heap) (locs : List Loc) (ls : Array Slot), GW D vwCl 28 (celL cg) ad (wA 28 ad) s.heap q H locs → lv_has ls 4 [(0, .ref (ad 0)), (1, .ref (ad 21)), (2, .int (iI wd)), (3, .int (iI ((r : Nat) : Int)))] → W p l e (headSpec wsX1_reckon ({ frames := 4, cells := 0, slots := 0, locals := 94 })).room s m args below meth c H locs 0 0 (MQ below (va_Qv (fun st1 => Fr [4, 5, 6, 7, 8, 9, 10, 11, 12, 13, 14, 15, 16, 17, 18, 19, 20] st st1 ∧ LOK (st 22) (st 23) (st 24) (st 25) (st 26) (st 27) (st 2) (st 3) n mm v wd st1) (mB D vwCl 28 (celL cg) ad) (wA 28 ad)) args s 0 0 (wA 28 ad)) (F0 m 26 ls []) := by
    intro fuel
    induction fuel with
    | zero => intro q r hrR hfq hA hg hsg hpp hmu; omega
    | succ fuel ih26 =>
      intro q r hrR hfq hA hg hsg hpp hmu H locs ls hW hl
      refine lv_iload_n hx hb dX1_reckon_26 rfl (lv_at hl 3 rfl) ?_
      refine lv_aload_n hx hb dX1_reckon_27 rfl (lv_at hl 0 rfl) ?_
      refine mk_get (ci := 1) (C := RX1) (T := TX1) (N := 4) hx hb hts inX1 hown hK hW 0 (by decide) rfl rfl 2 (by decide) fl21 (fun _ h9 => h9) rfl dX1_reckon_28 ?_
      refine mk_getN (ci := 3) (C := RX3) (T := TX3) (N := 10) hx hb hts inX3 hown hK hW 4 (by decide) rfl rfl 9 (by decide) fn43 (fun _ h9 => h9) rfl dX1_reckon_31 ?_
      refine mk_sayi (y := (st1 4 9)) (by rw [hfq 4 (by decide)]) ?_
      refine mk_sayi (y := ((R : Nat) : Int)) hC.1 ?_
      refine mk_icmp_ge (tgt := 59) hx hb dX1_reckon_34 (by decide) (by omega) (by omega) (fun c_34 => ?_) (fun c_34 => ?_)
      · skip
        exact mk_retV hx hb hr hlocks hW (by
          have er : r = R := by omega
          subst er
          have q5 : q 5 = st1 5 := hfq 5 (by decide)
          refine ⟨hff.tr hfq [4, 5, 6, 7, 8, 9, 10, 11, 12, 13, 14, 15, 16, 17, 18, 19, 20] (by decide), r, by rw [q5]; exact hI, ?_⟩
          rw [q5, ← efb, ← efc, ← efs, ← efp, ← eD]
          exact ⟨hC.fr hfq (by decide) (by decide) (by decide) (by decide) (by decide) (by decide), hA, hpp⟩) dX1_reckon_59
      · skip
        have hl1 := mAll_pre (D := fD) (b := fb) (s := fs) (c := fc) (p := fp) (w := wd) (R := R) (r + 1) R (by omega)
        rw [mAll, List.length_append, List.length_append, List.length_append] at hl1
        have hCq : RC q R fD fb fc fs fp := hC.fr hfq (by decide) (by decide) (by decide) (by decide) (by decide) (by decide)
        refine lv_aload_n hx hb dX1_reckon_37 rfl (lv_at hl 0 rfl) ?_
        refine lv_iload_n hx hb dX1_reckon_38 rfl (lv_at hl 3 rfl) ?_
        refine mk_goV (va_runV (As := [.int (iI ((r : Nat) : Int))]) (rest := []) ⟨hx, hb, hml, hown, hts⟩ (c_X1_matchSameDay l cg D ad q r R fD fb fc fs fp (mAll fD fb fs fc fp wd R r) hCq hRN (by omega) hA (by rw [List.length_append]; omega)) (cwV 1 hts gX1_reckon_X1_matchSameDay rfl rfl rfl (by decide +kernel) ⟨Nat.le_of_ble_eq_true rfl, Nat.le_of_ble_eq_true rfl⟩) (mk_preV hK hN hW 0 (by decide) rfl rfl rfl) rfl rfl hl.1 rfl (lv_room (Nat.le_of_ble_eq_true rfl)) dX1_reckon_39 ⟨Nat.zero_le _, Nat.zero_le _⟩) hW (fun st4 hp39 H locs hW => ?_)
        obtain ⟨hf1, hA1⟩ := hp39
        have hC1 : RC st4 R fD fb fc fs fp := hCq.fr hf1 (by decide) (by decide) (by decide) (by decide) (by decide) (by decide)
        refine lv_aload_n hx hb dX1_reckon_42 rfl (lv_at hl 0 rfl) ?_
        refine lv_iload_n hx hb dX1_reckon_43 rfl (lv_at hl 3 rfl) ?_
        refine lv_iload_n hx hb dX1_reckon_44 rfl (lv_at hl 2 rfl) ?_
        refine mk_goV (va_runV (As := [.int (iI ((r : Nat) : Int)), .int (iI wd)]) (rest := []) ⟨hx, hb, hml, hown, hts⟩ (c_X1_matchLaterDays l cg D ad st4 r R fD fb fc fs fp ((mAll fD fb fs fc fp wd R r) ++ mSame fb fs fc fp r) hC1 hRN (by omega) hA1 wd hwd (by rw [List.length_append, List.length_append]; omega) (fun i hi hri => by rw [hf1 7 (by decide)]; exact hg i (by omega) hi) (by rw [hf1 10 (by decide)]; exact hsg r (Nat.le_refl r) (by omega))) (cwV 2 hts gX1_reckon_X1_matchLaterDays rfl rfl rfl (by decide +kernel) ⟨Nat.le_of_ble_eq_true rfl, Nat.le_of_ble_eq_true rfl⟩) (mk_preV hK hN hW 0 (by decide) rfl rfl rfl) rfl rfl hl.1 rfl (lv_room (Nat.le_of_ble_eq_true rfl)) dX1_reckon_45 ⟨Nat.zero_le _, Nat.zero_le _⟩) hW (fun st6 hp45 H locs hW => ?_)
        obtain ⟨hf2, g7, g7n, g10, g10n, hA2⟩ := hp45
        have hC2 : RC st6 R fD fb fc fs fp := hC1.fr hf2 (by decide) (by decide) (by decide) (by decide) (by decide) (by decide)
        refine lv_aload_n hx hb dX1_reckon_48 rfl (lv_at hl 0 rfl) ?_
        refine lv_iload_n hx hb dX1_reckon_49 rfl (lv_at hl 3 rfl) ?_
        refine mk_goV (va_runV (As := [.int (iI ((r : Nat) : Int))]) (rest := []) ⟨hx, hb, hml, hown, hts⟩ (c_X1_pool l cg D ad st6 r R fD fb fc fs fp (((mAll fD fb fs fc fp wd R r) ++ mSame fb fs fc fp r) ++ mLats fD fb fs fc fp wd r R) hC2 hRN (by omega) hA2 wd (by rw [List.length_append, List.length_append, List.length_append]; omega) (fun h0 => by rw [hf2 12 (by decide), hf2 13 (by decide), hf1 12 (by decide), hf1 13 (by decide)]; have h8 := hpp (r - 1) (by omega); rw [show r - 1 + 1 = r by omega] at h8; exact h8) (by rw [g7n r (by omega), hf1 7 (by decide), hg r (Nat.le_refl r) (by omega), blw_own R (by omega)]) g10) (cwV 1 hts gX1_reckon_X1_pool rfl rfl rfl (by decide +kernel) ⟨Nat.le_of_ble_eq_true rfl, Nat.le_of_ble_eq_true rfl⟩) (mk_preV hK hN hW 0 (by decide) rfl rfl rfl) rfl rfl hl.1 rfl (lv_room (Nat.le_of_ble_eq_true rfl)) dX1_reckon_50 ⟨Nat.zero_le _, Nat.zero_le _⟩) hW (fun st8 hp50 H locs hW => ?_)
        
        refine mk_iinc (w := ((r + 1 : Nat) : Int)) (lv' := [(3, .int (iI ((r + 1 : Nat) : Int))), (0, .ref (ad 0)), (1, .ref (ad 21)), (2, .int (iI wd))]) hx hb dX1_reckon_53 hl (k := 3) rfl (by omega) (by decide) rfl (fun ls hl => ?_)
        refine lv_goto (tgt := 26) hx hb dX1_reckon_56 (by decide) ?_
        obtain ⟨hf3, p12, p13, pn, hA3⟩ := hp50
        have hfq3 : Fr [7, 10, 12, 13, 14, 15, 16, 17, 18, 19, 20] st1 st8 := ((hfq.tr hf1 [7, 10, 12, 13, 14, 15, 16, 17, 18, 19, 20] (by decide)).tr hf2 [7, 10, 12, 13, 14, 15, 16, 17, 18, 19, 20] (by decide)).tr hf3 [7, 10, 12, 13, 14, 15, 16, 17, 18, 19, 20] (by decide)
        have hA4 : AL st8 fD (mAll fD fb fs fc fp wd R (r + 1)) := by
          rw [mAll, ← List.append_assoc, ← List.append_assoc]; exact hA3
        have hg3 : ∀ i, r + 1 ≤ i → i < R → st8 7 i = fb i - blw fD fb fs wd (r + 1) i := fun i h1 h2 => by rw [(pn i (by omega)).1]; exact g7 i h2 (by omega)
        have hsg3 : ∀ i, r + 1 ≤ i → i < R → st8 10 i = fs i - slft fD fb fs wd i 0 := fun i h1 h2 => by rw [(pn i (by omega)).2.1, g10n i (by omega), hf1 10 (by decide)]; exact hsg i (by omega) h2
        have hpp3 : ∀ i, i < r + 1 → st8 12 i = pU fD fb fs wd R (i + 1) ∧ st8 13 i = pC fD fb fs fc wd R (i + 1) := fun i hi => by
          by_cases y : i = r
          · subst y; exact ⟨p12, p13⟩
          · rw [(pn i y).2.2.1, (pn i y).2.2.2, hf2 12 (by decide), hf2 13 (by decide), hf1 12 (by decide), hf1 13 (by decide)]; exact hpp i (by omega)
        exact ih26 st8 (r + 1) (by omega) hfq3 hA4 hg3 hsg3 hpp3 (by omega) _ _ _ hW (lv_sub hl [1, 2, 3, 0] rfl)
  exact loop26 _ st3 0 (Nat.zero_le _) (by rw [est3]; exact Fr.rf.st (by decide)) (by rw [est3]; exact ⟨rfl, fun i x hx => by simp [mAll] at hx⟩) (fun i _ hi => by rw [est3]; show st1 7 i = _; rw [(hmn i hi).1, blw_0]; omega) (fun i _ hi => by rw [est3]; show st1 10 i = _; rw [(hmn i hi).2, slft_0]; omega) (fun i hi => absurd hi (by omega)) (Nat.lt_succ_self _) _ _ _ hW (lv_sub hl [1, 2, 3, 0] rfl)

set_option maxHeartbeats 4000000 in
set_option maxRecDepth 100000 in
theorem c_X1_heldShares (l : Launch) (cg : Nat → ClassId) (D : va_G) (ad : Nat → Nat) (st : Nat → Nat → Int) (v d : Int) (n mm : Nat) (hn : st 21 6 = n) (hJ : JV (st 22) (st 23) (st 24) (st 25) (st 26) (st 27) n) (hm : st 1 2 = mm) (hS : SPV (st 2) (st 3) mm) (hv : st 0 0 = v) (hvr : 0 ≤ v ∧ v < 3) (hd : -2147483648 ≤ d ∧ d < 2147483648) : MI l yX1_heldShares wsX1_heldShares ({ frames := 1, cells := 0, slots := 0, locals := 24 }) D vwCl (TY cg) 28 (celL cg) ad st [.ref (ad 0), .ref (ad 21), .int (iI d)] (fun z st1 => st1 = st ∧ z = sm (fun k => if lvb (st 23) (st 24) v k = true ∧ st 25 k ≤ d then (if st 22 k = 0 then st 26 k * fac (st 2) (st 3) mm (st 25 k) d else -(st 26 k * fac (st 2) (st 3) mm (st 25 k) d)) else 0) n) := by
  refine mk_open (cc := cX1_heldShares) (maxL := 7) (ret := (some .int)) (by decide) rfl (Nat.le_of_ble_eq_true rfl) ?_
  intro p e s m args below meth c hx hb hml hr hown hts hlocks hK hN hargs ls hl hW
  have hown : s.vm.findClass RX1 = some m.cls := hown
  have hl : lv_has ls 7 [(0, .ref (ad 0)), (1, .ref (ad 21)), (2, .int (iI d))] := hl
  have inX0 : ∀ w ∈ wsX00, w ∈ wsX1_heldShares := by decide +kernel
  have inX1 : ∀ w ∈ wsX10, w ∈ wsX1_heldShares := by decide +kernel
  have fn55 := hN.f (args := args) "GainsReckoner$Ledger" 55 "GainsReckoner$Journal" "size" "I" (by decide +kernel)
  have fn58 := hN.f (args := args) "GainsReckoner$Ledger" 58 "GainsReckoner$Journal" "day" "[I" (by decide +kernel)
  have fl32 := hts (.fieldLink RX1 32 "GainsReckoner$Ledger" "share" "I") (by decide +kernel)
  have fn66 := hN.f (args := args) "GainsReckoner$Ledger" 66 "GainsReckoner$Journal" "count" "[I" (by decide +kernel)
  have fl12 := hts (.fieldLink RX1 12 "GainsReckoner$Ledger" "splits" "LGainsReckoner$Splits;") (by decide +kernel)
  have fn73 := hN.f (args := args) "GainsReckoner$Ledger" 73 "GainsReckoner$Journal" "sale" "[Z" (by decide +kernel)
  have hn6 := hJ.1
  have h44 := hS.1
  refine mk_iconst hx hb (0) dX1_heldShares_0 ?_
  refine lv_istore_n (lv' := [(3, .int (iI 0)), (0, .ref (ad 0)), (1, .ref (ad 21)), (2, .int (iI d))]) hx hb dX1_heldShares_1 rfl hl (by decide) rfl (fun ls hl => ?_)
  refine mk_iconst hx hb (0) dX1_heldShares_2 ?_
  refine lv_istore (lv' := [(4, .int (iI 0)), (3, .int (iI 0)), (0, .ref (ad 0)), (1, .ref (ad 21)), (2, .int (iI d))]) hx hb dX1_heldShares_3 hl (by decide) rfl (fun ls hl => ?_)
  have loop5 : ∀ (fuel : Nat) (k : Nat) (a : Int), (k ≤ n) → (a = sm (fun k => if lvb (st 23) (st 24) v k = true ∧ st 25 k ≤ d then (if st 22 k = 0 then st 26 k * fac (st 2) (st 3) mm (st 25 k) d else -(st 26 k * fac (st 2) (st 3) mm (st 25 k) d)) else 0) k) → n - k < fuel → ∀ (H : Heap) (locs : List Loc) (ls : Array Slot), GW D vwCl 28 (celL cg) ad (wA 28 ad) s.heap st H locs → lv_has ls 7 [(0, .ref (ad 0)), (1, .ref (ad 21)), (2, .int (iI d)), (3, .int (iI a)), (4, .int (iI ((k : Nat) : Int)))] → W p l e (headSpec wsX1_heldShares ({ frames := 1, cells := 0, slots := 0, locals := 24 })).room s m args below meth c H locs 0 0 (MQ below (va_Qi (fun (r : Int32) (u : Nat → Nat → Int) => ∃ z : Int, r = iI z ∧ (fun z st1 => st1 = st ∧ z = sm (fun k => if lvb (st 23) (st 24) v k = true ∧ st 25 k ≤ d then (if st 22 k = 0 then st 26 k * fac (st 2) (st 3) mm (st 25 k) d else -(st 26 k * fac (st 2) (st 3) mm (st 25 k) d)) else 0) n) z u) (mB D vwCl 28 (celL cg) ad) (wA 28 ad)) args s 0 0 (wA 28 ad)) (F0 m 5 ls []) := by
    intro fuel
    induction fuel with
    | zero => intro k a hk ha hmu; omega
    | succ fuel ih5 =>
      intro k a hk ha hmu H locs ls hW hl
      refine lv_iload hx hb dX1_heldShares_5 (lv_at hl 4 rfl) ?_
      refine lv_aload_n hx hb dX1_heldShares_7 rfl (lv_at hl 1 rfl) ?_
      refine mk_getN (ci := 0) (C := RX0) (T := TX0) (N := 7) hx hb hts inX0 hown hK hW 21 (by decide) rfl rfl 6 (by decide) fn55 (fun _ h9 => h9) rfl dX1_heldShares_8 ?_
      refine mk_sayi (y := ((n : Nat) : Int)) hn ?_
      refine mk_icmp_ge (tgt := 89) hx hb dX1_heldShares_11 (by decide) (by omega) (by omega) (fun c_11 => ?_) (fun c_11 => ?_)
      · skip
        refine lv_iload_n hx hb dX1_heldShares_89 rfl (lv_at hl 3 rfl) ?_
        exact mk_retI hx hb hr hlocks hW ⟨rfl, by rw [ha, show k = n by omega]⟩ dX1_heldShares_90
      · skip
        refine lv_aload_n hx hb dX1_heldShares_14 rfl (lv_at hl 1 rfl) ?_
        refine mk_getN (ci := 0) (C := RX0) (T := TX0) (N := 7) hx hb hts inX0 hown hK hW 21 (by decide) rfl rfl 3 (by decide) fn58 (fun _ h9 => h9) rfl dX1_heldShares_15 ?_
        refine lv_iload hx hb dX1_heldShares_18 (lv_at hl 4 rfl) ?_
        refine mk_iald hx hb hK hW 25 (by decide) rfl 0 rfl (j := k) rfl (by omega) (by decide) dX1_heldShares_20 ?_
        have hj := hJ.2 k (by omega)
        refine lv_istore (lv' := [(5, .int (iI (st 25 k))), (0, .ref (ad 0)), (1, .ref (ad 21)), (2, .int (iI d)), (3, .int (iI a)), (4, .int (iI ((k : Nat) : Int)))]) hx hb dX1_heldShares_21 hl (by decide) rfl (fun ls hl => ?_)
        refine lv_aload_n hx hb dX1_heldShares_23 rfl (lv_at hl 2 rfl) ?_
        refine lv_iload hx hb dX1_heldShares_24 (lv_at hl 5 rfl) ?_
        refine lv_aload_n hx hb dX1_heldShares_26 rfl (lv_at hl 1 rfl) ?_
        refine mk_get (ci := 1) (C := RX1) (T := TX1) (N := 4) hx hb hts inX1 hown hK hW 0 (by decide) rfl rfl 0 (by decide) fl32 (fun _ h9 => h9) rfl dX1_heldShares_27 ?_
        refine mk_sayi (y := v) hv ?_
        refine mk_goI (va_runV (As := [.int (iI ((k : Nat) : Int)), .int (iI v)]) (rest := []) ⟨hx, hb, hml, hown, hts⟩ (c_X0_counts l cg D ad st k v (by omega) (by omega) (by omega) (by omega)) (cwV 2 hts gX1_heldShares_X0_counts rfl rfl rfl (by decide +kernel) ⟨Nat.le_of_ble_eq_true rfl, Nat.le_of_ble_eq_true rfl⟩) (mk_preV hK hN hW 21 (by decide) rfl rfl rfl) rfl rfl hl.1 rfl (lv_room (Nat.le_of_ble_eq_true rfl)) dX1_heldShares_30 ⟨Nat.zero_le _, Nat.zero_le _⟩) hW (fun z st1 hp30 H locs hW => ?_)
        obtain ⟨est1, hz⟩ := hp30
        rw [est1] at hW
        refine mk_if_eq (tgt := 83) hx hb dX1_heldShares_33 (by decide) (by omega) (fun c_33 => ?_) (fun c_33 => ?_)
        · skip
          refine mk_iinc (w := ((k + 1 : Nat) : Int)) (lv' := [(4, .int (iI ((k + 1 : Nat) : Int))), (5, .int (iI (st 25 k))), (0, .ref (ad 0)), (1, .ref (ad 21)), (2, .int (iI d)), (3, .int (iI a))]) hx hb dX1_heldShares_83 hl (k := 5) rfl (by omega) (by decide) rfl (fun ls hl => ?_)
          refine lv_goto (tgt := 5) hx hb dX1_heldShares_86 (by decide) ?_
          exact ih5 (k + 1) a (by omega) (by rw [ha, sm_succ, if_neg (fun h => by have := lvb_t.mp h.1; omega), Int.add_zero]) (by omega) _ _ _ hW (lv_sub hl [2, 3, 4, 5, 0] rfl)
        · skip
          refine lv_iload hx hb dX1_heldShares_36 (lv_at hl 0 rfl) ?_
          refine lv_iload_n hx hb dX1_heldShares_38 rfl (lv_at hl 3 rfl) ?_
          refine mk_icmp_gt (tgt := 83) hx hb dX1_heldShares_39 (by decide) (by omega) (by omega) (fun c_39 => ?_) (fun c_39 => ?_)
          · skip
            refine mk_iinc (w := ((k + 1 : Nat) : Int)) (lv' := [(4, .int (iI ((k + 1 : Nat) : Int))), (5, .int (iI (st 25 k))), (0, .ref (ad 0)), (1, .ref (ad 21)), (2, .int (iI d)), (3, .int (iI a))]) hx hb dX1_heldShares_83 hl (k := 5) rfl (by omega) (by decide) rfl (fun ls hl => ?_)
            refine lv_goto (tgt := 5) hx hb dX1_heldShares_86 (by decide) ?_
            exact ih5 (k + 1) a (by omega) (by rw [ha, sm_succ, if_neg (fun h => by omega), Int.add_zero]) (by omega) _ _ _ hW (lv_sub hl [2, 3, 4, 5, 0] rfl)
          · skip
            refine lv_aload_n hx hb dX1_heldShares_42 rfl (lv_at hl 2 rfl) ?_
            refine mk_getN (ci := 0) (C := RX0) (T := TX0) (N := 7) hx hb hts inX0 hown hK hW 21 (by decide) rfl rfl 4 (by decide) fn66 (fun _ h9 => h9) rfl dX1_heldShares_43 ?_
            refine lv_iload hx hb dX1_heldShares_46 (lv_at hl 5 rfl) ?_
            refine mk_iald hx hb hK hW 26 (by decide) rfl 0 rfl (j := k) rfl (by omega) (by decide) dX1_heldShares_48 ?_
            refine lv_aload_n hx hb dX1_heldShares_49 rfl (lv_at hl 1 rfl) ?_
            refine mk_get (ci := 1) (C := RX1) (T := TX1) (N := 4) hx hb hts inX1 hown hK hW 0 (by decide) rfl rfl 1 (by decide) fl12 (fun _ h9 => h9) rfl dX1_heldShares_50 ?_
            refine lv_iload hx hb dX1_heldShares_53 (lv_at hl 0 rfl) ?_
            refine lv_iload_n hx hb dX1_heldShares_55 rfl (lv_at hl 3 rfl) ?_
            refine mk_goI (va_runV (As := [.int (iI (st 25 k)), .int (iI d)]) (rest := [.int (iI (st 26 k))]) ⟨hx, hb, hml, hown, hts⟩ (c_X4_factorBetween l cg D ad st (st 25 k) d mm hm hS (by omega) hd) (cwV 2 hts gX1_heldShares_X4_factorBetween rfl rfl rfl (by decide +kernel) ⟨Nat.le_of_ble_eq_true rfl, Nat.le_of_ble_eq_true rfl⟩) (mk_preV hK hN hW 1 (by decide) rfl rfl rfl) rfl rfl hl.1 rfl (lv_room (Nat.le_of_ble_eq_true rfl)) dX1_heldShares_56 ⟨Nat.zero_le _, Nat.zero_le _⟩) hW (fun z2 st2 hp56 H locs hW => ?_)
            obtain ⟨est2, hz2⟩ := hp56
            rw [est2] at hW
            refine mk_imul hx hb dX1_heldShares_59 ?_
            refine mk_topi (fun x e_x => ?_)
            refine lv_istore (lv' := [(6, .int (iI x)), (5, .int (iI (st 25 k))), (0, .ref (ad 0)), (1, .ref (ad 21)), (2, .int (iI d)), (3, .int (iI a)), (4, .int (iI ((k : Nat) : Int)))]) hx hb dX1_heldShares_60 hl (by decide) rfl (fun ls hl => ?_)
            refine lv_iload_n hx hb dX1_heldShares_62 rfl (lv_at hl 5 rfl) ?_
            refine lv_aload_n hx hb dX1_heldShares_63 rfl (lv_at hl 3 rfl) ?_
            refine mk_getN (ci := 0) (C := RX0) (T := TX0) (N := 7) hx hb hts inX0 hown hK hW 21 (by decide) rfl rfl 0 (by decide) fn73 (fun _ h9 => h9) rfl dX1_heldShares_64 ?_
            refine lv_iload hx hb dX1_heldShares_67 (lv_at hl 6 rfl) ?_
            refine mk_zald hx hb hK hW 22 (by decide) rfl 1 rfl (j := k) rfl (by omega) (by decide) dX1_heldShares_69 ?_
            refine mk_if_eq (tgt := 79) hx hb dX1_heldShares_70 (by decide) (by omega) (fun c_70 => ?_) (fun c_70 => ?_)
            · skip
              refine lv_iload hx hb dX1_heldShares_79 (lv_at hl 0 rfl) ?_
              refine mk_iadd hx hb dX1_heldShares_81 ?_
              refine lv_istore_n (lv' := [(3, .int (iI (a + x))), (6, .int (iI x)), (5, .int (iI (st 25 k))), (0, .ref (ad 0)), (1, .ref (ad 21)), (2, .int (iI d)), (4, .int (iI ((k : Nat) : Int)))]) hx hb dX1_heldShares_82 rfl hl (by decide) rfl (fun ls hl => ?_)
              refine mk_iinc (w := ((k + 1 : Nat) : Int)) (lv' := [(4, .int (iI ((k + 1 : Nat) : Int))), (3, .int (iI (a + x))), (6, .int (iI x)), (5, .int (iI (st 25 k))), (0, .ref (ad 0)), (1, .ref (ad 21)), (2, .int (iI d))]) hx hb dX1_heldShares_83 hl (k := 6) rfl (by omega) (by decide) rfl (fun ls hl => ?_)
              refine lv_goto (tgt := 5) hx hb dX1_heldShares_86 (by decide) ?_
              exact ih5 (k + 1) (a + x) (by omega) (by rw [ha, sm_succ, if_pos ⟨lvb_t.mpr (by omega), by omega⟩, if_pos c_70, e_x, hz2]) (by omega) _ _ _ hW (lv_sub hl [4, 5, 6, 1, 0] rfl)
            · skip
              refine lv_iload hx hb dX1_heldShares_73 (lv_at hl 0 rfl) ?_
              refine mk_ineg hx hb dX1_heldShares_75 ?_
              refine lv_goto (tgt := 81) hx hb dX1_heldShares_76 (by decide) ?_
              refine mk_iadd hx hb dX1_heldShares_81 ?_
              refine lv_istore_n (lv' := [(3, .int (iI (a + (-x)))), (6, .int (iI x)), (5, .int (iI (st 25 k))), (0, .ref (ad 0)), (1, .ref (ad 21)), (2, .int (iI d)), (4, .int (iI ((k : Nat) : Int)))]) hx hb dX1_heldShares_82 rfl hl (by decide) rfl (fun ls hl => ?_)
              refine mk_iinc (w := ((k + 1 : Nat) : Int)) (lv' := [(4, .int (iI ((k + 1 : Nat) : Int))), (3, .int (iI (a + (-x)))), (6, .int (iI x)), (5, .int (iI (st 25 k))), (0, .ref (ad 0)), (1, .ref (ad 21)), (2, .int (iI d))]) hx hb dX1_heldShares_83 hl (k := 6) rfl (by omega) (by decide) rfl (fun ls hl => ?_)
              refine lv_goto (tgt := 5) hx hb dX1_heldShares_86 (by decide) ?_
              exact ih5 (k + 1) (a + (-x)) (by omega) (by rw [ha, sm_succ, if_pos ⟨lvb_t.mpr (by omega), by omega⟩, if_neg c_70, e_x, hz2]) (by omega) _ _ _ hW (lv_sub hl [4, 5, 6, 1, 0] rfl)
  exact loop5 _ 0 0 (Nat.zero_le _) rfl (Nat.lt_succ_self _) _ _ _ hW (lv_sub hl [2, 3, 4, 1, 0] rfl)

