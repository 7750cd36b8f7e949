set_option maxHeartbeats 4000000 in
set_option maxRecDepth 100000 in
theorem c_X6_reckons (l : Launch) (cg : Nat → ClassId) (D : va_G) (ad : Nat → Nat) (st : Nat → Nat → Int) (v n mm : Nat) (hv : v < 3) (hn : st 0 0 = n) (hJ : JV (st 5) (st 6) (st 1) (st 2) (st 3) (st 4) n) (hm : st 7 v = mm) (hS : SPV (fun i => st 8 (4 * v + i)) (fun i => st 9 (4 * v + i)) mm) (R : Nat) (fD : Nat → Int) (hI : IsR (lvb (st 6) (st 1) (v : Int)) (st 2) n R fD) (wd : Int) (hwd : st 0 11 = wd) (hwr : 0 ≤ wd ∧ wd ≤ 60) (hh : ∀ d, 0 ≤ (hold (lvb (st 6) (st 1) (v : Int)) (st 5) (st 2) (uni (st 3) (st 2) (fun i => st 8 (4 * v + i)) (fun i => st 9 (4 * v + i)) mm) n d)) : MV l yX6_reckons wsX6_reckons ({ frames := 2, cells := 0, slots := 0, locals := 54 }) D vwCl (TY cg) 26 (celM cg) ad st [.ref (ad 0), .int (iI ((v : Nat) : Int))] (fun st1 => Fr [0, 11, 12, 13, 14, 15, 16, 17, 18, 19, 20, 21, 22, 23, 24, 25] st st1 ∧ (st1 0 0 = st 0 0 ∧ st1 0 11 = st 0 11 ∧ st1 0 29 = st 0 29) ∧ MOK R fD (qB (lvb (st 6) (st 1) (v : Int)) (st 5) (st 2) (uni (st 3) (st 2) (fun i => st 8 (4 * v + i)) (fun i => st 9 (4 * v + i)) mm) n fD) (qB (lvb (st 6) (st 1) (v : Int)) (st 5) (st 2) (st 4) n fD) (qS (lvb (st 6) (st 1) (v : Int)) (st 5) (st 2) (uni (st 3) (st 2) (fun i => st 8 (4 * v + i)) (fun i => st 9 (4 * v + i)) mm) n fD) (qS (lvb (st 6) (st 1) (v : Int)) (st 5) (st 2) (st 4) n fD) wd st1) := by
  refine mk_open (cc := cX6_reckons) (maxL := 4) (ret := none) (by decide) rfl (Nat.le_of_ble_eq_true rfl) ?_
  intro p e s m args below meth c hx hb hml hr hown hts hlocks hK hN hargs ls hl hW
  have hown : s.vm.findClass RX6 = some m.cls := hown
  have hl : lv_has ls 4 [(0, .ref (ad 0)), (1, .int (iI ((v : Nat) : Int)))] := hl
  have inX6 : ∀ w ∈ wsX60, w ∈ wsX6_reckons := by decide +kernel
  have fl127 := hts (.fieldLink RX6 127 "GainsReckonerModel" "made" "I") (by decide +kernel)
  have fl124 := hts (.fieldLink RX6 124 "GainsReckonerModel" "days" "I") (by decide +kernel)
  have fl45 := hts (.fieldLink RX6 45 "GainsReckonerModel" "date" "[I") (by decide +kernel)
  have fl41 := hts (.fieldLink RX6 41 "GainsReckonerModel" "window" "I") (by decide +kernel)
  refine lv_aload_n hx hb dX6_reckons_0 rfl (lv_at hl 0 rfl) ?_
  refine lv_iload_n hx hb dX6_reckons_1 rfl (lv_at hl 1 rfl) ?_
  refine mk_goV (va_runV (As := [.int (iI ((v : Nat) : Int))]) (rest := []) ⟨hx, hb, hml, hown, hts⟩ (c_X6_laysDays l cg D ad st v n mm hv hn hJ hm hS R fD hI) (cwV 1 hts gX6_reckons_X6_laysDays rfl rfl rfl (by decide +kernel) ⟨Nat.le_of_ble_eq_true rfl, Nat.le_of_ble_eq_true rfl⟩) (mk_preV hK hN hW 0 (by decide) rfl rfl rfl) rfl rfl hl.1 rfl (lv_room (Nat.le_of_ble_eq_true rfl)) dX6_reckons_2 ⟨Nat.zero_le _, Nat.zero_le _⟩) hW (fun st1 hp2 H locs hW => ?_)
  obtain ⟨hf0, hkp, h12, hrow⟩ := hp2
  have hRN := RN_of hJ hS hI hh
  obtain ⟨fb, efb⟩ : ∃ z, z = (qB (lvb (st 6) (st 1) (v : Int)) (st 5) (st 2) (uni (st 3) (st 2) (fun i => st 8 (4 * v + i)) (fun i => st 9 (4 * v + i)) mm) n fD) := ⟨_, rfl⟩
  obtain ⟨fc, efc⟩ : ∃ z, z = (qB (lvb (st 6) (st 1) (v : Int)) (st 5) (st 2) (st 4) n fD) := ⟨_, rfl⟩
  obtain ⟨fs, efs⟩ : ∃ z, z = (qS (lvb (st 6) (st 1) (v : Int)) (st 5) (st 2) (uni (st 3) (st 2) (fun i => st 8 (4 * v + i)) (fun i => st 9 (4 * v + i)) mm) n fD) := ⟨_, rfl⟩
  obtain ⟨fp, efp⟩ : ∃ z, z = (qS (lvb (st 6) (st 1) (v : Int)) (st 5) (st 2) (st 4) n fD) := ⟨_, rfl⟩
  rw [← efb, ← efc, ← efs, ← efp] at hrow hRN
  obtain ⟨hR6, hso, hDr, hb0, hs0, hc0, hp0, hh0, hnz, hc6, hp6, hb6, hs6⟩ := id hRN
  have hmade := hRN.made (w := wd)
  have eMade : (mMade fD fb fs fc fp wd R).length = (mSs fb fs fc fp R).length + ((mLL fD fb fs fc fp wd R R).length + (mPP fD fb fs fc fp wd R R).length) := by
    unfold mMade; rw [List.length_append, List.length_append]
  refine lv_aload_n hx hb dX6_reckons_5 rfl (lv_at hl 0 rfl) ?_
  refine mk_iconst hx hb (0) dX6_reckons_6 ?_
  refine mk_put (ci := 6) (C := RX6) (T := TX6) (N := 30) hx hb hts inX6 tyX6 tyX6_ok nmX6 hown hK hW 0 (by decide) rfl rfl 22 (by decide) fl127 (fun _ h9 => h9) rfl (by decide +kernel) (Nat.le_of_ble_eq_true rfl) rfl dX6_reckons_7 (fun H locs hW => ?_)
  obtain ⟨st3, est3⟩ : ∃ z, z = stC st1 0 (fnU (st1 0) 22 0) := ⟨_, rfl⟩
  rw [← est3] at hW
  have hr1 : ∀ i, i < R → st3 12 i = fb i ∧ st3 13 i = fc i ∧ st3 14 i = fs i ∧ st3 15 i = fp i ∧ st3 16 i = fb i ∧ st3 17 i = fs i := fun i hi => by rw [est3]; exact (hrow i hi).2
  have hr0 : ∀ j, j ≠ 22 → st3 0 j = st1 0 j := fun j hj => by rw [est3]; exact fnU_ne hj
  have hA0 : AM st3 [] := by rw [est3]; exact ⟨rfl, fun i x hx => by simp at hx⟩
  refine mk_iconst hx hb (0) dX6_reckons_10 ?_
  refine lv_istore_n (lv' := [(2, .int (iI 0)), (0, .ref (ad 0)), (1, .int (iI ((v : Nat) : Int)))]) hx hb dX6_reckons_11 rfl hl (by decide) rfl (fun ls hl => ?_)
  have loop12 : ∀ (fuel : Nat) (q1 : Nat → Nat → Int) (k : Nat), (k ≤ R) → (Fr [0, 16, 17, 20, 21, 22, 23, 24, 25] st3 q1) → (∀ j, j ≠ 22 → q1 0 j = st3 0 j) → (AM q1 (mSs fb fs fc fp k)) → (∀ i, i < R → q1 16 i = (if i < k then blw fD fb fs wd 0 i else fb i) ∧ q1 17 i = (if i < k then fs i - min (fb i) (fs i) else fs i)) → R - k < fuel → ∀ (H : Heap) (locs : List Loc) (ls : Array Slot), GW D vwCl 26 (celM cg) ad (wA 26 ad) s.heap q1 H locs → lv_has ls 4 [(0, .ref (ad 0)), (1, .int (iI ((v : Nat) : Int))), (2, .int (iI ((k : Nat) : Int)))] → W p l e (headSpec wsX6_reckons ({ frames := 2, cells := 0, slots := 0, locals := 54 })).room s m args below meth c H locs 0 0 (MQ below (va_Qv (fun st1 => Fr [0, 11, 12, 13, 14, 15, 16, 17, 18, 19, 20, 21, 22, 23, 24, 25] st st1 ∧ (st1 0 0 = st 0 0 ∧ st1 0 11 = st 0 11 ∧ st1 0 29 = st 0 29) ∧ MOK R fD (qB (lvb (st 6) (st 1) (v : Int)) (st 5) (st 2) (uni (st 3) (st 2) (fun i => st 8 (4 * v + i)) (fun i => st 9 (4 * v + i)) mm) n fD) (qB (lvb (st 6) (st 1) (v : Int)) (st 5) (st 2) (st 4) n fD) (qS (lvb (st 6) (st 1) (v : Int)) (st 5) (st 2) (uni (st 3) (st 2) (fun i => st 8 (4 * v + i)) (fun i => st 9 (4 * v + i)) mm) n fD) (qS (lvb (st 6) (st 1) (v : Int)) (st 5) (st 2) (st 4) n fD) wd st1) (mB D vwCl 26 (celM cg) ad) (wA 26 ad)) args s 0 0 (wA 26 ad)) (F0 m 12 ls []) := by
    intro fuel
    induction fuel with
    | zero => intro q1 k hk hf1 hk01 hA1 hv1 hmu; omega
    | succ fuel ih12 =>
      intro q1 k hk hf1 hk01 hA1 hv1 hmu H locs ls hW hl
      refine lv_iload_n hx hb dX6_reckons_12 rfl (lv_at hl 2 rfl) ?_
      refine lv_aload_n hx hb dX6_reckons_13 rfl (lv_at hl 0 rfl) ?_
      refine mk_get (ci := 6) (C := RX6) (T := TX6) (N := 30) hx hb hts inX6 hown hK hW 0 (by decide) rfl rfl 12 (by decide) fl124 (fun _ h9 => h9) rfl dX6_reckons_14 ?_
      refine mk_sayi (y := (st1 0 12)) (by rw [hk01 12 (by decide), show st3 0 12 = st1 0 12 from by rw [est3]; rfl]) ?_
      refine mk_sayi (y := ((R : Nat) : Int)) h12 ?_
      refine mk_icmp_ge (tgt := 33) hx hb dX6_reckons_17 (by decide) (by omega) (by omega) (fun c_17 => ?_) (fun c_17 => ?_)
      · skip
        refine mk_iconst hx hb (0) dX6_reckons_33 ?_
        refine lv_istore_n (lv' := [(2, .int (iI 0)), (0, .ref (ad 0)), (1, .int (iI ((v : Nat) : Int)))]) hx hb dX6_reckons_34 rfl hl (by decide) rfl (fun ls hl => ?_)
        have loop35 : ∀ (fuel : Nat) (q2 : Nat → Nat → Int) (k2 : Nat), (k2 ≤ R) → (Fr [0, 16, 17, 20, 21, 22, 23, 24, 25] st3 q2) → (∀ j, j ≠ 22 → q2 0 j = st3 0 j) → (AM q2 (mSs fb fs fc fp R ++ mLL fD fb fs fc fp wd R k2)) → (∀ i, i < R → q2 16 i = blw fD fb fs wd k2 i ∧ q2 17 i = (if i < k2 then slft fD fb fs wd i R else fs i - min (fb i) (fs i))) → R - k2 < fuel → ∀ (H : Heap) (locs : List Loc) (ls : Array Slot), GW D vwCl 26 (celM cg) ad (wA 26 ad) s.heap q2 H locs → lv_has ls 4 [(0, .ref (ad 0)), (2, .int (iI ((k2 : Nat) : Int)))] → W p l e (headSpec wsX6_reckons ({ frames := 2, cells := 0, slots := 0, locals := 54 })).room s m args below meth c H locs 0 0 (MQ below (va_Qv (fun st1 => Fr [0, 11, 12, 13, 14, 15, 16, 17, 18, 19, 20, 21, 22, 23, 24, 25] st st1 ∧ (st1 0 0 = st 0 0 ∧ st1 0 11 = st 0 11 ∧ st1 0 29 = st 0 29) ∧ MOK R fD (qB (lvb (st 6) (st 1) (v : Int)) (st 5) (st 2) (uni (st 3) (st 2) (fun i => st 8 (4 * v + i)) (fun i => st 9 (4 * v + i)) mm) n fD) (qB (lvb (st 6) (st 1) (v : Int)) (st 5) (st 2) (st 4) n fD) (qS (lvb (st 6) (st 1) (v : Int)) (st 5) (st 2) (uni (st 3) (st 2) (fun i => st 8 (4 * v + i)) (fun i => st 9 (4 * v + i)) mm) n fD) (qS (lvb (st 6) (st 1) (v : Int)) (st 5) (st 2) (st 4) n fD) wd st1) (mB D vwCl 26 (celM cg) ad) (wA 26 ad)) args s 0 0 (wA 26 ad)) (F0 m 35 ls []) := by
          intro fuel
          induction fuel with
          | zero => intro q2 k2 hk2 hf2 hk02 hA2 hv2 hmu; omega
          | succ fuel ih35 =>
            intro q2 k2 hk2 hf2 hk02 hA2 hv2 hmu H locs ls hW hl
            refine lv_iload_n hx hb dX6_reckons_35 rfl (lv_at hl 1 rfl) ?_
            refine lv_aload_n hx hb dX6_reckons_36 rfl (lv_at hl 0 rfl) ?_
            refine mk_get (ci := 6) (C := RX6) (T := TX6) (N := 30) hx hb hts inX6 hown hK hW 0 (by decide) rfl rfl 12 (by decide) fl124 (fun _ h9 => h9) rfl dX6_reckons_37 ?_
            refine mk_sayi (y := (st1 0 12)) (by rw [hk02 12 (by decide), show st3 0 12 = st1 0 12 from by rw [est3]; rfl]) ?_
            refine mk_sayi (y := ((R : Nat) : Int)) h12 ?_
            refine mk_icmp_ge (tgt := 94) hx hb dX6_reckons_40 (by decide) (by omega) (by omega) (fun c_40 => ?_) (fun c_40 => ?_)
            · skip
              have ekR : k2 = R := by omega
              refine lv_aload_n hx hb dX6_reckons_94 rfl (lv_at hl 0 rfl) ?_
              refine mk_goV (va_runV (As := []) (rest := []) ⟨hx, hb, hml, hown, hts⟩ (c_X6_pools l cg D ad q2 R fD fb fc fs fp wd hRN (by rw [hk02 12 (by decide), hr0 12 (by decide)]; exact h12) (fun i hi => ⟨by rw [hf2 12 (by decide)]; exact (hr1 i hi).1, by rw [hf2 13 (by decide)]; exact (hr1 i hi).2.1, by rw [hf2 14 (by decide)]; exact (hr1 i hi).2.2.1, by rw [hf2 15 (by decide)]; exact (hr1 i hi).2.2.2.1, by rw [(hv2 i hi).1, ekR], by rw [(hv2 i hi).2, if_pos (by omega)]⟩) (by rw [ekR] at hA2; exact hA2)) (cwV 0 hts gX6_reckons_X6_pools rfl rfl rfl (by decide +kernel) ⟨Nat.le_of_ble_eq_true rfl, Nat.le_of_ble_eq_true rfl⟩) (mk_preV hK hN hW 0 (by decide) rfl rfl rfl) rfl rfl hl.1 rfl (lv_room (Nat.le_of_ble_eq_true rfl)) dX6_reckons_95 ⟨Nat.zero_le _, Nat.zero_le _⟩) hW (fun st4 hp95 H locs hW => ?_)
              exact mk_retV hx hb hr hlocks hW (by
                obtain ⟨g1, g2, g3, g4⟩ := hp95
                have k0 : ∀ j, j ≠ 22 → st4 0 j = st1 0 j := fun j hj => by rw [g2 j hj, hk02 j hj, hr0 j hj]
                have f1 : Fr [0] st1 st3 := by rw [est3]; exact Fr.rf.st (by decide)
                refine ⟨((hf0.tr f1 [0, 11, 12, 13, 14, 15, 16, 17, 18, 19, 20, 21, 22, 23, 24, 25] (by decide)).tr hf2 [0, 11, 12, 13, 14, 15, 16, 17, 18, 19, 20, 21, 22, 23, 24, 25] (by decide)).tr g1 [0, 11, 12, 13, 14, 15, 16, 17, 18, 19, 20, 21, 22, 23, 24, 25] (by decide), ⟨by rw [k0 0 (by decide)]; exact hkp.1, by rw [k0 11 (by decide)]; exact hkp.2.1, by rw [k0 29 (by decide)]; exact hkp.2.2.2⟩, ?_⟩
                rw [← efb, ← efc, ← efs, ← efp]
                refine ⟨by rw [k0 12 (by decide)]; exact h12, fun i hi => ⟨?_, g3 i hi⟩, g4⟩
                rw [g1 11 (by decide), hf2 11 (by decide), f1 11 (by decide)]
                exact (hrow i hi).1) dX6_reckons_98
            · skip
              refine lv_iload_n hx hb dX6_reckons_43 rfl (lv_at hl 1 rfl) ?_
              refine mk_iconst hx hb (1) dX6_reckons_44 ?_
              refine mk_iadd hx hb dX6_reckons_45 ?_
              refine mk_sayi (y := ((k2 + 1 : Nat) : Int)) (by omega) ?_
              refine lv_istore_n (lv' := [(3, .int (iI ((k2 + 1 : Nat) : Int))), (0, .ref (ad 0)), (2, .int (iI ((k2 : Nat) : Int)))]) hx hb dX6_reckons_46 rfl hl (by decide) rfl (fun ls hl => ?_)
              have loop47 : ∀ (fuel : Nat) (q3 : Nat → Nat → Int) (m2 : Nat), (k2 + 1 ≤ m2 ∧ m2 ≤ R) → (Fr [0, 16, 17, 20, 21, 22, 23, 24, 25] st3 q3) → (∀ j, j ≠ 22 → q3 0 j = st3 0 j) → (AM q3 (mSs fb fs fc fp R ++ (mLL fD fb fs fc fp wd R k2 ++ mLats fD fb fs fc fp wd k2 m2))) → (∀ i, i < R → q3 16 i = blw fD fb fs wd (if i < m2 then k2 + 1 else k2) i ∧ q3 17 i = (if i < k2 then slft fD fb fs wd i R else if i = k2 then slft fD fb fs wd k2 m2 else fs i - min (fb i) (fs i))) → R - m2 < fuel → ∀ (H : Heap) (locs : List Loc) (ls : Array Slot), GW D vwCl 26 (celM cg) ad (wA 26 ad) s.heap q3 H locs → lv_has ls 4 [(0, .ref (ad 0)), (2, .int (iI ((k2 : Nat) : Int))), (3, .int (iI ((m2 : Nat) : Int)))] → W p l e (headSpec wsX6_reckons ({ frames := 2, cells := 0, slots := 0, locals := 54 })).room s m args below meth c H locs 0 0 (MQ below (va_Qv (fun st1 => Fr [0, 11, 12, 13, 14, 15, 16, 17, 18, 19, 20, 21, 22, 23, 24, 25] st st1 ∧ (st1 0 0 = st 0 0 ∧ st1 0 11 = st 0 11 ∧ st1 0 29 = st 0 29) ∧ MOK R fD (qB (lvb (st 6) (st 1) (v : Int)) (st 5) (st 2) (uni (st 3) (st 2) (fun i => st 8 (4 * v + i)) (fun i => st 9 (4 * v + i)) mm) n fD) (qB (lvb (st 6) (st 1) (v : Int)) (st 5) (st 2) (st 4) n fD) (qS (lvb (st 6) (st 1) (v : Int)) (st 5) (st 2) (uni (st 3) (st 2) (fun i => st 8 (4 * v + i)) (fun i => st 9 (4 * v + i)) mm) n fD) (qS (lvb (st 6) (st 1) (v : Int)) (st 5) (st 2) (st 4) n fD) wd st1) (mB D vwCl 26 (celM cg) ad) (wA 26 ad)) args s 0 0 (wA 26 ad)) (F0 m 47 ls []) := by
                intro fuel
                induction fuel with
                | zero => intro q3 m2 hm2 hf3 hk03 hA3 hv3 hmu; omega
                | succ fuel ih47 =>
                  intro q3 m2 hm2 hf3 hk03 hA3 hv3 hmu H locs ls hW hl
                  refine lv_iload_n hx hb dX6_reckons_47 rfl (lv_at hl 2 rfl) ?_
                  refine lv_aload_n hx hb dX6_reckons_48 rfl (lv_at hl 0 rfl) ?_
                  refine mk_get (ci := 6) (C := RX6) (T := TX6) (N := 30) hx hb hts inX6 hown hK hW 0 (by decide) rfl rfl 12 (by decide) fl124 (fun _ h9 => h9) rfl dX6_reckons_49 ?_
                  refine mk_sayi (y := (st1 0 12)) (by rw [hk03 12 (by decide), show st3 0 12 = st1 0 12 from by rw [est3]; rfl]) ?_
                  refine mk_sayi (y := ((R : Nat) : Int)) h12 ?_
                  refine mk_icmp_ge (tgt := 88) hx hb dX6_reckons_52 (by decide) (by omega) (by omega) (fun c_52 => ?_) (fun c_52 => ?_)
                  · skip
                    refine mk_iinc (w := ((k2 + 1 : Nat) : Int)) (lv' := [(2, .int (iI ((k2 + 1 : Nat) : Int))), (0, .ref (ad 0)), (3, .int (iI ((m2 : Nat) : Int)))]) hx hb dX6_reckons_88 hl (k := 1) rfl (by omega) (by decide) rfl (fun ls hl => ?_)
                    refine lv_goto (tgt := 35) hx hb dX6_reckons_91 (by decide) ?_
                    have em : m2 = R := by omega
                    have hc2 : (AM q3 (mSs fb fs fc fp R ++ mLL fD fb fs fc fp wd R (k2 + 1))) ∧ ∀ i, i < R → q3 16 i = blw fD fb fs wd (k2 + 1) i ∧ q3 17 i = (if i < (k2 + 1) then slft fD fb fs wd i R else fs i - min (fb i) (fs i)) := by
                      refine ⟨by rw [mLL, ← em]; rw [← em] at hA3; exact hA3, fun i hi => ?_⟩
                      rw [(hv3 i hi).1, (hv3 i hi).2, if_pos (by omega), em]
                      refine ⟨rfl, ?_⟩
                      by_cases y : i < k2
                      · rw [if_pos y, if_pos (by omega)]
                      · rw [if_neg y]
                        by_cases x : i = k2
                        · rw [if_pos x, if_pos (by omega), x]
                        · rw [if_neg x, if_neg (by omega)]
                    obtain ⟨g3, g4⟩ := hc2
                    exact ih35 q3 (k2 + 1) (by omega) hf3 hk03 g3 g4 (by omega) _ _ _ hW (lv_sub hl [1, 0] rfl)
                  · skip
                    refine lv_aload_n hx hb dX6_reckons_55 rfl (lv_at hl 0 rfl) ?_
                    refine mk_get (ci := 6) (C := RX6) (T := TX6) (N := 30) hx hb hts inX6 hown hK hW 0 (by decide) rfl rfl 13 (by decide) fl45 (fun _ h9 => h9) rfl dX6_reckons_56 ?_
                    refine lv_iload_n hx hb dX6_reckons_59 rfl (lv_at hl 2 rfl) ?_
                    refine mk_iald hx hb hK hW 11 (by decide) rfl 0 rfl (j := m2) rfl (by omega) (by decide) dX6_reckons_60 ?_
                    refine mk_sayi (y := (st1 11 m2)) (by rw [hf3 11 (by decide), show st3 11 = st1 11 from by rw [est3]; exact stC_ne (by decide)]) ?_
                    have hd60 := hDr m2 (by omega)
                    refine mk_sayi (y := (fD m2)) (hrow m2 (by omega)).1 ?_
                    refine lv_aload_n hx hb dX6_reckons_61 rfl (lv_at hl 0 rfl) ?_
                    refine mk_get (ci := 6) (C := RX6) (T := TX6) (N := 30) hx hb hts inX6 hown hK hW 0 (by decide) rfl rfl 13 (by decide) fl45 (fun _ h9 => h9) rfl dX6_reckons_62 ?_
                    refine lv_iload_n hx hb dX6_reckons_65 rfl (lv_at hl 1 rfl) ?_
                    refine mk_iald hx hb hK hW 11 (by decide) rfl 0 rfl (j := k2) rfl (by omega) (by decide) dX6_reckons_66 ?_
                    refine mk_sayi (y := (st1 11 k2)) (by rw [hf3 11 (by decide), show st3 11 = st1 11 from by rw [est3]; exact stC_ne (by decide)]) ?_
                    have hd66 := hDr k2 (by omega)
                    refine mk_sayi (y := (fD k2)) (hrow k2 (by omega)).1 ?_
                    refine mk_isub hx hb dX6_reckons_67 ?_
                    refine lv_aload_n hx hb dX6_reckons_68 rfl (lv_at hl 0 rfl) ?_
                    refine mk_get (ci := 6) (C := RX6) (T := TX6) (N := 30) hx hb hts inX6 hown hK hW 0 (by decide) rfl rfl 11 (by decide) fl41 (fun _ h9 => h9) rfl dX6_reckons_69 ?_
                    refine mk_sayi (y := (st 0 11)) (by rw [hk03 11 (by decide), show st3 0 11 = st1 0 11 from by rw [est3]; rfl, hkp.2.1]) ?_
                    refine mk_sayi (y := wd) hwd ?_
                    refine mk_icmp_gt (tgt := 82) hx hb dX6_reckons_72 (by decide) (by omega) (by omega) (fun c_72 => ?_) (fun c_72 => ?_)
                    · skip
                      refine mk_iinc (w := ((m2 + 1 : Nat) : Int)) (lv' := [(3, .int (iI ((m2 + 1 : Nat) : Int))), (0, .ref (ad 0)), (2, .int (iI ((k2 : Nat) : Int)))]) hx hb dX6_reckons_82 hl (k := 2) rfl (by omega) (by decide) rfl (fun ls hl => ?_)
                      refine lv_goto (tgt := 47) hx hb dX6_reckons_85 (by decide) ?_
                      have hu0 : utk fD fb fs wd k2 m2 = 0 := utk_no (fun h => by omega)
                      have hc3 : (AM q3 (mSs fb fs fc fp R ++ (mLL fD fb fs fc fp wd R k2 ++ mLats fD fb fs fc fp wd k2 (m2 + 1)))) ∧ ∀ i, i < R → q3 16 i = blw fD fb fs wd (if i < (m2 + 1) then k2 + 1 else k2) i ∧ q3 17 i = (if i < k2 then slft fD fb fs wd i R else if i = k2 then slft fD fb fs wd k2 (m2 + 1) else fs i - min (fb i) (fs i)) := by
                        refine ⟨by rw [mLats, mLat, if_neg (by omega), List.append_nil]; exact hA3, fun i hi => ?_⟩
                        rw [(hv3 i hi).1, (hv3 i hi).2]
                        refine ⟨?_, ?_⟩
                        · by_cases y : i < m2
                          · rw [if_pos y, if_pos (by omega)]
                          · rw [if_neg y]
                            by_cases x : i = m2
                            · rw [if_pos (by omega), x, blw_s, hu0]; omega
                            · rw [if_neg (by omega)]
                        · rw [slft_s, hu0, Int.sub_zero]
                      obtain ⟨g3, g4⟩ := hc3
                      exact ih47 q3 (m2 + 1) (by omega) hf3 hk03 g3 g4 (by omega) _ _ _ hW (lv_sub hl [1, 2, 0] rfl)
                    · skip
                      have a12 : q3 12 m2 = fb m2 := by rw [hf3 12 (by decide)]; exact (hr1 m2 (by omega)).1
                      have a13 : q3 13 m2 = fc m2 := by rw [hf3 13 (by decide)]; exact (hr1 m2 (by omega)).2.1
                      have a14 : q3 14 k2 = fs k2 := by rw [hf3 14 (by decide)]; exact (hr1 k2 (by omega)).2.2.1
                      have a15 : q3 15 k2 = fp k2 := by rw [hf3 15 (by decide)]; exact (hr1 k2 (by omega)).2.2.2.1
                      have b6 := hb0 m2
                      have b9 := hs0 k2
                      have b8 := hc0 m2
                      have b11 := hp0 k2
                      have a16 : q3 16 m2 = blw fD fb fs wd k2 m2 := by rw [(hv3 m2 (by omega)).1, if_neg (Nat.lt_irrefl m2)]
                      have a17 : q3 17 k2 = slft fD fb fs wd k2 m2 := by rw [(hv3 k2 (by omega)).2, if_neg (Nat.lt_irrefl k2), if_pos rfl]
                      have hB := (left_nn (D := fD) (w := wd) (fun i => (hb0 i).1) (fun i => (hs0 i).1) k2).1 m2
                      have hSn := (left_nn (D := fD) (w := wd) (fun i => (hb0 i).1) (fun i => (hs0 i).1) k2).2 m2
                      have hBl := blw_le (D := fD) (w := wd) (fun i => (hb0 i).1) (fun i => (hs0 i).1) k2 m2
                      have hSl := slft_le (D := fD) (w := wd) (fun i => (hb0 i).1) (fun i => (hs0 i).1) k2 m2
                      have b10 := hb0 k2
                      have b12 := hs0 m2
                      have hut : utk fD fb fs wd k2 m2 = min (blw fD fb fs wd k2 m2) (slft fD fb fs wd k2 m2) := utk_yes (by omega) (by omega)
                      have hl3 := mLats_pre (D := fD) (b := fb) (s := fs) (c := fc) (p := fp) (w := wd) k2 (m2 + 1) R (by omega)
                      have hl4 := mLats_pre (D := fD) (b := fb) (s := fs) (c := fc) (p := fp) (w := wd) k2 m2 R (by omega)
                      have hl5 := mLL_pre (D := fD) (b := fb) (s := fs) (c := fc) (p := fp) (w := wd) (R := R) (k2 + 1) R (by omega)
                      rw [mLL, List.length_append] at hl5
                      refine lv_aload_n hx hb dX6_reckons_75 rfl (lv_at hl 0 rfl) ?_
                      refine lv_iload_n hx hb dX6_reckons_76 rfl (lv_at hl 1 rfl) ?_
                      refine lv_iload_n hx hb dX6_reckons_77 rfl (lv_at hl 2 rfl) ?_
                      refine mk_iconst hx hb (1) dX6_reckons_78 ?_
                      refine mk_goV (va_runV (As := [.int (iI ((k2 : Nat) : Int)), .int (iI ((m2 : Nat) : Int)), .int (iI 1)]) (rest := []) ⟨hx, hb, hml, hown, hts⟩ (c_X6_pairs l cg D ad q3 k2 m2 (mSs fb fs fc fp R ++ (mLL fD fb fs fc fp wd R k2 ++ mLats fD fb fs fc fp wd k2 m2)).length 1 (by omega) (by omega) hA3.1 (by rw [List.length_append, List.length_append]; omega) (by rw [a17, a14]; omega) (by rw [a16, a12]; omega) (by rw [a13]; omega) (by rw [a15]; omega)) (cwV 3 hts gX6_reckons_X6_pairs rfl rfl rfl (by decide +kernel) ⟨Nat.le_of_ble_eq_true rfl, Nat.le_of_ble_eq_true rfl⟩) (mk_preV hK hN hW 0 (by decide) rfl rfl rfl) rfl rfl hl.1 rfl (lv_room (Nat.le_of_ble_eq_true rfl)) dX6_reckons_79 ⟨Nat.zero_le _, Nat.zero_le _⟩) hW (fun st6 hp79 H locs hW => ?_)
                      
                      refine mk_iinc (w := ((m2 + 1 : Nat) : Int)) (lv' := [(3, .int (iI ((m2 + 1 : Nat) : Int))), (0, .ref (ad 0)), (2, .int (iI ((k2 : Nat) : Int)))]) hx hb dX6_reckons_82 hl (k := 2) rfl (by omega) (by decide) rfl (fun ls hl => ?_)
                      refine lv_goto (tgt := 47) hx hb dX6_reckons_85 (by decide) ?_
                      have hc3 : (Fr [0, 16, 17, 20, 21, 22, 23, 24, 25] st3 st6) ∧ (∀ j, j ≠ 22 → st6 0 j = st3 0 j) ∧ (AM st6 (mSs fb fs fc fp R ++ (mLL fD fb fs fc fp wd R k2 ++ mLats fD fb fs fc fp wd k2 (m2 + 1)))) ∧ ∀ i, i < R → st6 16 i = blw fD fb fs wd (if i < (m2 + 1) then k2 + 1 else k2) i ∧ st6 17 i = (if i < k2 then slft fD fb fs wd i R else if i = k2 then slft fD fb fs wd k2 (m2 + 1) else fs i - min (fb i) (fs i)) := by
                        rw [a16, a17, a14, a12, a13, a15] at hp79
                        rcases hp79 with ⟨h8, h9⟩ | ⟨h8, h9⟩
                        · have hu0 : utk fD fb fs wd k2 m2 = 0 := by omega
                          rw [h9]
                          refine ⟨hf3, hk03, by rw [mLats, mLat, if_neg (by omega), List.append_nil]; exact hA3, fun i hi => ?_⟩
                          rw [(hv3 i hi).1, (hv3 i hi).2]
                          refine ⟨?_, ?_⟩
                          · by_cases y : i < m2
                            · rw [if_pos y, if_pos (by omega)]
                            · rw [if_neg y]
                              by_cases x : i = m2
                              · rw [if_pos (by omega), x, blw_s, hu0]; omega
                              · rw [if_neg (by omega)]
                          · rw [slft_s, hu0, Int.sub_zero]
                        · have e9 : min (slft fD fb fs wd k2 m2) (blw fD fb fs wd k2 m2) = utk fD fb fs wd k2 m2 := by omega
                          rw [e9] at h8 h9
                          have eM : mLats fD fb fs fc fp wd k2 (m2 + 1) = mLats fD fb fs fc fp wd k2 m2 ++ [(k2, (m2 : Int), 1, utk fD fb fs wd k2 m2, prt (fc m2) (fb m2) (fb m2 - blw fD fb fs wd k2 m2) (utk fD fb fs wd k2 m2), prt (fp k2) (fs k2) (fs k2 - slft fD fb fs wd k2 m2) (utk fD fb fs wd k2 m2))] := by
                            rw [mLats, mLat, if_pos h8]
                          obtain ⟨v16, v17, v0⟩ := addP_at q3 (mSs fb fs fc fp R ++ (mLL fD fb fs fc fp wd R k2 ++ mLats fD fb fs fc fp wd k2 m2)).length k2 m2 1 (utk fD fb fs wd k2 m2) (prt (fc m2) (fb m2) (fb m2 - blw fD fb fs wd k2 m2) (utk fD fb fs wd k2 m2)) (prt (fp k2) (fs k2) (fs k2 - slft fD fb fs wd k2 m2) (utk fD fb fs wd k2 m2))
                          rw [← h9] at v16 v17 v0
                          refine ⟨by rw [h9]; exact hf3.tr (addP_fr _ _ _ _ _ _ _ _) _ (by decide), fun j hj => by rw [v0, fnU_ne hj]; exact hk03 j hj, ?_, fun i hi => ?_⟩
                          · rw [h9, eM, ← List.append_assoc, ← List.append_assoc]
                            have h10 := hA3
                            rw [← List.append_assoc] at h10
                            have h11 := h10.addP (k := k2) (m := m2) (how := 1) (u := utk fD fb fs wd k2 m2) (c := prt (fc m2) (fb m2) (fb m2 - blw fD fb fs wd k2 m2) (utk fD fb fs wd k2 m2)) (p := prt (fp k2) (fs k2) (fs k2 - slft fD fb fs wd k2 m2) (utk fD fb fs wd k2 m2)) (k2, (m2 : Int), 1, utk fD fb fs wd k2 m2, prt (fc m2) (fb m2) (fb m2 - blw fD fb fs wd k2 m2) (utk fD fb fs wd k2 m2), prt (fp k2) (fs k2) (fs k2 - slft fD fb fs wd k2 m2) (utk fD fb fs wd k2 m2)) rfl rfl rfl rfl rfl rfl
                            rw [List.append_assoc (mSs fb fs fc fp R ++ mLL fD fb fs fc fp wd R k2)] at h11
                            exact h11
                          · rw [v16, v17]
                            refine ⟨?_, ?_⟩
                            · by_cases x : i = m2
                              · subst x
                                rw [fnU_eq, if_pos (by omega), a16, blw_s]
                              · rw [fnU_ne x, (hv3 i hi).1]
                                by_cases y : i < m2
                                · rw [if_pos y, if_pos (by omega)]
                                · rw [if_neg y, if_neg (by omega)]
                            · by_cases x : i = k2
                              · subst x
                                rw [fnU_eq, if_neg (Nat.lt_irrefl i), if_pos rfl, a17, slft_s]
                              · rw [fnU_ne x, (hv3 i hi).2, if_neg x, if_neg x]
                      obtain ⟨g1, g2, g3, g4⟩ := hc3
                      exact ih47 st6 (m2 + 1) (by omega) g1 g2 g3 g4 (by omega) _ _ _ hW (lv_sub hl [1, 2, 0] rfl)
              exact loop47 _ q2 (k2 + 1) (by omega) hf2 hk02 (by rw [mLats_own (k2 + 1) (Nat.le_refl _), List.append_nil]; exact hA2) (fun i hi => ⟨by rw [(hv2 i hi).1]; by_cases y : i < k2 + 1; rw [if_pos y, blw_s, utk_no (by omega), Int.sub_zero]; rw [if_neg y], by rw [(hv2 i hi).2]; by_cases y : i < k2; rw [if_pos y, if_pos y]; rw [if_neg y, if_neg y]; by_cases x : i = k2; rw [if_pos x, slft_own (k2 + 1) (Nat.le_refl _), x]; rw [if_neg x]⟩) (Nat.lt_succ_self _) _ _ _ hW (lv_sub hl [1, 2, 0] rfl)
        exact loop35 _ q1 0 (Nat.zero_le _) hf1 hk01 (by rw [show mLL fD fb fs fc fp wd R 0 = [] from rfl, List.append_nil]; exact (show k = R by omega) ▸ hA1) (fun i hi => ⟨by rw [(hv1 i hi).1, if_pos (by omega)], by rw [(hv1 i hi).2, if_pos (by omega), if_neg (Nat.not_lt_zero i)]⟩) (Nat.lt_succ_self _) _ _ _ hW (lv_sub hl [1, 0] rfl)
      · skip
        have a12 : q1 12 k = fb k := by rw [hf1 12 (by decide)]; exact (hr1 k (by omega)).1
        have a13 : q1 13 k = fc k := by rw [hf1 13 (by decide)]; exact (hr1 k (by omega)).2.1
        have a14 : q1 14 k = fs k := by rw [hf1 14 (by decide)]; exact (hr1 k (by omega)).2.2.1
        have a15 : q1 15 k = fp k := by rw [hf1 15 (by decide)]; exact (hr1 k (by omega)).2.2.2.1
        have b6 := hb0 k
        have b9 := hs0 k
        have b8 := hc0 k
        have b11 := hp0 k
        have a16 : q1 16 k = fb k := by rw [(hv1 k (by omega)).1, if_neg (Nat.lt_irrefl k)]
        have a17 : q1 17 k = fs k := by rw [(hv1 k (by omega)).2, if_neg (Nat.lt_irrefl k)]
        have hl1 := mSs_pre (b := fb) (s := fs) (c := fc) (p := fp) k R (by omega)
        refine lv_aload_n hx hb dX6_reckons_20 rfl (lv_at hl 0 rfl) ?_
        refine lv_iload_n hx hb dX6_reckons_21 rfl (lv_at hl 2 rfl) ?_
        refine lv_iload_n hx hb dX6_reckons_22 rfl (lv_at hl 2 rfl) ?_
        refine mk_iconst hx hb (0) dX6_reckons_23 ?_
        refine mk_goV (va_runV (As := [.int (iI ((k : Nat) : Int)), .int (iI ((k : Nat) : Int)), .int (iI 0)]) (rest := []) ⟨hx, hb, hml, hown, hts⟩ (c_X6_pairs l cg D ad q1 k k (mSs fb fs fc fp k).length 0 (by omega) (by omega) hA1.1 (by omega) (by rw [a17, a14]; omega) (by rw [a16, a12]; omega) (by rw [a13]; omega) (by rw [a15]; omega)) (cwV 3 hts gX6_reckons_X6_pairs rfl rfl rfl (by decide +kernel) ⟨Nat.le_of_ble_eq_true rfl, Nat.le_of_ble_eq_true rfl⟩) (mk_preV hK hN hW 0 (by decide) rfl rfl rfl) rfl rfl hl.1 rfl (lv_room (Nat.le_of_ble_eq_true rfl)) dX6_reckons_24 ⟨Nat.zero_le _, Nat.zero_le _⟩) hW (fun st8 hp24 H locs hW => ?_)
        
        refine mk_iinc (w := ((k + 1 : Nat) : Int)) (lv' := [(2, .int (iI ((k + 1 : Nat) : Int))), (0, .ref (ad 0)), (1, .int (iI ((v : Nat) : Int)))]) hx hb dX6_reckons_27 hl (k := 2) rfl (by omega) (by decide) rfl (fun ls hl => ?_)
        refine lv_goto (tgt := 12) hx hb dX6_reckons_30 (by decide) ?_
        have hc1 : (Fr [0, 16, 17, 20, 21, 22, 23, 24, 25] st3 st8) ∧ (∀ j, j ≠ 22 → st8 0 j = st3 0 j) ∧ (AM st8 (mSs fb fs fc fp (k + 1))) ∧ ∀ i, i < R → st8 16 i = (if i < (k + 1) then blw fD fb fs wd 0 i else fb i) ∧ st8 17 i = (if i < (k + 1) then fs i - min (fb i) (fs i) else fs i) := by
          rw [a16, a17, a14, a12, a13, a15] at hp24
          rcases hp24 with ⟨h8, h9⟩ | ⟨h8, h9⟩
          · have eM : mSame fb fs fc fp k = [] := if_neg (by omega)
            rw [h9]
            refine ⟨hf1, hk01, by rw [mSs, eM, List.append_nil]; exact hA1, fun i hi => ?_⟩
            rw [(hv1 i hi).1, (hv1 i hi).2]
            rcases Nat.lt_or_ge i k with y | y
            · have y1 : i < k + 1 := by omega
              rw [if_pos y, if_pos y, if_pos y1, if_pos y1]; exact ⟨rfl, rfl⟩
            · have y0 : ¬ i < k := by omega
              rw [if_neg y0, if_neg y0]
              by_cases x : i = k
              · have y1 : i < k + 1 := by omega
                rw [if_pos y1, if_pos y1, blw_0, x]; exact ⟨by omega, by omega⟩
              · have y1 : ¬ i < k + 1 := by omega
                rw [if_neg y1, if_neg y1]; exact ⟨rfl, rfl⟩
          · have e9 : min (fs k) (fb k) = min (fb k) (fs k) := by omega
            rw [e9] at h8 h9
            have eM : mSame fb fs fc fp k = [(k, (k : Int), 0, min (fb k) (fs k), prt (fc k) (fb k) 0 (min (fb k) (fs k)), prt (fp k) (fs k) 0 (min (fb k) (fs k)))] := if_pos h8
            obtain ⟨v16, v17, v0⟩ := addP_at q1 (mSs fb fs fc fp k).length k k 0 (min (fb k) (fs k)) (prt (fc k) (fb k) (fb k - fb k) (min (fb k) (fs k))) (prt (fp k) (fs k) (fs k - fs k) (min (fb k) (fs k)))
            rw [← h9] at v16 v17 v0
            refine ⟨by rw [h9]; exact hf1.tr (addP_fr _ _ _ _ _ _ _ _) _ (by decide), fun j hj => by rw [v0, fnU_ne hj]; exact hk01 j hj, ?_, fun i hi => ?_⟩
            · rw [h9, mSs, eM]
              exact hA1.addP _ rfl rfl rfl rfl (by rw [Int.sub_self]) (by rw [Int.sub_self])
            · rw [v16, v17]
              by_cases x : i = k
              · subst x
                rw [fnU_eq, fnU_eq, if_pos (by omega), if_pos (by omega), a16, a17, blw_0]; exact ⟨rfl, rfl⟩
              · rw [fnU_ne x, fnU_ne x, (hv1 i hi).1, (hv1 i hi).2]
                by_cases y : i < k
                · rw [if_pos y, if_pos y, if_pos (by omega), if_pos (by omega)]; exact ⟨rfl, rfl⟩
                · rw [if_neg y, if_neg y, if_neg (by omega), if_neg (by omega)]; exact ⟨rfl, rfl⟩
        obtain ⟨g1, g2, g3, g4⟩ := hc1
        exact ih12 st8 (k + 1) (by omega) g1 g2 g3 g4 (by omega) _ _ _ hW (lv_sub hl [1, 2, 0] rfl)
  exact loop12 _ st3 0 (Nat.zero_le _) Fr.rf (fun _ _ => rfl) hA0 (fun i hi => ⟨by rw [if_neg (Nat.not_lt_zero i)]; exact (hr1 i hi).2.2.2.2.1, by rw [if_neg (Nat.not_lt_zero i)]; exact (hr1 i hi).2.2.2.2.2⟩) (Nat.lt_succ_self _) _ _ _ hW (lv_sub hl [1, 2, 0] rfl)

