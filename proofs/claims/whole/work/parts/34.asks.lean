theorem MOK.thr {R : Nat} {fD fb fc fs fp : Nat → Int} {wd : Int} {st : Nat → Nat → Int} (h : MOK R fD fb fc fs fp wd st) (x : Int) : MOK R fD fb fc fs fp wd (stC st 0 (fnU (st 0) 29 x)) :=
  ⟨h.1, h.2.1, h.2.2.fr (S := [0]) (Fr.rf.st (by decide)) rfl (by decide)⟩

set_option maxHeartbeats 4000000 in
set_option maxRecDepth 100000 in
theorem c_X6_costIn_no (l : Launch) (cg : Nat → ClassId) (D : va_G) (ad : Nat → Nat) (st : Nat → Nat → Int) (a : Int) (hB : BV st) (ha : -2147483648 ≤ a ∧ a < 2147483648) (hno : ¬ (0 ≤ a ∧ a ≤ 2)) : MI l yX6_costIn wsX6_costIn ({ frames := 2, cells := 0, slots := 0, locals := 50 }) D vwCl (TY cg) 26 (celM cg) ad st [.ref (ad 0), .int (iI a)] (fun z st1 => MW st st1 ∧ st1 0 29 = 1) := by
  refine mk_open (cc := cX6_costIn) (maxL := 4) (ret := (some .int)) (by decide) rfl (Nat.le_of_ble_eq_true rfl) ?_
  intro p e s m args below meth c hx hb hml hr hown hts hlocks hK hN hargs ls hl hW
  have hown : s.vm.findClass RX6 = some m.cls := hown
  have hl : lv_has ls 4 [(0, .ref (ad 0)), (1, .int (iI a))] := hl
  have inX6 : ∀ w ∈ wsX60, w ∈ wsX6_costIn := by decide +kernel
  have fl91 := hts (.fieldLink RX6 91 "GainsReckonerModel" "thrown" "I") (by decide +kernel)
  have fl98 := hts (.fieldLink RX6 98 "GainsReckonerModel" "trades" "I") (by decide +kernel)
  have hn6 := hB.n60
  refine lv_aload_n hx hb dX6_costIn_0 rfl (lv_at hl 0 rfl) ?_
  refine lv_iload_n hx hb dX6_costIn_1 rfl (lv_at hl 1 rfl) ?_
  refine mk_goI (va_runS (As := [.int (iI a)]) (rest := [.ref (ad 0)]) ⟨hx, hb, hml, hown, hts⟩ (c_X6_isShare l cg D ad st a (by omega)) (cwS 1 hts gX6_costIn_X6_isShare rfl rfl rfl (by decide +kernel) ⟨Nat.le_of_ble_eq_true rfl, Nat.le_of_ble_eq_true rfl⟩) (mk_preS hK hN hW) rfl rfl hl.1 rfl (lv_room (Nat.le_of_ble_eq_true rfl)) dX6_costIn_2 ⟨Nat.zero_le _, Nat.zero_le _⟩) hW (fun z st1 hp2 H locs hW => ?_)
  obtain ⟨est1, hz⟩ := hp2
  rw [est1] at hW
  refine mk_if_eq (tgt := 12) hx hb dX6_costIn_5 (by decide) (by omega) (fun c_5 => ?_) (fun c_5 => ?_)
  · skip
    refine mk_iconst hx hb (1) dX6_costIn_12 ?_
    refine mk_put (ci := 6) (C := RX6) (T := TX6) (N := 30) hx hb hts inX6 tyX6 tyX6_ok nmX6 hown hK hW 0 (by decide) rfl rfl 29 (by decide) fl91 (fun _ h9 => h9) rfl (by decide +kernel) (Nat.le_of_ble_eq_true rfl) rfl dX6_costIn_13 (fun H locs hW => ?_)
    obtain ⟨st2, est2⟩ : ∃ z, z = stC st 0 (fnU (st 0) 29 1) := ⟨_, rfl⟩
    rw [← est2] at hW
    have hM1 : MW st st2 := by rw [est2]; exact MW.thr st _
    have hB1 : BV st2 := hB.mw hM1
    have h29 : st2 0 29 = 1 := by rw [est2]; rfl
    refine mk_iconst hx hb (0) dX6_costIn_16 ?_
    refine lv_istore_n (lv' := [(2, .int (iI 0)), (0, .ref (ad 0)), (1, .int (iI a))]) hx hb dX6_costIn_17 rfl hl (by decide) rfl (fun ls hl => ?_)
    refine mk_iconst hx hb (0) dX6_costIn_18 ?_
    refine lv_istore_n (lv' := [(3, .int (iI 0)), (2, .int (iI 0)), (0, .ref (ad 0)), (1, .int (iI a))]) hx hb dX6_costIn_19 rfl hl (by decide) rfl (fun ls hl => ?_)
    refine lv_iload_n hx hb dX6_costIn_20 rfl (lv_at hl 0 rfl) ?_
    refine lv_aload_n hx hb dX6_costIn_21 rfl (lv_at hl 2 rfl) ?_
    refine mk_get (ci := 6) (C := RX6) (T := TX6) (N := 30) hx hb hts inX6 hown hK hW 0 (by decide) rfl rfl 0 (by decide) fl98 (fun _ h9 => h9) rfl dX6_costIn_22 ?_
    refine mk_sayi (y := (st 0 0)) (by rw [show st2 0 0 = st 0 0 from by rw [est2]; rfl]) ?_
    refine mk_sayi (y := (((bN st) : Nat) : Int)) hB.1 ?_
    refine mk_icmp_ge (tgt := 82) hx hb dX6_costIn_25 (by decide) (by omega) (by omega) (fun c_25 => ?_) (fun c_25 => ?_)
    · skip
      refine lv_iload_n hx hb dX6_costIn_82 rfl (lv_at hl 1 rfl) ?_
      exact mk_retI hx hb hr hlocks hW ⟨hM1, h29⟩ dX6_costIn_83
    · skip
      refine lv_aload_n hx hb dX6_costIn_28 rfl (lv_at hl 2 rfl) ?_
      refine mk_get (ci := 6) (C := RX6) (T := TX6) (N := 30) hx hb hts inX6 hown hK hW 0 (by decide) rfl rfl 29 (by decide) fl91 (fun _ h9 => h9) rfl dX6_costIn_29 ?_
      refine mk_sayi (y := 1) h29 ?_
      refine mk_if_ne (tgt := 82) hx hb dX6_costIn_32 (by decide) (by omega) (fun c_32 => ?_) (fun c_32 => ?_)
      · skip
        refine lv_iload_n hx hb dX6_costIn_82 rfl (lv_at hl 1 rfl) ?_
        exact mk_retI hx hb hr hlocks hW ⟨hM1, h29⟩ dX6_costIn_83
      · skip
        omega
  · skip
    omega

set_option maxHeartbeats 4000000 in
set_option maxRecDepth 100000 in
theorem c_X6_costMatched_no (l : Launch) (cg : Nat → ClassId) (D : va_G) (ad : Nat → Nat) (st : Nat → Nat → Int) (a : Int) (hB : BV st) (ha : -2147483648 ≤ a ∧ a < 2147483648) (hno : ¬ (0 ≤ a ∧ a ≤ 2)) : MI l yX6_costMatched wsX6_costMatched ({ frames := 2, cells := 0, slots := 0, locals := 50 }) D vwCl (TY cg) 26 (celM cg) ad st [.ref (ad 0), .int (iI a)] (fun z st1 => MW st st1 ∧ st1 0 29 = 1) := by
  refine mk_open (cc := cX6_costMatched) (maxL := 5) (ret := (some .int)) (by decide) rfl (Nat.le_of_ble_eq_true rfl) ?_
  intro p e s m args below meth c hx hb hml hr hown hts hlocks hK hN hargs ls hl hW
  have hown : s.vm.findClass RX6 = some m.cls := hown
  have hl : lv_has ls 5 [(0, .ref (ad 0)), (1, .int (iI a))] := hl
  have inX6 : ∀ w ∈ wsX60, w ∈ wsX6_costMatched := by decide +kernel
  have fl91 := hts (.fieldLink RX6 91 "GainsReckonerModel" "thrown" "I") (by decide +kernel)
  refine lv_aload_n hx hb dX6_costMatched_0 rfl (lv_at hl 0 rfl) ?_
  refine lv_iload_n hx hb dX6_costMatched_1 rfl (lv_at hl 1 rfl) ?_
  refine mk_goI (va_runS (As := [.int (iI a)]) (rest := [.ref (ad 0)]) ⟨hx, hb, hml, hown, hts⟩ (c_X6_isShare l cg D ad st a (by omega)) (cwS 1 hts gX6_costMatched_X6_isShare rfl rfl rfl (by decide +kernel) ⟨Nat.le_of_ble_eq_true rfl, Nat.le_of_ble_eq_true rfl⟩) (mk_preS hK hN hW) rfl rfl hl.1 rfl (lv_room (Nat.le_of_ble_eq_true rfl)) dX6_costMatched_2 ⟨Nat.zero_le _, Nat.zero_le _⟩) hW (fun z st1 hp2 H locs hW => ?_)
  obtain ⟨est1, hz⟩ := hp2
  rw [est1] at hW
  refine mk_if_eq (tgt := 12) hx hb dX6_costMatched_5 (by decide) (by omega) (fun c_5 => ?_) (fun c_5 => ?_)
  · skip
    refine mk_iconst hx hb (1) dX6_costMatched_12 ?_
    refine mk_put (ci := 6) (C := RX6) (T := TX6) (N := 30) hx hb hts inX6 tyX6 tyX6_ok nmX6 hown hK hW 0 (by decide) rfl rfl 29 (by decide) fl91 (fun _ h9 => h9) rfl (by decide +kernel) (Nat.le_of_ble_eq_true rfl) rfl dX6_costMatched_13 (fun H locs hW => ?_)
    obtain ⟨st2, est2⟩ : ∃ z, z = stC st 0 (fnU (st 0) 29 1) := ⟨_, rfl⟩
    rw [← est2] at hW
    have hM1 : MW st st2 := by rw [est2]; exact MW.thr st _
    have hB1 : BV st2 := hB.mw hM1
    have h29 : st2 0 29 = 1 := by rw [est2]; rfl
    refine lv_aload_n hx hb dX6_costMatched_16 rfl (lv_at hl 0 rfl) ?_
    refine mk_get (ci := 6) (C := RX6) (T := TX6) (N := 30) hx hb hts inX6 hown hK hW 0 (by decide) rfl rfl 29 (by decide) fl91 (fun _ h9 => h9) rfl dX6_costMatched_17 ?_
    refine mk_sayi (y := 1) h29 ?_
    refine mk_if_le (tgt := 25) hx hb dX6_costMatched_20 (by decide) (by omega) (fun c_20 => ?_) (fun c_20 => ?_)
    · skip
      omega
    · skip
      refine mk_iconst hx hb (0) dX6_costMatched_23 ?_
      exact mk_retI hx hb hr hlocks hW ⟨hM1, h29⟩ dX6_costMatched_24
  · skip
    omega

set_option maxHeartbeats 4000000 in
set_option maxRecDepth 100000 in
theorem c_X6_matches_no (l : Launch) (cg : Nat → ClassId) (D : va_G) (ad : Nat → Nat) (st : Nat → Nat → Int) (a : Int) (hB : BV st) (ha : -2147483648 ≤ a ∧ a < 2147483648) (hno : ¬ (0 ≤ a ∧ a ≤ 2)) : MI l yX6_matches wsX6_matches ({ frames := 2, cells := 0, slots := 0, locals := 50 }) D vwCl (TY cg) 26 (celM cg) ad st [.ref (ad 0), .int (iI a)] (fun z st1 => MW st st1 ∧ st1 0 29 = 1) := by
  refine mk_open (cc := cX6_matches) (maxL := 2) (ret := (some .int)) (by decide) rfl (Nat.le_of_ble_eq_true rfl) ?_
  intro p e s m args below meth c hx hb hml hr hown hts hlocks hK hN hargs ls hl hW
  have hown : s.vm.findClass RX6 = some m.cls := hown
  have hl : lv_has ls 2 [(0, .ref (ad 0)), (1, .int (iI a))] := hl
  have inX6 : ∀ w ∈ wsX60, w ∈ wsX6_matches := by decide +kernel
  have fl91 := hts (.fieldLink RX6 91 "GainsReckonerModel" "thrown" "I") (by decide +kernel)
  refine lv_aload_n hx hb dX6_matches_0 rfl (lv_at hl 0 rfl) ?_
  refine lv_iload_n hx hb dX6_matches_1 rfl (lv_at hl 1 rfl) ?_
  refine mk_goI (va_runS (As := [.int (iI a)]) (rest := [.ref (ad 0)]) ⟨hx, hb, hml, hown, hts⟩ (c_X6_isShare l cg D ad st a (by omega)) (cwS 1 hts gX6_matches_X6_isShare rfl rfl rfl (by decide +kernel) ⟨Nat.le_of_ble_eq_true rfl, Nat.le_of_ble_eq_true rfl⟩) (mk_preS hK hN hW) rfl rfl hl.1 rfl (lv_room (Nat.le_of_ble_eq_true rfl)) dX6_matches_2 ⟨Nat.zero_le _, Nat.zero_le _⟩) hW (fun z st1 hp2 H locs hW => ?_)
  obtain ⟨est1, hz⟩ := hp2
  rw [est1] at hW
  refine mk_if_eq (tgt := 12) hx hb dX6_matches_5 (by decide) (by omega) (fun c_5 => ?_) (fun c_5 => ?_)
  · skip
    refine mk_iconst hx hb (1) dX6_matches_12 ?_
    refine mk_put (ci := 6) (C := RX6) (T := TX6) (N := 30) hx hb hts inX6 tyX6 tyX6_ok nmX6 hown hK hW 0 (by decide) rfl rfl 29 (by decide) fl91 (fun _ h9 => h9) rfl (by decide +kernel) (Nat.le_of_ble_eq_true rfl) rfl dX6_matches_13 (fun H locs hW => ?_)
    obtain ⟨st2, est2⟩ : ∃ z, z = stC st 0 (fnU (st 0) 29 1) := ⟨_, rfl⟩
    rw [← est2] at hW
    have hM1 : MW st st2 := by rw [est2]; exact MW.thr st _
    have hB1 : BV st2 := hB.mw hM1
    have h29 : st2 0 29 = 1 := by rw [est2]; rfl
    refine lv_aload_n hx hb dX6_matches_16 rfl (lv_at hl 0 rfl) ?_
    refine mk_get (ci := 6) (C := RX6) (T := TX6) (N := 30) hx hb hts inX6 hown hK hW 0 (by decide) rfl rfl 29 (by decide) fl91 (fun _ h9 => h9) rfl dX6_matches_17 ?_
    refine mk_sayi (y := 1) h29 ?_
    refine mk_if_le (tgt := 25) hx hb dX6_matches_20 (by decide) (by omega) (fun c_20 => ?_) (fun c_20 => ?_)
    · skip
      omega
    · skip
      refine mk_iconst hx hb (0) dX6_matches_23 ?_
      exact mk_retI hx hb hr hlocks hW ⟨hM1, h29⟩ dX6_matches_24
  · skip
    omega

set_option maxHeartbeats 4000000 in
set_option maxRecDepth 100000 in
theorem c_X6_costIn (l : Launch) (cg : Nat → ClassId) (D : va_G) (ad : Nat → Nat) (st : Nat → Nat → Int) (v : Nat) (hB : BV st) (hv : v < 3) : MI l yX6_costIn wsX6_costIn ({ frames := 2, cells := 0, slots := 0, locals := 50 }) D vwCl (TY cg) 26 (celM cg) ad st [.ref (ad 0), .int (iI ((v : Nat) : Int))] (fun z st1 => MW st st1 ∧ st1 0 29 = 0 ∧ z = sm (fun k => if bL st v k = true then wB (st 5) (st 4) k else 0) (bN st)) := by
  refine mk_open (cc := cX6_costIn) (maxL := 4) (ret := (some .int)) (by decide) rfl (Nat.le_of_ble_eq_true rfl) ?_
  intro p e s m args below meth c hx hb hml hr hown hts hlocks hK hN hargs ls hl hW
  have hown : s.vm.findClass RX6 = some m.cls := hown
  have hl : lv_has ls 4 [(0, .ref (ad 0)), (1, .int (iI ((v : Nat) : Int)))] := hl
  have inX6 : ∀ w ∈ wsX60, w ∈ wsX6_costIn := by decide +kernel
  have fl91 := hts (.fieldLink RX6 91 "GainsReckonerModel" "thrown" "I") (by decide +kernel)
  have fl98 := hts (.fieldLink RX6 98 "GainsReckonerModel" "trades" "I") (by decide +kernel)
  have fl26 := hts (.fieldLink RX6 26 "GainsReckonerModel" "gone" "[Z") (by decide +kernel)
  have fl7 := hts (.fieldLink RX6 7 "GainsReckonerModel" "share" "[I") (by decide +kernel)
  have fl22 := hts (.fieldLink RX6 22 "GainsReckonerModel" "sale" "[Z") (by decide +kernel)
  have fl19 := hts (.fieldLink RX6 19 "GainsReckonerModel" "money" "[I") (by decide +kernel)
  have hn6 := hB.n60
  refine lv_aload_n hx hb dX6_costIn_0 rfl (lv_at hl 0 rfl) ?_
  refine lv_iload_n hx hb dX6_costIn_1 rfl (lv_at hl 1 rfl) ?_
  refine mk_goI (va_runS (As := [.int (iI ((v : Nat) : Int))]) (rest := [.ref (ad 0)]) ⟨hx, hb, hml, hown, hts⟩ (c_X6_isShare l cg D ad st (v : Int) (by omega)) (cwS 1 hts gX6_costIn_X6_isShare rfl rfl rfl (by decide +kernel) ⟨Nat.le_of_ble_eq_true rfl, Nat.le_of_ble_eq_true rfl⟩) (mk_preS hK hN hW) rfl rfl hl.1 rfl (lv_room (Nat.le_of_ble_eq_true rfl)) dX6_costIn_2 ⟨Nat.zero_le _, Nat.zero_le _⟩) hW (fun z st1 hp2 H locs hW => ?_)
  obtain ⟨est1, hz⟩ := hp2
  rw [est1] at hW
  refine mk_if_eq (tgt := 12) hx hb dX6_costIn_5 (by decide) (by omega) (fun c_5 => ?_) (fun c_5 => ?_)
  · skip
    omega
  · skip
    refine mk_iconst hx hb (0) dX6_costIn_8 ?_
    refine lv_goto (tgt := 13) hx hb dX6_costIn_9 (by decide) ?_
    refine mk_put (ci := 6) (C := RX6) (T := TX6) (N := 30) hx hb hts inX6 tyX6 tyX6_ok nmX6 hown hK hW 0 (by decide) rfl rfl 29 (by decide) fl91 (fun _ h9 => h9) rfl (by decide +kernel) (Nat.le_of_ble_eq_true rfl) rfl dX6_costIn_13 (fun H locs hW => ?_)
    obtain ⟨st2, est2⟩ : ∃ z, z = stC st 0 (fnU (st 0) 29 0) := ⟨_, rfl⟩
    rw [← est2] at hW
    have hM1 : MW st st2 := by rw [est2]; exact MW.thr st _
    have hB1 : BV st2 := hB.mw hM1
    have h29 : st2 0 29 = 0 := by rw [est2]; rfl
    refine mk_iconst hx hb (0) dX6_costIn_16 ?_
    refine lv_istore_n (lv' := [(2, .int (iI 0)), (0, .ref (ad 0)), (1, .int (iI ((v : Nat) : Int)))]) hx hb dX6_costIn_17 rfl hl (by decide) rfl (fun ls hl => ?_)
    refine mk_iconst hx hb (0) dX6_costIn_18 ?_
    refine lv_istore_n (lv' := [(3, .int (iI 0)), (2, .int (iI 0)), (0, .ref (ad 0)), (1, .int (iI ((v : Nat) : Int)))]) hx hb dX6_costIn_19 rfl hl (by decide) rfl (fun ls hl => ?_)
    have loop20 : ∀ (fuel : Nat) (k : Nat) (acc : Int), (k ≤ bN st) → (acc = sm (fun k => if bL st v k = true then wB (st 5) (st 4) k else 0) k) → bN st - k < fuel → ∀ (H : Heap) (locs : List Loc) (ls : Array Slot), GW D vwCl 26 (celM cg) ad (wA 26 ad) s.heap st2 H locs → lv_has ls 4 [(0, .ref (ad 0)), (1, .int (iI ((v : Nat) : Int))), (2, .int (iI acc)), (3, .int (iI ((k : Nat) : Int)))] → W p l e (headSpec wsX6_costIn ({ frames := 2, cells := 0, slots := 0, locals := 50 })).room s m args below meth c H locs 0 0 (MQ below (va_Qi (fun (r : Int32) (u : Nat → Nat → Int) => ∃ z : Int, r = iI z ∧ (fun z st1 => MW st st1 ∧ st1 0 29 = 0 ∧ z = sm (fun k => if bL st v k = true then wB (st 5) (st 4) k else 0) (bN st)) z u) (mB D vwCl 26 (celM cg) ad) (wA 26 ad)) args s 0 0 (wA 26 ad)) (F0 m 20 ls []) := by
      intro fuel
      induction fuel with
      | zero => intro k acc hk hacc hmu; omega
      | succ fuel ih20 =>
        intro k acc hk hacc hmu H locs ls hW hl
        refine lv_iload_n hx hb dX6_costIn_20 rfl (lv_at hl 3 rfl) ?_
        refine lv_aload_n hx hb dX6_costIn_21 rfl (lv_at hl 0 rfl) ?_
        refine mk_get (ci := 6) (C := RX6) (T := TX6) (N := 30) hx hb hts inX6 hown hK hW 0 (by decide) rfl rfl 0 (by decide) fl98 (fun _ h9 => h9) rfl dX6_costIn_22 ?_
        refine mk_sayi (y := (st 0 0)) (by rw [show st2 0 0 = st 0 0 from by rw [est2]; rfl]) ?_
        refine mk_sayi (y := (((bN st) : Nat) : Int)) hB.1 ?_
        refine mk_icmp_ge (tgt := 82) hx hb dX6_costIn_25 (by decide) (by omega) (by omega) (fun c_25 => ?_) (fun c_25 => ?_)
        · skip
          refine lv_iload_n hx hb dX6_costIn_82 rfl (lv_at hl 2 rfl) ?_
          exact mk_retI hx hb hr hlocks hW ⟨hM1, h29, by rw [hacc, show k = bN st by omega]⟩ dX6_costIn_83
        · skip
          refine lv_aload_n hx hb dX6_costIn_28 rfl (lv_at hl 0 rfl) ?_
          refine mk_get (ci := 6) (C := RX6) (T := TX6) (N := 30) hx hb hts inX6 hown hK hW 0 (by decide) rfl rfl 29 (by decide) fl91 (fun _ h9 => h9) rfl dX6_costIn_29 ?_
          refine mk_sayi (y := 0) h29 ?_
          refine mk_if_ne (tgt := 82) hx hb dX6_costIn_32 (by decide) (by omega) (fun c_32 => ?_) (fun c_32 => ?_)
          · skip
            omega
          · skip
            refine lv_iload_n hx hb dX6_costIn_35 rfl (lv_at hl 2 rfl) ?_
            refine lv_aload_n hx hb dX6_costIn_36 rfl (lv_at hl 0 rfl) ?_
            refine mk_get (ci := 6) (C := RX6) (T := TX6) (N := 30) hx hb hts inX6 hown hK hW 0 (by decide) rfl rfl 6 (by decide) fl26 (fun _ h9 => h9) rfl dX6_costIn_37 ?_
            refine lv_iload_n hx hb dX6_costIn_40 rfl (lv_at hl 3 rfl) ?_
            refine mk_zald hx hb hK hW 6 (by decide) rfl 1 rfl (j := k) rfl (by omega) (by decide) dX6_costIn_41 ?_
            refine mk_sayi (y := (st 6 k)) (by rw [show st2 6 = st 6 from by rw [est2]; exact stC_ne (by decide)]) ?_
            have hj := hB.2.1.2 k (by omega)
            refine mk_if_ne (tgt := 73) hx hb dX6_costIn_42 (by decide) (by omega) (fun c_42 => ?_) (fun c_42 => ?_)
            · skip
              refine mk_iconst hx hb (0) dX6_costIn_73 ?_
              refine mk_iadd hx hb dX6_costIn_74 ?_
              refine lv_istore_n (lv' := [(2, .int (iI (acc + 0))), (0, .ref (ad 0)), (1, .int (iI ((v : Nat) : Int))), (3, .int (iI ((k : Nat) : Int)))]) hx hb dX6_costIn_75 rfl hl (by decide) rfl (fun ls hl => ?_)
              refine mk_iinc (w := ((k + 1 : Nat) : Int)) (lv' := [(3, .int (iI ((k + 1 : Nat) : Int))), (2, .int (iI (acc + 0))), (0, .ref (ad 0)), (1, .int (iI ((v : Nat) : Int)))]) hx hb dX6_costIn_76 hl (k := 3) rfl (by omega) (by decide) rfl (fun ls hl => ?_)
              refine lv_goto (tgt := 20) hx hb dX6_costIn_79 (by decide) ?_
              exact ih20 (k + 1) (acc + 0) (by omega) (by rw [hacc, sm_succ, if_neg (fun h => by have := lvb_t.mp h; omega)]) (by omega) _ _ _ hW (lv_sub hl [2, 3, 1, 0] rfl)
            · skip
              refine lv_aload_n hx hb dX6_costIn_45 rfl (lv_at hl 0 rfl) ?_
              refine mk_get (ci := 6) (C := RX6) (T := TX6) (N := 30) hx hb hts inX6 hown hK hW 0 (by decide) rfl rfl 1 (by decide) fl7 (fun _ h9 => h9) rfl dX6_costIn_46 ?_
              refine lv_iload_n hx hb dX6_costIn_49 rfl (lv_at hl 3 rfl) ?_
              refine mk_iald hx hb hK hW 1 (by decide) rfl 0 rfl (j := k) rfl (by omega) (by decide) dX6_costIn_50 ?_
              refine mk_sayi (y := (st 1 k)) (by rw [show st2 1 = st 1 from by rw [est2]; exact stC_ne (by decide)]) ?_
              refine lv_iload_n hx hb dX6_costIn_51 rfl (lv_at hl 1 rfl) ?_
              refine mk_icmp_ne (tgt := 73) hx hb dX6_costIn_52 (by decide) (by omega) (by omega) (fun c_52 => ?_) (fun c_52 => ?_)
              · skip
                refine mk_iconst hx hb (0) dX6_costIn_73 ?_
                refine mk_iadd hx hb dX6_costIn_74 ?_
                refine lv_istore_n (lv' := [(2, .int (iI (acc + 0))), (0, .ref (ad 0)), (1, .int (iI ((v : Nat) : Int))), (3, .int (iI ((k : Nat) : Int)))]) hx hb dX6_costIn_75 rfl hl (by decide) rfl (fun ls hl => ?_)
                refine mk_iinc (w := ((k + 1 : Nat) : Int)) (lv' := [(3, .int (iI ((k + 1 : Nat) : Int))), (2, .int (iI (acc + 0))), (0, .ref (ad 0)), (1, .int (iI ((v : Nat) : Int)))]) hx hb dX6_costIn_76 hl (k := 3) rfl (by omega) (by decide) rfl (fun ls hl => ?_)
                refine lv_goto (tgt := 20) hx hb dX6_costIn_79 (by decide) ?_
                exact ih20 (k + 1) (acc + 0) (by omega) (by rw [hacc, sm_succ, if_neg (fun h => by have := lvb_t.mp h; omega)]) (by omega) _ _ _ hW (lv_sub hl [2, 3, 1, 0] rfl)
              · skip
                refine lv_aload_n hx hb dX6_costIn_55 rfl (lv_at hl 0 rfl) ?_
                refine mk_get (ci := 6) (C := RX6) (T := TX6) (N := 30) hx hb hts inX6 hown hK hW 0 (by decide) rfl rfl 5 (by decide) fl22 (fun _ h9 => h9) rfl dX6_costIn_56 ?_
                refine lv_iload_n hx hb dX6_costIn_59 rfl (lv_at hl 3 rfl) ?_
                refine mk_zald hx hb hK hW 5 (by decide) rfl 1 rfl (j := k) rfl (by omega) (by decide) dX6_costIn_60 ?_
                refine mk_sayi (y := (st 5 k)) (by rw [show st2 5 = st 5 from by rw [est2]; exact stC_ne (by decide)]) ?_
                refine mk_if_ne (tgt := 73) hx hb dX6_costIn_61 (by decide) (by omega) (fun c_61 => ?_) (fun c_61 => ?_)
                · skip
                  refine mk_iconst hx hb (0) dX6_costIn_73 ?_
                  refine mk_iadd hx hb dX6_costIn_74 ?_
                  refine lv_istore_n (lv' := [(2, .int (iI (acc + 0))), (0, .ref (ad 0)), (1, .int (iI ((v : Nat) : Int))), (3, .int (iI ((k : Nat) : Int)))]) hx hb dX6_costIn_75 rfl hl (by decide) rfl (fun ls hl => ?_)
                  refine mk_iinc (w := ((k + 1 : Nat) : Int)) (lv' := [(3, .int (iI ((k + 1 : Nat) : Int))), (2, .int (iI (acc + 0))), (0, .ref (ad 0)), (1, .int (iI ((v : Nat) : Int)))]) hx hb dX6_costIn_76 hl (k := 3) rfl (by omega) (by decide) rfl (fun ls hl => ?_)
                  refine lv_goto (tgt := 20) hx hb dX6_costIn_79 (by decide) ?_
                  exact ih20 (k + 1) (acc + 0) (by omega) (by rw [hacc, sm_succ, if_pos (show bL st v k = true from lvb_t.mpr (by omega)), wB, if_neg (by omega)]) (by omega) _ _ _ hW (lv_sub hl [2, 3, 1, 0] rfl)
                · skip
                  refine lv_aload_n hx hb dX6_costIn_64 rfl (lv_at hl 0 rfl) ?_
                  refine mk_get (ci := 6) (C := RX6) (T := TX6) (N := 30) hx hb hts inX6 hown hK hW 0 (by decide) rfl rfl 4 (by decide) fl19 (fun _ h9 => h9) rfl dX6_costIn_65 ?_
                  refine lv_iload_n hx hb dX6_costIn_68 rfl (lv_at hl 3 rfl) ?_
                  refine mk_iald hx hb hK hW 4 (by decide) rfl 0 rfl (j := k) rfl (by omega) (by decide) dX6_costIn_69 ?_
                  refine mk_sayi (y := (st 4 k)) (by rw [show st2 4 = st 4 from by rw [est2]; exact stC_ne (by decide)]) ?_
                  refine lv_goto (tgt := 74) hx hb dX6_costIn_70 (by decide) ?_
                  refine mk_iadd hx hb dX6_costIn_74 ?_
                  refine lv_istore_n (lv' := [(2, .int (iI (acc + (st 4 k)))), (0, .ref (ad 0)), (1, .int (iI ((v : Nat) : Int))), (3, .int (iI ((k : Nat) : Int)))]) hx hb dX6_costIn_75 rfl hl (by decide) rfl (fun ls hl => ?_)
                  refine mk_iinc (w := ((k + 1 : Nat) : Int)) (lv' := [(3, .int (iI ((k + 1 : Nat) : Int))), (2, .int (iI (acc + (st 4 k)))), (0, .ref (ad 0)), (1, .int (iI ((v : Nat) : Int)))]) hx hb dX6_costIn_76 hl (k := 3) rfl (by omega) (by decide) rfl (fun ls hl => ?_)
                  refine lv_goto (tgt := 20) hx hb dX6_costIn_79 (by decide) ?_
                  exact ih20 (k + 1) (acc + (st 4 k)) (by omega) (by rw [hacc, sm_succ, if_pos (show bL st v k = true from lvb_t.mpr (by omega)), wB, if_pos (by omega)]) (by omega) _ _ _ hW (lv_sub hl [2, 3, 1, 0] rfl)
    exact loop20 _ 0 0 (Nat.zero_le _) rfl (Nat.lt_succ_self _) _ _ _ hW (lv_sub hl [2, 3, 1, 0] rfl)

set_option maxHeartbeats 4000000 in
set_option maxRecDepth 100000 in
theorem c_X6_costMatched (l : Launch) (cg : Nat → ClassId) (D : va_G) (ad : Nat → Nat) (st : Nat → Nat → Int) (v : Nat) (hB : BV st) (hv : v < 3) (R : Nat) (fD : Nat → Int) (hI : bRow st v R fD) : MI l yX6_costMatched wsX6_costMatched ({ frames := 3, cells := 0, slots := 0, locals := 79 }) D vwCl (TY cg) 26 (celM cg) ad st [.ref (ad 0), .int (iI ((v : Nat) : Int))] (fun z st1 => MW st st1 ∧ st1 0 29 = 0 ∧ z = lsum mco (bMM st v R fD)) := by
  refine mk_open (cc := cX6_costMatched) (maxL := 5) (ret := (some .int)) (by decide) rfl (Nat.le_of_ble_eq_true rfl) ?_
  intro p e s m args below meth c hx hb hml hr hown hts hlocks hK hN hargs ls hl hW
  have hown : s.vm.findClass RX6 = some m.cls := hown
  have hl : lv_has ls 5 [(0, .ref (ad 0)), (1, .int (iI ((v : Nat) : Int)))] := hl
  have inX6 : ∀ w ∈ wsX60, w ∈ wsX6_costMatched := by decide +kernel
  have fl91 := hts (.fieldLink RX6 91 "GainsReckonerModel" "thrown" "I") (by decide +kernel)
  have fl127 := hts (.fieldLink RX6 127 "GainsReckonerModel" "made" "I") (by decide +kernel)
  have fl85 := hts (.fieldLink RX6 85 "GainsReckonerModel" "matchCost" "[J") (by decide +kernel)
  refine lv_aload_n hx hb dX6_costMatched_0 rfl (lv_at hl 0 rfl) ?_
  refine lv_iload_n hx hb dX6_costMatched_1 rfl (lv_at hl 1 rfl) ?_
  refine mk_goI (va_runS (As := [.int (iI ((v : Nat) : Int))]) (rest := [.ref (ad 0)]) ⟨hx, hb, hml, hown, hts⟩ (c_X6_isShare l cg D ad st (v : Int) (by omega)) (cwS 1 hts gX6_costMatched_X6_isShare rfl rfl rfl (by decide +kernel) ⟨Nat.le_of_ble_eq_true rfl, Nat.le_of_ble_eq_true rfl⟩) (mk_preS hK hN hW) rfl rfl hl.1 rfl (lv_room (Nat.le_of_ble_eq_true rfl)) dX6_costMatched_2 ⟨Nat.zero_le _, Nat.zero_le _⟩) hW (fun z st1 hp2 H locs hW => ?_)
  obtain ⟨est1, hz⟩ := hp2
  rw [est1] at hW
  refine mk_if_eq (tgt := 12) hx hb dX6_costMatched_5 (by decide) (by omega) (fun c_5 => ?_) (fun c_5 => ?_)
  · skip
    omega
  · skip
    refine mk_iconst hx hb (0) dX6_costMatched_8 ?_
    refine lv_goto (tgt := 13) hx hb dX6_costMatched_9 (by decide) ?_
    refine mk_put (ci := 6) (C := RX6) (T := TX6) (N := 30) hx hb hts inX6 tyX6 tyX6_ok nmX6 hown hK hW 0 (by decide) rfl rfl 29 (by decide) fl91 (fun _ h9 => h9) rfl (by decide +kernel) (Nat.le_of_ble_eq_true rfl) rfl dX6_costMatched_13 (fun H locs hW => ?_)
    obtain ⟨st2, est2⟩ : ∃ z, z = stC st 0 (fnU (st 0) 29 0) := ⟨_, rfl⟩
    rw [← est2] at hW
    have hM1 : MW st st2 := by rw [est2]; exact MW.thr st _
    have hB1 : BV st2 := hB.mw hM1
    have h29 : st2 0 29 = 0 := by rw [est2]; rfl
    refine lv_aload_n hx hb dX6_costMatched_16 rfl (lv_at hl 0 rfl) ?_
    refine mk_get (ci := 6) (C := RX6) (T := TX6) (N := 30) hx hb hts inX6 hown hK hW 0 (by decide) rfl rfl 29 (by decide) fl91 (fun _ h9 => h9) rfl dX6_costMatched_17 ?_
    refine mk_sayi (y := 0) h29 ?_
    refine mk_if_le (tgt := 25) hx hb dX6_costMatched_20 (by decide) (by omega) (fun c_20 => ?_) (fun c_20 => ?_)
    · skip
      refine lv_aload_n hx hb dX6_costMatched_25 rfl (lv_at hl 0 rfl) ?_
      refine lv_iload_n hx hb dX6_costMatched_26 rfl (lv_at hl 1 rfl) ?_
      refine mk_goV (va_runV (As := [.int (iI ((v : Nat) : Int))]) (rest := []) ⟨hx, hb, hml, hown, hts⟩ (c_X6_reckons l cg D ad st2 v (bN st2) (bM st2 v) hv hB1.1 hB1.2.1 (hB1.2.2.1 v hv).1 (hB1.2.2.1 v hv).2 R fD (hM1.row hI) (st2 0 11) rfl hB1.2.2.2.1 (hB1.2.2.2.2.1 v hv)) (cwV 1 hts gX6_costMatched_X6_reckons rfl rfl rfl (by decide +kernel) ⟨Nat.le_of_ble_eq_true rfl, Nat.le_of_ble_eq_true rfl⟩) (mk_preV hK hN hW 0 (by decide) rfl rfl rfl) rfl rfl hl.1 rfl (lv_room (Nat.le_of_ble_eq_true rfl)) dX6_costMatched_27 ⟨Nat.zero_le _, Nat.zero_le _⟩) hW (fun st3 hp27 H locs hW => ?_)
      obtain ⟨hf2, ⟨hq0, hq1, hq2⟩, hmk⟩ := hp27
      have hmk : MOK R fD (bQ st2 v fD) (bC st2 v fD) (bS st2 v fD) (bP st2 v fD) (st2 0 11) st3 := hmk
      have hM12 : MW st2 st3 := MW.of hf2 (by decide) hq0 hq1
      have hM2 : MW st st3 := hM1.tr hM12
      have hB2 : BV st3 := hB.mw hM2
      have hRN := hB.RN hv hI
      have hR60 := hRN.1
      rw [hM1.Q, hM1.C, hM1.S, hM1.P, hM1.2.2] at hmk
      have hAM : AM st3 (bMM st v R fD) := hmk.2.2
      have hlen := bMM_len hB hv hI
      have h292 : st3 0 29 = 0 := by rw [hq2]; omega
      refine mk_lconst hx hb (0) rfl dX6_costMatched_30 ?_
      refine lv_lstore_n (lv' := [(2, .long (lI 0)), (0, .ref (ad 0)), (1, .int (iI ((v : Nat) : Int)))]) hx hb dX6_costMatched_31 rfl hl (by decide) rfl (fun ls hl => ?_)
      refine mk_iconst hx hb (0) dX6_costMatched_32 ?_
      refine lv_istore (lv' := [(4, .int (iI 0)), (2, .long (lI 0)), (0, .ref (ad 0)), (1, .int (iI ((v : Nat) : Int)))]) hx hb dX6_costMatched_33 hl (by decide) rfl (fun ls hl => ?_)
      have loop35 : ∀ (fuel : Nat) (k : Nat) (acc : Int), (k ≤ (bMM st v R fD).length) → (acc = lsum mco ((bMM st v R fD).take k)) → (bMM st v R fD).length - k < fuel → ∀ (H : Heap) (locs : List Loc) (ls : Array Slot), GW D vwCl 26 (celM cg) ad (wA 26 ad) s.heap st3 H locs → lv_has ls 5 [(0, .ref (ad 0)), (2, .long (lI acc)), (4, .int (iI ((k : Nat) : Int)))] → W p l e (headSpec wsX6_costMatched ({ frames := 3, cells := 0, slots := 0, locals := 79 })).room s m args below meth c H locs 0 0 (MQ below (va_Qi (fun (r : Int32) (u : Nat → Nat → Int) => ∃ z : Int, r = iI z ∧ (fun z st1 => MW st st1 ∧ st1 0 29 = 0 ∧ z = lsum mco (bMM st v R fD)) z u) (mB D vwCl 26 (celM cg) ad) (wA 26 ad)) args s 0 0 (wA 26 ad)) (F0 m 35 ls []) := by
        intro fuel
        induction fuel with
        | zero => intro k acc hk hacc hmu; omega
        | succ fuel ih35 =>
          intro k acc hk hacc hmu H locs ls hW hl
          refine lv_iload hx hb dX6_costMatched_35 (lv_at hl 2 rfl) ?_
          refine lv_aload_n hx hb dX6_costMatched_37 rfl (lv_at hl 0 rfl) ?_
          refine mk_get (ci := 6) (C := RX6) (T := TX6) (N := 30) hx hb hts inX6 hown hK hW 0 (by decide) rfl rfl 22 (by decide) fl127 (fun _ h9 => h9) rfl dX6_costMatched_38 ?_
          refine mk_sayi (y := (((bMM st v R fD).length : Nat) : Int)) hAM.1 ?_
          refine mk_icmp_ge (tgt := 60) hx hb dX6_costMatched_41 (by decide) (by omega) (by omega) (fun c_41 => ?_) (fun c_41 => ?_)
          · skip
            refine lv_lload_n hx hb dX6_costMatched_60 rfl (lv_at hl 1 rfl) ?_
            refine mk_l2i hx hb dX6_costMatched_61 ?_
            exact mk_retI hx hb hr hlocks hW ⟨hM2, h292, by rw [hacc, List.take_of_length_le (by omega)]⟩ dX6_costMatched_62
          · skip
            refine lv_lload_n hx hb dX6_costMatched_44 rfl (lv_at hl 1 rfl) ?_
            refine lv_aload_n hx hb dX6_costMatched_45 rfl (lv_at hl 0 rfl) ?_
            refine mk_get (ci := 6) (C := RX6) (T := TX6) (N := 30) hx hb hts inX6 hown hK hW 0 (by decide) rfl rfl 27 (by decide) fl85 (fun _ h9 => h9) rfl dX6_costMatched_46 ?_
            refine lv_iload hx hb dX6_costMatched_49 (lv_at hl 2 rfl) ?_
            refine mk_lald hx hb hK hW 24 (by decide) rfl 2 rfl (j := k) rfl (by omega) (by decide) dX6_costMatched_51 ?_
            obtain ⟨x, hX⟩ : ∃ x, (bMM st v R fD)[k]? = some x := ⟨_, List.getElem?_eq_getElem (by omega)⟩
            refine mk_sayl (y := (mco x)) (hAM.2 k x hX).2.2.2.2.1 ?_
            refine mk_ladd hx hb dX6_costMatched_52 ?_
            refine lv_lstore_n (lv' := [(2, .long (lI (acc + (mco x)))), (0, .ref (ad 0)), (4, .int (iI ((k : Nat) : Int)))]) hx hb dX6_costMatched_53 rfl hl (by decide) rfl (fun ls hl => ?_)
            refine mk_iinc (w := ((k + 1 : Nat) : Int)) (lv' := [(4, .int (iI ((k + 1 : Nat) : Int))), (2, .long (lI (acc + (mco x)))), (0, .ref (ad 0))]) hx hb dX6_costMatched_54 hl (k := 2) rfl (by omega) (by decide) rfl (fun ls hl => ?_)
            refine lv_goto (tgt := 35) hx hb dX6_costMatched_57 (by decide) ?_
            exact ih35 (k + 1) (acc + (mco x)) (by omega) (by rw [hacc, lsum_take hX]) (by omega) _ _ _ hW (lv_sub hl [2, 1, 0] rfl)
      exact loop35 _ 0 0 (Nat.zero_le _) rfl (Nat.lt_succ_self _) _ _ _ hW (lv_sub hl [2, 1, 0] rfl)
    · skip
      omega

set_option maxHeartbeats 4000000 in
set_option maxRecDepth 100000 in
theorem c_X6_matches (l : Launch) (cg : Nat → ClassId) (D : va_G) (ad : Nat → Nat) (st : Nat → Nat → Int) (v : Nat) (hB : BV st) (hv : v < 3) (R : Nat) (fD : Nat → Int) (hI : bRow st v R fD) : MI l yX6_matches wsX6_matches ({ frames := 3, cells := 0, slots := 0, locals := 79 }) D vwCl (TY cg) 26 (celM cg) ad st [.ref (ad 0), .int (iI ((v : Nat) : Int))] (fun z st1 => MW st st1 ∧ st1 0 29 = 0 ∧ z = (bAA st v R fD).length) := by
  refine mk_open (cc := cX6_matches) (maxL := 2) (ret := (some .int)) (by decide) rfl (Nat.le_of_ble_eq_true rfl) ?_
  intro p e s m args below meth c hx hb hml hr hown hts hlocks hK hN hargs ls hl hW
  have hown : s.vm.findClass RX6 = some m.cls := hown
  have hl : lv_has ls 2 [(0, .ref (ad 0)), (1, .int (iI ((v : Nat) : Int)))] := hl
  have inX6 : ∀ w ∈ wsX60, w ∈ wsX6_matches := by decide +kernel
  have fl91 := hts (.fieldLink RX6 91 "GainsReckonerModel" "thrown" "I") (by decide +kernel)
  have fl127 := hts (.fieldLink RX6 127 "GainsReckonerModel" "made" "I") (by decide +kernel)
  refine lv_aload_n hx hb dX6_matches_0 rfl (lv_at hl 0 rfl) ?_
  refine lv_iload_n hx hb dX6_matches_1 rfl (lv_at hl 1 rfl) ?_
  refine mk_goI (va_runS (As := [.int (iI ((v : Nat) : Int))]) (rest := [.ref (ad 0)]) ⟨hx, hb, hml, hown, hts⟩ (c_X6_isShare l cg D ad st (v : Int) (by omega)) (cwS 1 hts gX6_matches_X6_isShare rfl rfl rfl (by decide +kernel) ⟨Nat.le_of_ble_eq_true rfl, Nat.le_of_ble_eq_true rfl⟩) (mk_preS hK hN hW) rfl rfl hl.1 rfl (lv_room (Nat.le_of_ble_eq_true rfl)) dX6_matches_2 ⟨Nat.zero_le _, Nat.zero_le _⟩) hW (fun z st1 hp2 H locs hW => ?_)
  obtain ⟨est1, hz⟩ := hp2
  rw [est1] at hW
  refine mk_if_eq (tgt := 12) hx hb dX6_matches_5 (by decide) (by omega) (fun c_5 => ?_) (fun c_5 => ?_)
  · skip
    omega
  · skip
    refine mk_iconst hx hb (0) dX6_matches_8 ?_
    refine lv_goto (tgt := 13) hx hb dX6_matches_9 (by decide) ?_
    refine mk_put (ci := 6) (C := RX6) (T := TX6) (N := 30) hx hb hts inX6 tyX6 tyX6_ok nmX6 hown hK hW 0 (by decide) rfl rfl 29 (by decide) fl91 (fun _ h9 => h9) rfl (by decide +kernel) (Nat.le_of_ble_eq_true rfl) rfl dX6_matches_13 (fun H locs hW => ?_)
    obtain ⟨st2, est2⟩ : ∃ z, z = stC st 0 (fnU (st 0) 29 0) := ⟨_, rfl⟩
    rw [← est2] at hW
    have hM1 : MW st st2 := by rw [est2]; exact MW.thr st _
    have hB1 : BV st2 := hB.mw hM1
    have h29 : st2 0 29 = 0 := by rw [est2]; rfl
    refine lv_aload_n hx hb dX6_matches_16 rfl (lv_at hl 0 rfl) ?_
    refine mk_get (ci := 6) (C := RX6) (T := TX6) (N := 30) hx hb hts inX6 hown hK hW 0 (by decide) rfl rfl 29 (by decide) fl91 (fun _ h9 => h9) rfl dX6_matches_17 ?_
    refine mk_sayi (y := 0) h29 ?_
    refine mk_if_le (tgt := 25) hx hb dX6_matches_20 (by decide) (by omega) (fun c_20 => ?_) (fun c_20 => ?_)
    · skip
      refine lv_aload_n hx hb dX6_matches_25 rfl (lv_at hl 0 rfl) ?_
      refine lv_iload_n hx hb dX6_matches_26 rfl (lv_at hl 1 rfl) ?_
      refine mk_goV (va_runV (As := [.int (iI ((v : Nat) : Int))]) (rest := []) ⟨hx, hb, hml, hown, hts⟩ (c_X6_reckons l cg D ad st2 v (bN st2) (bM st2 v) hv hB1.1 hB1.2.1 (hB1.2.2.1 v hv).1 (hB1.2.2.1 v hv).2 R fD (hM1.row hI) (st2 0 11) rfl hB1.2.2.2.1 (hB1.2.2.2.2.1 v hv)) (cwV 1 hts gX6_matches_X6_reckons rfl rfl rfl (by decide +kernel) ⟨Nat.le_of_ble_eq_true rfl, Nat.le_of_ble_eq_true rfl⟩) (mk_preV hK hN hW 0 (by decide) rfl rfl rfl) rfl rfl hl.1 rfl (lv_room (Nat.le_of_ble_eq_true rfl)) dX6_matches_27 ⟨Nat.zero_le _, Nat.zero_le _⟩) hW (fun st3 hp27 H locs hW => ?_)
      obtain ⟨hf2, ⟨hq0, hq1, hq2⟩, hmk⟩ := hp27
      have hmk : MOK R fD (bQ st2 v fD) (bC st2 v fD) (bS st2 v fD) (bP st2 v fD) (st2 0 11) st3 := hmk
      have hM12 : MW st2 st3 := MW.of hf2 (by decide) hq0 hq1
      have hM2 : MW st st3 := hM1.tr hM12
      have hB2 : BV st3 := hB.mw hM2
      have hRN := hB.RN hv hI
      have hR60 := hRN.1
      rw [hM1.Q, hM1.C, hM1.S, hM1.P, hM1.2.2] at hmk
      have hAM : AM st3 (bMM st v R fD) := hmk.2.2
      have hlen := bMM_len hB hv hI
      have h292 : st3 0 29 = 0 := by rw [hq2]; omega
      refine lv_aload_n hx hb dX6_matches_30 rfl (lv_at hl 0 rfl) ?_
      refine mk_get (ci := 6) (C := RX6) (T := TX6) (N := 30) hx hb hts inX6 hown hK hW 0 (by decide) rfl rfl 22 (by decide) fl127 (fun _ h9 => h9) rfl dX6_matches_31 ?_
      refine mk_sayi (y := (((bMM st v R fD).length : Nat) : Int)) hAM.1 ?_
      exact mk_retI hx hb hr hlocks hW ⟨hM2, h292, by rw [bAA_len]⟩ dX6_matches_34
    · skip
      omega

set_option maxHeartbeats 4000000 in
set_option maxRecDepth 100000 in
theorem c_X6_ahead (l : Launch) (cg : Nat → ClassId) (D : va_G) (ad : Nat → Nat) (st : Nat → Nat → Int) (i : Nat) (M : List MTup) (hA : AM st M) (hM : M.length ≤ 60) (hi : i < M.length) (hr20 : ∀ j, j < M.length → 0 ≤ st 20 j ∧ st 20 j < 60) : MI l yX6_ahead wsX6_ahead ({ frames := 0, cells := 0, slots := 0, locals := 0 }) D vwCl (TY cg) 26 (celM cg) ad st [.ref (ad 0), .int (iI ((i : Nat) : Int))] (fun z st1 => st1 = st ∧ z = sm (fun j => if st 20 j < st 20 i ∨ (st 20 j = st 20 i ∧ j < i) then 1 else 0) M.length) := by
  refine mk_open (cc := cX6_ahead) (maxL := 4) (ret := (some .int)) (by decide) rfl (Nat.le_of_ble_eq_true rfl) ?_
  intro p e s m args below meth c hx hb hml hr hown hts hlocks hK hN hargs ls hl hW
  have hown : s.vm.findClass RX6 = some m.cls := hown
  have hl : lv_has ls 4 [(0, .ref (ad 0)), (1, .int (iI ((i : Nat) : Int)))] := hl
  have inX6 : ∀ w ∈ wsX60, w ∈ wsX6_ahead := by decide +kernel
  have fl127 := hts (.fieldLink RX6 127 "GainsReckonerModel" "made" "I") (by decide +kernel)
  have fl73 := hts (.fieldLink RX6 73 "GainsReckonerModel" "by" "[I") (by decide +kernel)
  have hri := hr20 i hi
  refine mk_iconst hx hb (0) dX6_ahead_0 ?_
  refine lv_istore_n (lv' := [(2, .int (iI 0)), (0, .ref (ad 0)), (1, .int (iI ((i : Nat) : Int)))]) hx hb dX6_ahead_1 rfl hl (by decide) rfl (fun ls hl => ?_)
  refine mk_iconst hx hb (0) dX6_ahead_2 ?_
  refine lv_istore_n (lv' := [(3, .int (iI 0)), (2, .int (iI 0)), (0, .ref (ad 0)), (1, .int (iI ((i : Nat) : Int)))]) hx hb dX6_ahead_3 rfl hl (by decide) rfl (fun ls hl => ?_)
  have loop4 : ∀ (fuel : Nat) (k : Nat) (acc : Int), (k ≤ M.length) → (acc = sm (fun j => if st 20 j < st 20 i ∨ (st 20 j = st 20 i ∧ j < i) then 1 else 0) k) → M.length - k < fuel → ∀ (H : Heap) (locs : List Loc) (ls : Array Slot), GW D vwCl 26 (celM cg) ad (wA 26 ad) s.heap st H locs → lv_has ls 4 [(0, .ref (ad 0)), (1, .int (iI ((i : Nat) : Int))), (2, .int (iI acc)), (3, .int (iI ((k : Nat) : Int)))] → W p l e (headSpec wsX6_ahead ({ frames := 0, cells := 0, slots := 0, locals := 0 })).room s m args below meth c H locs 0 0 (MQ below (va_Qi (fun (r : Int32) (u : Nat → Nat → Int) => ∃ z : Int, r = iI z ∧ (fun z st1 => st1 = st ∧ z = sm (fun j => if st 20 j < st 20 i ∨ (st 20 j = st 20 i ∧ j < i) then 1 else 0) M.length) z u) (mB D vwCl 26 (celM cg) ad) (wA 26 ad)) args s 0 0 (wA 26 ad)) (F0 m 4 ls []) := by
    intro fuel
    induction fuel with
    | zero => intro k acc hk hacc hmu; omega
    | succ fuel ih4 =>
      intro k acc hk hacc hmu H locs ls hW hl
      refine lv_iload_n hx hb dX6_ahead_4 rfl (lv_at hl 3 rfl) ?_
      refine lv_aload_n hx hb dX6_ahead_5 rfl (lv_at hl 0 rfl) ?_
      refine mk_get (ci := 6) (C := RX6) (T := TX6) (N := 30) hx hb hts inX6 hown hK hW 0 (by decide) rfl rfl 22 (by decide) fl127 (fun _ h9 => h9) rfl dX6_ahead_6 ?_
      refine mk_sayi (y := ((M.length : Nat) : Int)) hA.1 ?_
      refine mk_icmp_ge (tgt := 61) hx hb dX6_ahead_9 (by decide) (by omega) (by omega) (fun c_9 => ?_) (fun c_9 => ?_)
      · skip
        refine lv_iload_n hx hb dX6_ahead_61 rfl (lv_at hl 2 rfl) ?_
        exact mk_retI hx hb hr hlocks hW ⟨rfl, by rw [hacc, show k = M.length by omega]⟩ dX6_ahead_62
      · skip
        refine lv_iload_n hx hb dX6_ahead_12 rfl (lv_at hl 2 rfl) ?_
        refine lv_aload_n hx hb dX6_ahead_13 rfl (lv_at hl 0 rfl) ?_
        refine mk_get (ci := 6) (C := RX6) (T := TX6) (N := 30) hx hb hts inX6 hown hK hW 0 (by decide) rfl rfl 23 (by decide) fl73 (fun _ h9 => h9) rfl dX6_ahead_14 ?_
        refine lv_iload_n hx hb dX6_ahead_17 rfl (lv_at hl 3 rfl) ?_
        refine mk_iald hx hb hK hW 20 (by decide) rfl 0 rfl (j := k) rfl (by omega) (by decide) dX6_ahead_18 ?_
        have hrk := hr20 k (by omega)
        refine lv_aload_n hx hb dX6_ahead_19 rfl (lv_at hl 0 rfl) ?_
        refine mk_get (ci := 6) (C := RX6) (T := TX6) (N := 30) hx hb hts inX6 hown hK hW 0 (by decide) rfl rfl 23 (by decide) fl73 (fun _ h9 => h9) rfl dX6_ahead_20 ?_
        refine lv_iload_n hx hb dX6_ahead_23 rfl (lv_at hl 1 rfl) ?_
        refine mk_iald hx hb hK hW 20 (by decide) rfl 0 rfl (j := i) rfl (by omega) (by decide) dX6_ahead_24 ?_
        have hrk := hr20 k (by omega)
        refine mk_icmp_lt (tgt := 48) hx hb dX6_ahead_25 (by decide) (by omega) (by omega) (fun c_25 => ?_) (fun c_25 => ?_)
        · skip
          refine mk_iconst hx hb (1) dX6_ahead_48 ?_
          refine lv_goto (tgt := 53) hx hb dX6_ahead_49 (by decide) ?_
          refine mk_iadd hx hb dX6_ahead_53 ?_
          refine lv_istore_n (lv' := [(2, .int (iI (acc + 1))), (0, .ref (ad 0)), (1, .int (iI ((i : Nat) : Int))), (3, .int (iI ((k : Nat) : Int)))]) hx hb dX6_ahead_54 rfl hl (by decide) rfl (fun ls hl => ?_)
          refine mk_iinc (w := ((k + 1 : Nat) : Int)) (lv' := [(3, .int (iI ((k + 1 : Nat) : Int))), (2, .int (iI (acc + 1))), (0, .ref (ad 0)), (1, .int (iI ((i : Nat) : Int)))]) hx hb dX6_ahead_55 hl (k := 3) rfl (by omega) (by decide) rfl (fun ls hl => ?_)
          refine lv_goto (tgt := 4) hx hb dX6_ahead_58 (by decide) ?_
          exact ih4 (k + 1) (acc + 1) (by omega) (by rw [hacc, sm_succ, if_pos (by omega)]) (by omega) _ _ _ hW (lv_sub hl [2, 3, 1, 0] rfl)
        · skip
          refine lv_aload_n hx hb dX6_ahead_28 rfl (lv_at hl 0 rfl) ?_
          refine mk_get (ci := 6) (C := RX6) (T := TX6) (N := 30) hx hb hts inX6 hown hK hW 0 (by decide) rfl rfl 23 (by decide) fl73 (fun _ h9 => h9) rfl dX6_ahead_29 ?_
          refine lv_iload_n hx hb dX6_ahead_32 rfl (lv_at hl 3 rfl) ?_
          refine mk_iald hx hb hK hW 20 (by decide) rfl 0 rfl (j := k) rfl (by omega) (by decide) dX6_ahead_33 ?_
          have hrk := hr20 k (by omega)
          refine lv_aload_n hx hb dX6_ahead_34 rfl (lv_at hl 0 rfl) ?_
          refine mk_get (ci := 6) (C := RX6) (T := TX6) (N := 30) hx hb hts inX6 hown hK hW 0 (by decide) rfl rfl 23 (by decide) fl73 (fun _ h9 => h9) rfl dX6_ahead_35 ?_
          refine lv_iload_n hx hb dX6_ahead_38 rfl (lv_at hl 1 rfl) ?_
          refine mk_iald hx hb hK hW 20 (by decide) rfl 0 rfl (j := i) rfl (by omega) (by decide) dX6_ahead_39 ?_
          have hrk := hr20 k (by omega)
          refine mk_icmp_ne (tgt := 52) hx hb dX6_ahead_40 (by decide) (by omega) (by omega) (fun c_40 => ?_) (fun c_40 => ?_)
          · skip
            refine mk_iconst hx hb (0) dX6_ahead_52 ?_
            refine mk_iadd hx hb dX6_ahead_53 ?_
            refine lv_istore_n (lv' := [(2, .int (iI (acc + 0))), (0, .ref (ad 0)), (1, .int (iI ((i : Nat) : Int))), (3, .int (iI ((k : Nat) : Int)))]) hx hb dX6_ahead_54 rfl hl (by decide) rfl (fun ls hl => ?_)
            refine mk_iinc (w := ((k + 1 : Nat) : Int)) (lv' := [(3, .int (iI ((k + 1 : Nat) : Int))), (2, .int (iI (acc + 0))), (0, .ref (ad 0)), (1, .int (iI ((i : Nat) : Int)))]) hx hb dX6_ahead_55 hl (k := 3) rfl (by omega) (by decide) rfl (fun ls hl => ?_)
            refine lv_goto (tgt := 4) hx hb dX6_ahead_58 (by decide) ?_
            exact ih4 (k + 1) (acc + 0) (by omega) (by rw [hacc, sm_succ, if_neg (by omega)]) (by omega) _ _ _ hW (lv_sub hl [2, 3, 1, 0] rfl)
          · skip
            refine lv_iload_n hx hb dX6_ahead_43 rfl (lv_at hl 3 rfl) ?_
            refine lv_iload_n hx hb dX6_ahead_44 rfl (lv_at hl 1 rfl) ?_
            refine mk_icmp_ge (tgt := 52) hx hb dX6_ahead_45 (by decide) (by omega) (by omega) (fun c_45 => ?_) (fun c_45 => ?_)
            · skip
              refine mk_iconst hx hb (0) dX6_ahead_52 ?_
              refine mk_iadd hx hb dX6_ahead_53 ?_
              refine lv_istore_n (lv' := [(2, .int (iI (acc + 0))), (0, .ref (ad 0)), (1, .int (iI ((i : Nat) : Int))), (3, .int (iI ((k : Nat) : Int)))]) hx hb dX6_ahead_54 rfl hl (by decide) rfl (fun ls hl => ?_)
              refine mk_iinc (w := ((k + 1 : Nat) : Int)) (lv' := [(3, .int (iI ((k + 1 : Nat) : Int))), (2, .int (iI (acc + 0))), (0, .ref (ad 0)), (1, .int (iI ((i : Nat) : Int)))]) hx hb dX6_ahead_55 hl (k := 3) rfl (by omega) (by decide) rfl (fun ls hl => ?_)
              refine lv_goto (tgt := 4) hx hb dX6_ahead_58 (by decide) ?_
              exact ih4 (k + 1) (acc + 0) (by omega) (by rw [hacc, sm_succ, if_neg (by omega)]) (by omega) _ _ _ hW (lv_sub hl [2, 3, 1, 0] rfl)
            · skip
              refine mk_iconst hx hb (1) dX6_ahead_48 ?_
              refine lv_goto (tgt := 53) hx hb dX6_ahead_49 (by decide) ?_
              refine mk_iadd hx hb dX6_ahead_53 ?_
              refine lv_istore_n (lv' := [(2, .int (iI (acc + 1))), (0, .ref (ad 0)), (1, .int (iI ((i : Nat) : Int))), (3, .int (iI ((k : Nat) : Int)))]) hx hb dX6_ahead_54 rfl hl (by decide) rfl (fun ls hl => ?_)
              refine mk_iinc (w := ((k + 1 : Nat) : Int)) (lv' := [(3, .int (iI ((k + 1 : Nat) : Int))), (2, .int (iI (acc + 1))), (0, .ref (ad 0)), (1, .int (iI ((i : Nat) : Int)))]) hx hb dX6_ahead_55 hl (k := 3) rfl (by omega) (by decide) rfl (fun ls hl => ?_)
              refine lv_goto (tgt := 4) hx hb dX6_ahead_58 (by decide) ?_
              exact ih4 (k + 1) (acc + 1) (by omega) (by rw [hacc, sm_succ, if_pos (by omega)]) (by omega) _ _ _ hW (lv_sub hl [2, 3, 1, 0] rfl)
  exact loop4 _ 0 0 (Nat.zero_le _) rfl (Nat.lt_succ_self _) _ _ _ hW (lv_sub hl [2, 3, 1, 0] rfl)

set_option maxHeartbeats 4000000 in
set_option maxRecDepth 100000 in
theorem c_X6_found_no (l : Launch) (cg : Nat → ClassId) (D : va_G) (ad : Nat → Nat) (st : Nat → Nat → Int) (a pl : Int) (hB : BV st) (ha : -2147483648 ≤ a ∧ a < 2147483648) (hno : ¬ (0 ≤ a ∧ a ≤ 2)) : MI l yX6_found wsX6_found ({ frames := 2, cells := 0, slots := 0, locals := 50 }) D vwCl (TY cg) 26 (celM cg) ad st [.ref (ad 0), .int (iI a), .int (iI pl)] (fun z st1 => MW st st1 ∧ st1 0 29 = 1 ∧ z = -1) := by
  refine mk_open (cc := cX6_found) (maxL := 5) (ret := (some .int)) (by decide) rfl (Nat.le_of_ble_eq_true rfl) ?_
  intro p e s m args below meth c hx hb hml hr hown hts hlocks hK hN hargs ls hl hW
  have hown : s.vm.findClass RX6 = some m.cls := hown
  have hl : lv_has ls 5 [(0, .ref (ad 0)), (1, .int (iI a)), (2, .int (iI pl))] := hl
  have inX6 : ∀ w ∈ wsX60, w ∈ wsX6_found := by decide +kernel
  have fl91 := hts (.fieldLink RX6 91 "GainsReckonerModel" "thrown" "I") (by decide +kernel)
  refine lv_aload_n hx hb dX6_found_0 rfl (lv_at hl 0 rfl) ?_
  refine lv_iload_n hx hb dX6_found_1 rfl (lv_at hl 1 rfl) ?_
  refine mk_goI (va_runS (As := [.int (iI a)]) (rest := [.ref (ad 0)]) ⟨hx, hb, hml, hown, hts⟩ (c_X6_isShare l cg D ad st a (by omega)) (cwS 1 hts gX6_found_X6_isShare rfl rfl rfl (by decide +kernel) ⟨Nat.le_of_ble_eq_true rfl, Nat.le_of_ble_eq_true rfl⟩) (mk_preS hK hN hW) rfl rfl hl.1 rfl (lv_room (Nat.le_of_ble_eq_true rfl)) dX6_found_2 ⟨Nat.zero_le _, Nat.zero_le _⟩) hW (fun z st1 hp2 H locs hW => ?_)
  obtain ⟨est1, hz⟩ := hp2
  rw [est1] at hW
  refine mk_if_eq (tgt := 12) hx hb dX6_found_5 (by decide) (by omega) (fun c_5 => ?_) (fun c_5 => ?_)
  · skip
    refine mk_iconst hx hb (1) dX6_found_12 ?_
    refine mk_put (ci := 6) (C := RX6) (T := TX6) (N := 30) hx hb hts inX6 tyX6 tyX6_ok nmX6 hown hK hW 0 (by decide) rfl rfl 29 (by decide) fl91 (fun _ h9 => h9) rfl (by decide +kernel) (Nat.le_of_ble_eq_true rfl) rfl dX6_found_13 (fun H locs hW => ?_)
    obtain ⟨st2, est2⟩ : ∃ z, z = stC st 0 (fnU (st 0) 29 1) := ⟨_, rfl⟩
    rw [← est2] at hW
    have hM1 : MW st st2 := by rw [est2]; exact MW.thr st _
    have h29 : st2 0 29 = 1 := by rw [est2]; rfl
    refine mk_iconst hx hb (-1) dX6_found_16 ?_
    refine lv_istore_n (lv' := [(3, .int (iI (-1 : Int))), (0, .ref (ad 0)), (1, .int (iI a)), (2, .int (iI pl))]) hx hb dX6_found_17 rfl hl (by decide) rfl (fun ls hl => ?_)
    refine lv_aload_n hx hb dX6_found_18 rfl (lv_at hl 1 rfl) ?_
    refine mk_get (ci := 6) (C := RX6) (T := TX6) (N := 30) hx hb hts inX6 hown hK hW 0 (by decide) rfl rfl 29 (by decide) fl91 (fun _ h9 => h9) rfl dX6_found_19 ?_
    refine mk_sayi (y := 1) h29 ?_
    refine mk_if_ne (tgt := 65) hx hb dX6_found_22 (by decide) (by omega) (fun c_22 => ?_) (fun c_22 => ?_)
    · skip
      refine lv_aload_n hx hb dX6_found_65 rfl (lv_at hl 1 rfl) ?_
      refine lv_iload_n hx hb dX6_found_66 rfl (lv_at hl 0 rfl) ?_
      refine mk_if_ge (tgt := 74) hx hb dX6_found_67 (by decide) (by omega) (fun c_67 => ?_) (fun c_67 => ?_)
      · skip
        omega
      · skip
        refine mk_iconst hx hb (1) dX6_found_70 ?_
        refine lv_goto (tgt := 75) hx hb dX6_found_71 (by decide) ?_
        refine mk_put (ci := 6) (C := RX6) (T := TX6) (N := 30) hx hb hts inX6 tyX6 tyX6_ok nmX6 hown hK hW 0 (by decide) rfl rfl 29 (by decide) fl91 (fun _ h9 => h9) rfl (by decide +kernel) (Nat.le_of_ble_eq_true rfl) rfl dX6_found_75 (fun H locs hW => ?_)
        obtain ⟨st3, est3⟩ : ∃ z, z = stC st2 0 (fnU (st2 0) 29 1) := ⟨_, rfl⟩
        rw [← est3] at hW
        have hM2 : MW st st3 := hM1.tr (by rw [est3]; exact MW.thr _ _)
        have h292 : st3 0 29 = 1 := by rw [est3]; rfl
        refine lv_iload_n hx hb dX6_found_78 rfl (lv_at hl 0 rfl) ?_
        exact mk_retI hx hb hr hlocks hW ⟨hM2, h292, rfl⟩ dX6_found_79
    · skip
      omega
  · skip
    omega

set_option maxHeartbeats 4000000 in
set_option maxRecDepth 100000 in
theorem c_X6_found (l : Launch) (cg : Nat → ClassId) (D : va_G) (ad : Nat → Nat) (st : Nat → Nat → Int) (v : Nat) (hB : BV st) (hv : v < 3) (R : Nat) (fD : Nat → Int) (hI : bRow st v R fD) (pl : Int) (hpr : -2147483648 ≤ pl ∧ pl < 2147483648) : MI l yX6_found wsX6_found ({ frames := 3, cells := 0, slots := 0, locals := 79 }) D vwCl (TY cg) 26 (celM cg) ad st [.ref (ad 0), .int (iI ((v : Nat) : Int)), .int (iI pl)] (fun (z : Int) (st1 : Nat → Nat → Int) => MW st st1 ∧ MOK R fD (bQ st v fD) (bC st v fD) (bS st v fD) (bP st v fD) (st 0 11) st1 ∧ ((z = -1 ∧ st1 0 29 = 1 ∧ ¬ (0 ≤ pl ∧ pl < (bAA st v R fD).length)) ∨ ∃ (k : Nat) (x : MTup), z = k ∧ (bMM st v R fD)[k]? = some x ∧ 0 ≤ pl ∧ (bAA st v R fD)[pl.toNat]? = some x ∧ st1 0 29 = 0)) := by
  refine mk_open (cc := cX6_found) (maxL := 5) (ret := (some .int)) (by decide) rfl (Nat.le_of_ble_eq_true rfl) ?_
  intro p e s m args below meth c hx hb hml hr hown hts hlocks hK hN hargs ls hl hW
  have hown : s.vm.findClass RX6 = some m.cls := hown
  have hl : lv_has ls 5 [(0, .ref (ad 0)), (1, .int (iI ((v : Nat) : Int))), (2, .int (iI pl))] := hl
  have inX6 : ∀ w ∈ wsX60, w ∈ wsX6_found := by decide +kernel
  have fl91 := hts (.fieldLink RX6 91 "GainsReckonerModel" "thrown" "I") (by decide +kernel)
  have fl127 := hts (.fieldLink RX6 127 "GainsReckonerModel" "made" "I") (by decide +kernel)
  refine lv_aload_n hx hb dX6_found_0 rfl (lv_at hl 0 rfl) ?_
  refine lv_iload_n hx hb dX6_found_1 rfl (lv_at hl 1 rfl) ?_
  refine mk_goI (va_runS (As := [.int (iI ((v : Nat) : Int))]) (rest := [.ref (ad 0)]) ⟨hx, hb, hml, hown, hts⟩ (c_X6_isShare l cg D ad st (v : Int) (by omega)) (cwS 1 hts gX6_found_X6_isShare rfl rfl rfl (by decide +kernel) ⟨Nat.le_of_ble_eq_true rfl, Nat.le_of_ble_eq_true rfl⟩) (mk_preS hK hN hW) rfl rfl hl.1 rfl (lv_room (Nat.le_of_ble_eq_true rfl)) dX6_found_2 ⟨Nat.zero_le _, Nat.zero_le _⟩) hW (fun z st1 hp2 H locs hW => ?_)
  obtain ⟨est1, hz⟩ := hp2
  rw [est1] at hW
  refine mk_if_eq (tgt := 12) hx hb dX6_found_5 (by decide) (by omega) (fun c_5 => ?_) (fun c_5 => ?_)
  · skip
    omega
  · skip
    refine mk_iconst hx hb (0) dX6_found_8 ?_
    refine lv_goto (tgt := 13) hx hb dX6_found_9 (by decide) ?_
    refine mk_put (ci := 6) (C := RX6) (T := TX6) (N := 30) hx hb hts inX6 tyX6 tyX6_ok nmX6 hown hK hW 0 (by decide) rfl rfl 29 (by decide) fl91 (fun _ h9 => h9) rfl (by decide +kernel) (Nat.le_of_ble_eq_true rfl) rfl dX6_found_13 (fun H locs hW => ?_)
    obtain ⟨st2, est2⟩ : ∃ z, z = stC st 0 (fnU (st 0) 29 0) := ⟨_, rfl⟩
    rw [← est2] at hW
    have hM1 : MW st st2 := by rw [est2]; exact MW.thr st _
    have hB1 : BV st2 := hB.mw hM1
    have h29 : st2 0 29 = 0 := by rw [est2]; rfl
    refine mk_iconst hx hb (-1) dX6_found_16 ?_
    refine lv_istore_n (lv' := [(3, .int (iI (-1 : Int))), (0, .ref (ad 0)), (1, .int (iI ((v : Nat) : Int))), (2, .int (iI pl))]) hx hb dX6_found_17 rfl hl (by decide) rfl (fun ls hl => ?_)
    refine lv_aload_n hx hb dX6_found_18 rfl (lv_at hl 1 rfl) ?_
    refine mk_get (ci := 6) (C := RX6) (T := TX6) (N := 30) hx hb hts inX6 hown hK hW 0 (by decide) rfl rfl 29 (by decide) fl91 (fun _ h9 => h9) rfl dX6_found_19 ?_
    refine mk_sayi (y := 0) h29 ?_
    refine mk_if_ne (tgt := 65) hx hb dX6_found_22 (by decide) (by omega) (fun c_22 => ?_) (fun c_22 => ?_)
    · skip
      omega
    · skip
      refine lv_aload_n hx hb dX6_found_25 rfl (lv_at hl 1 rfl) ?_
      refine lv_iload_n hx hb dX6_found_26 rfl (lv_at hl 2 rfl) ?_
      refine mk_goV (va_runV (As := [.int (iI ((v : Nat) : Int))]) (rest := []) ⟨hx, hb, hml, hown, hts⟩ (c_X6_reckons l cg D ad st2 v (bN st2) (bM st2 v) hv hB1.1 hB1.2.1 (hB1.2.2.1 v hv).1 (hB1.2.2.1 v hv).2 R fD (hM1.row hI) (st2 0 11) rfl hB1.2.2.2.1 (hB1.2.2.2.2.1 v hv)) (cwV 1 hts gX6_found_X6_reckons rfl rfl rfl (by decide +kernel) ⟨Nat.le_of_ble_eq_true rfl, Nat.le_of_ble_eq_true rfl⟩) (mk_preV hK hN hW 0 (by decide) rfl rfl rfl) rfl rfl hl.1 rfl (lv_room (Nat.le_of_ble_eq_true rfl)) dX6_found_27 ⟨Nat.zero_le _, Nat.zero_le _⟩) hW (fun st3 hp27 H locs hW => ?_)
      obtain ⟨hf2, ⟨hq0, hq1, hq2⟩, hmk⟩ := hp27
      have hmk : MOK R fD (bQ st2 v fD) (bC st2 v fD) (bS st2 v fD) (bP st2 v fD) (st2 0 11) st3 := hmk
      have hM12 : MW st2 st3 := MW.of hf2 (by decide) hq0 hq1
      have hM2 : MW st st3 := hM1.tr hM12
      have hB2 : BV st3 := hB.mw hM2
      have hRN := hB.RN hv hI
      have hR60 := hRN.1
      rw [hM1.Q, hM1.C, hM1.S, hM1.P, hM1.2.2] at hmk
      have hAM : AM st3 (bMM st v R fD) := hmk.2.2
      have hlen := bMM_len hB hv hI
      have h292 : st3 0 29 = 0 := by rw [hq2]; omega
      have hkey : ∀ j x, (bMM st v R fD)[j]? = some x → st3 20 j = (mKey x : Int) := fun j x hX => (hAM.2 j x hX).1
      have hr20 : ∀ j, j < (bMM st v R fD).length → 0 ≤ st3 20 j ∧ st3 20 j < 60 := fun j hj => by
        have hX : (bMM st v R fD)[j]? = some ((bMM st v R fD)[j]'hj) := List.getElem?_eq_getElem hj
        have h1 := (bMM_ok hB hv hI (List.mem_of_getElem? hX)).1
        rw [(hAM.2 j _ hX).1]; omega
      refine mk_iconst hx hb (0) dX6_found_30 ?_
      refine lv_istore (lv' := [(4, .int (iI 0)), (3, .int (iI (-1 : Int))), (0, .ref (ad 0)), (1, .int (iI ((v : Nat) : Int))), (2, .int (iI pl))]) hx hb dX6_found_31 hl (by decide) rfl (fun ls hl => ?_)
      have loop33 : ∀ (fuel : Nat) (k : Nat) (b : Int), (k ≤ (bMM st v R fD).length) → ((b = -1 ∧ ∀ j, j < k → sm (fun j2 => if st3 20 j2 < st3 20 j ∨ (st3 20 j2 = st3 20 j ∧ j2 < j) then 1 else 0) (bMM st v R fD).length ≠ pl) ∨ ∃ q : Nat, q < k ∧ b = q ∧ sm (fun j => if st3 20 j < st3 20 q ∨ (st3 20 j = st3 20 q ∧ j < q) then 1 else 0) (bMM st v R fD).length = pl) → (bMM st v R fD).length - k < fuel → ∀ (H : Heap) (locs : List Loc) (ls : Array Slot), GW D vwCl 26 (celM cg) ad (wA 26 ad) s.heap st3 H locs → lv_has ls 5 [(0, .ref (ad 0)), (2, .int (iI pl)), (3, .int (iI b)), (4, .int (iI ((k : Nat) : Int)))] → W p l e (headSpec wsX6_found ({ frames := 3, cells := 0, slots := 0, locals := 79 })).room s m args below meth c H locs 0 0 (MQ below (va_Qi (fun (r : Int32) (u : Nat → Nat → Int) => ∃ z : Int, r = iI z ∧ (fun (z : Int) (st1 : Nat → Nat → Int) => MW st st1 ∧ MOK R fD (bQ st v fD) (bC st v fD) (bS st v fD) (bP st v fD) (st 0 11) st1 ∧ ((z = -1 ∧ st1 0 29 = 1 ∧ ¬ (0 ≤ pl ∧ pl < (bAA st v R fD).length)) ∨ ∃ (k : Nat) (x : MTup), z = k ∧ (bMM st v R fD)[k]? = some x ∧ 0 ≤ pl ∧ (bAA st v R fD)[pl.toNat]? = some x ∧ st1 0 29 = 0)) z u) (mB D vwCl 26 (celM cg) ad) (wA 26 ad)) args s 0 0 (wA 26 ad)) (F0 m 33 ls []) := by
        intro fuel
        induction fuel with
        | zero => intro k b hk hb9 hmu; omega
        | succ fuel ih33 =>
          intro k b hk hb9 hmu H locs ls hW hl
          refine lv_iload hx hb dX6_found_33 (lv_at hl 3 rfl) ?_
          refine lv_aload_n hx hb dX6_found_35 rfl (lv_at hl 0 rfl) ?_
          refine mk_get (ci := 6) (C := RX6) (T := TX6) (N := 30) hx hb hts inX6 hown hK hW 0 (by decide) rfl rfl 22 (by decide) fl127 (fun _ h9 => h9) rfl dX6_found_36 ?_
          refine mk_sayi (y := (((bMM st v R fD).length : Nat) : Int)) hAM.1 ?_
          refine mk_icmp_ge (tgt := 65) hx hb dX6_found_39 (by decide) (by omega) (by omega) (fun c_39 => ?_) (fun c_39 => ?_)
          · skip
            have ek : k = (bMM st v R fD).length := by omega
            rw [ek] at hb9
            have hbr : -1 ≤ b ∧ b < 60 := by rcases hb9 with ⟨h1, h2⟩ | ⟨q, h1, h2, h3⟩ <;> omega
            refine lv_aload_n hx hb dX6_found_65 rfl (lv_at hl 0 rfl) ?_
            refine lv_iload_n hx hb dX6_found_66 rfl (lv_at hl 2 rfl) ?_
            refine mk_if_ge (tgt := 74) hx hb dX6_found_67 (by decide) (by omega) (fun c_67 => ?_) (fun c_67 => ?_)
            · skip
              refine mk_iconst hx hb (0) dX6_found_74 ?_
              refine mk_put (ci := 6) (C := RX6) (T := TX6) (N := 30) hx hb hts inX6 tyX6 tyX6_ok nmX6 hown hK hW 0 (by decide) rfl rfl 29 (by decide) fl91 (fun _ h9 => h9) rfl (by decide +kernel) (Nat.le_of_ble_eq_true rfl) rfl dX6_found_75 (fun H locs hW => ?_)
              obtain ⟨st5, est5⟩ : ∃ z, z = stC st3 0 (fnU (st3 0) 29 0) := ⟨_, rfl⟩
              rw [← est5] at hW
              have hM3 : MW st st5 := hM2.tr (by rw [est5]; exact MW.thr _ _)
              have h293 : st5 0 29 = 0 := by rw [est5]; rfl
              have hmk3 := hmk.thr 0
              rw [← est5] at hmk3
              refine lv_iload_n hx hb dX6_found_78 rfl (lv_at hl 2 rfl) ?_
              exact mk_retI hx hb hr hlocks hW ⟨hM3, hmk3, Or.inr (by
                rcases hb9 with ⟨h1, h2⟩ | ⟨q, h1, h2, h3⟩
                · omega
                · have hX : (bMM st v R fD)[q]? = some ((bMM st v R fD)[q]'h1) := List.getElem?_eq_getElem h1
                  have h4 := told_of (R := R) hkey (fun x hX => made_key hX) hX h3
                  rw [← bAA_srt] at h4
                  exact ⟨q, _, h2, hX, h4.1, h4.2, h293⟩)⟩ dX6_found_79
            · skip
              refine mk_iconst hx hb (1) dX6_found_70 ?_
              refine lv_goto (tgt := 75) hx hb dX6_found_71 (by decide) ?_
              refine mk_put (ci := 6) (C := RX6) (T := TX6) (N := 30) hx hb hts inX6 tyX6 tyX6_ok nmX6 hown hK hW 0 (by decide) rfl rfl 29 (by decide) fl91 (fun _ h9 => h9) rfl (by decide +kernel) (Nat.le_of_ble_eq_true rfl) rfl dX6_found_75 (fun H locs hW => ?_)
              obtain ⟨st6, est6⟩ : ∃ z, z = stC st3 0 (fnU (st3 0) 29 1) := ⟨_, rfl⟩
              rw [← est6] at hW
              have hM3 : MW st st6 := hM2.tr (by rw [est6]; exact MW.thr _ _)
              have h293 : st6 0 29 = 1 := by rw [est6]; rfl
              have hmk3 := hmk.thr 1
              rw [← est6] at hmk3
              refine lv_iload_n hx hb dX6_found_78 rfl (lv_at hl 2 rfl) ?_
              exact mk_retI hx hb hr hlocks hW ⟨hM3, hmk3, Or.inl (by
                rcases hb9 with ⟨h1, h2⟩ | ⟨q, h1, h2, h3⟩
                · refine ⟨h1, h293, ?_⟩
                  rw [bAA_srt]
                  exact told_none hkey h2
                · omega)⟩ dX6_found_79
          · skip
            refine lv_aload_n hx hb dX6_found_42 rfl (lv_at hl 0 rfl) ?_
            refine lv_iload hx hb dX6_found_43 (lv_at hl 3 rfl) ?_
            refine mk_goI (va_runV (As := [.int (iI ((k : Nat) : Int))]) (rest := []) ⟨hx, hb, hml, hown, hts⟩ (c_X6_ahead l cg D ad st3 k (bMM st v R fD) hAM hlen (by omega) hr20) (cwV 1 hts gX6_found_X6_ahead rfl rfl rfl (by decide +kernel) ⟨Nat.le_of_ble_eq_true rfl, Nat.le_of_ble_eq_true rfl⟩) (mk_preV hK hN hW 0 (by decide) rfl rfl rfl) rfl rfl hl.1 rfl (lv_room (Nat.le_of_ble_eq_true rfl)) dX6_found_45 ⟨Nat.zero_le _, Nat.zero_le _⟩) hW (fun y st7 hp45 H locs hW => ?_)
            obtain ⟨est7, hy⟩ := hp45
            rw [est7] at hW
            have hyb : 0 ≤ y ∧ y ≤ (bMM st v R fD).length := by rw [hy]; exact ⟨sm_nn fun j _ => by split <;> omega, by have := sm_bd (f := fun j => if st3 20 j < st3 20 k ∨ (st3 20 j = st3 20 k ∧ j < k) then 1 else 0) (c := 1) (n := (bMM st v R fD).length) (fun j _ => by split <;> omega); omega⟩
            refine lv_iload_n hx hb dX6_found_48 rfl (lv_at hl 1 rfl) ?_
            refine mk_icmp_ne (tgt := 57) hx hb dX6_found_49 (by decide) (by omega) (by omega) (fun c_49 => ?_) (fun c_49 => ?_)
            · skip
              refine lv_iload_n hx hb dX6_found_57 rfl (lv_at hl 2 rfl) ?_
              refine lv_istore_n (lv' := [(3, .int (iI b)), (0, .ref (ad 0)), (2, .int (iI pl)), (4, .int (iI ((k : Nat) : Int)))]) hx hb dX6_found_58 rfl hl (by decide) rfl (fun ls hl => ?_)
              refine mk_iinc (w := ((k + 1 : Nat) : Int)) (lv' := [(4, .int (iI ((k + 1 : Nat) : Int))), (3, .int (iI b)), (0, .ref (ad 0)), (2, .int (iI pl))]) hx hb dX6_found_59 hl (k := 3) rfl (by omega) (by decide) rfl (fun ls hl => ?_)
              refine lv_goto (tgt := 33) hx hb dX6_found_62 (by decide) ?_
              exact ih33 (k + 1) b (by omega) (by
                rcases hb9 with ⟨h1, h2⟩ | ⟨q, h1, h2, h3⟩
                · refine Or.inl ⟨h1, fun j hj => ?_⟩
                  rcases Nat.lt_or_ge j k with h4 | h4
                  · exact h2 j h4
                  · rw [show j = k by omega, ← hy]; exact c_49
                · exact Or.inr ⟨q, by omega, h2, h3⟩) (by omega) _ _ _ hW (lv_sub hl [2, 3, 1, 0] rfl)
            · skip
              refine lv_iload hx hb dX6_found_52 (lv_at hl 3 rfl) ?_
              refine lv_goto (tgt := 58) hx hb dX6_found_54 (by decide) ?_
              refine lv_istore_n (lv' := [(3, .int (iI ((k : Nat) : Int))), (0, .ref (ad 0)), (2, .int (iI pl)), (4, .int (iI ((k : Nat) : Int)))]) hx hb dX6_found_58 rfl hl (by decide) rfl (fun ls hl => ?_)
              refine mk_iinc (w := ((k + 1 : Nat) : Int)) (lv' := [(4, .int (iI ((k + 1 : Nat) : Int))), (3, .int (iI ((k : Nat) : Int))), (0, .ref (ad 0)), (2, .int (iI pl))]) hx hb dX6_found_59 hl (k := 3) rfl (by omega) (by decide) rfl (fun ls hl => ?_)
              refine lv_goto (tgt := 33) hx hb dX6_found_62 (by decide) ?_
              exact ih33 (k + 1) ((k : Nat) : Int) (by omega) (Or.inr ⟨k, by omega, rfl, by rw [← hy]; omega⟩) (by omega) _ _ _ hW (lv_sub hl [2, 3, 1, 0] rfl)
      exact loop33 _ 0 (-1) (Nat.zero_le _) (Or.inl ⟨rfl, fun j hj => absurd hj (Nat.not_lt_zero j)⟩) (Nat.lt_succ_self _) _ _ _ hW (lv_sub hl [2, 4, 1, 0] rfl)

set_option maxHeartbeats 4000000 in
set_option maxRecDepth 100000 in
theorem c_X6_kindOf (l : Launch) (cg : Nat → ClassId) (D : va_G) (ad : Nat → Nat) (st : Nat → Nat → Int) (v : Nat) (hB : BV st) (hv : v < 3) (R : Nat) (fD : Nat → Int) (hI : bRow st v R fD) (pl : Int) (hpr : -2147483648 ≤ pl ∧ pl < 2147483648) : MI l yX6_kindOf wsX6_kindOf ({ frames := 4, cells := 0, slots := 0, locals := 105 }) D vwCl (TY cg) 26 (celM cg) ad st [.ref (ad 0), .int (iI ((v : Nat) : Int)), .int (iI pl)] (fun z st1 => MW st st1 ∧ ((st1 0 29 = 1 ∧ ¬ (0 ≤ pl ∧ pl < (bAA st v R fD).length)) ∨ ∃ x, 0 ≤ pl ∧ (bAA st v R fD)[pl.toNat]? = some x ∧ st1 0 29 = 0 ∧ z = x.2.2.1)) := by
  refine mk_open (cc := cX6_kindOf) (maxL := 4) (ret := (some .int)) (by decide) rfl (Nat.le_of_ble_eq_true rfl) ?_
  intro p e s m args below meth c hx hb hml hr hown hts hlocks hK hN hargs ls hl hW
  have hown : s.vm.findClass RX6 = some m.cls := hown
  have hl : lv_has ls 4 [(0, .ref (ad 0)), (1, .int (iI ((v : Nat) : Int))), (2, .int (iI pl))] := hl
  have inX6 : ∀ w ∈ wsX60, w ∈ wsX6_kindOf := by decide +kernel
  have fl79 := hts (.fieldLink RX6 79 "GainsReckonerModel" "kind" "[I") (by decide +kernel)
  have hlen := bMM_len hB hv hI
  have hRN := hB.RN hv hI
  have hR60 := hRN.1
  refine lv_aload_n hx hb dX6_kindOf_0 rfl (lv_at hl 0 rfl) ?_
  refine lv_iload_n hx hb dX6_kindOf_1 rfl (lv_at hl 1 rfl) ?_
  refine lv_iload_n hx hb dX6_kindOf_2 rfl (lv_at hl 2 rfl) ?_
  refine mk_goI (va_runV (As := [.int (iI ((v : Nat) : Int)), .int (iI pl)]) (rest := []) ⟨hx, hb, hml, hown, hts⟩ (c_X6_found l cg D ad st v hB hv R fD hI pl hpr) (cwV 2 hts gX6_kindOf_X6_found rfl rfl rfl (by decide +kernel) ⟨Nat.le_of_ble_eq_true rfl, Nat.le_of_ble_eq_true rfl⟩) (mk_preV hK hN hW 0 (by decide) rfl rfl rfl) rfl rfl hl.1 rfl (lv_room (Nat.le_of_ble_eq_true rfl)) dX6_kindOf_3 ⟨Nat.zero_le _, Nat.zero_le _⟩) hW (fun y st1 hp3 H locs hW => ?_)
  obtain ⟨hM2, hmk, hcs⟩ := hp3
  have hyr : -1 ≤ y ∧ y < 60 := by
    rcases hcs with ⟨h1, -⟩ | ⟨k, x, h1, hX, -⟩
    · omega
    · have := (List.getElem?_eq_some_iff.mp hX).1; omega
  refine lv_istore_n (lv' := [(3, .int (iI y)), (0, .ref (ad 0)), (1, .int (iI ((v : Nat) : Int))), (2, .int (iI pl))]) hx hb dX6_kindOf_6 rfl hl (by decide) rfl (fun ls hl => ?_)
  refine lv_iload_n hx hb dX6_kindOf_7 rfl (lv_at hl 0 rfl) ?_
  refine mk_if_ge (tgt := 15) hx hb dX6_kindOf_8 (by decide) (by omega) (fun c_8 => ?_) (fun c_8 => ?_)
  · skip
    obtain ⟨k, x, ey, hX, hpl, hC, h290⟩ : ∃ (k : Nat) (x : MTup), y = k ∧ (bMM st v R fD)[k]? = some x ∧ 0 ≤ pl ∧ (bAA st v R fD)[pl.toNat]? = some x ∧ st1 0 29 = 0 := by
      rcases hcs with ⟨h1, -⟩ | h
      · omega
      · exact h
    have hk := (List.getElem?_eq_some_iff.mp hX).1
    have hxo := bMM_ok hB hv hI (List.mem_of_getElem? hX)
    have hxa := hmk.2.2.2 k x hX
    refine lv_aload_n hx hb dX6_kindOf_15 rfl (lv_at hl 1 rfl) ?_
    refine mk_get (ci := 6) (C := RX6) (T := TX6) (N := 30) hx hb hts inX6 hown hK hW 0 (by decide) rfl rfl 25 (by decide) fl79 (fun _ h9 => h9) rfl dX6_kindOf_16 ?_
    refine lv_iload_n hx hb dX6_kindOf_19 rfl (lv_at hl 0 rfl) ?_
    refine mk_sayi (y := ((k : Nat) : Int)) ey ?_
    refine mk_iald hx hb hK hW 22 (by decide) rfl 0 rfl (j := k) rfl (by omega) (by decide) dX6_kindOf_20 ?_
    refine mk_sayi (y := x.2.2.1) hxa.2.2.1 ?_
    exact mk_retI hx hb hr hlocks hW ⟨hM2, Or.inr ⟨x, hpl, hC, h290, rfl⟩⟩ dX6_kindOf_21
  · skip
    refine mk_iconst hx hb (0) dX6_kindOf_11 ?_
    refine lv_goto (tgt := 21) hx hb dX6_kindOf_12 (by decide) ?_
    exact mk_retI hx hb hr hlocks hW ⟨hM2, Or.inl (by rcases hcs with ⟨h1, h2⟩ | ⟨k, x, h1, -⟩; exact h2; omega)⟩ dX6_kindOf_21

set_option maxHeartbeats 4000000 in
set_option maxRecDepth 100000 in
theorem c_X6_kindOf_no (l : Launch) (cg : Nat → ClassId) (D : va_G) (ad : Nat → Nat) (st : Nat → Nat → Int) (a pl : Int) (hB : BV st) (ha : -2147483648 ≤ a ∧ a < 2147483648) (hno : ¬ (0 ≤ a ∧ a ≤ 2)) : MI l yX6_kindOf wsX6_kindOf ({ frames := 3, cells := 0, slots := 0, locals := 80 }) D vwCl (TY cg) 26 (celM cg) ad st [.ref (ad 0), .int (iI a), .int (iI pl)] (fun z st1 => MW st st1 ∧ st1 0 29 = 1) := by
  refine mk_open (cc := cX6_kindOf) (maxL := 4) (ret := (some .int)) (by decide) rfl (Nat.le_of_ble_eq_true rfl) ?_
  intro p e s m args below meth c hx hb hml hr hown hts hlocks hK hN hargs ls hl hW
  have hown : s.vm.findClass RX6 = some m.cls := hown
  have hl : lv_has ls 4 [(0, .ref (ad 0)), (1, .int (iI a)), (2, .int (iI pl))] := hl
  refine lv_aload_n hx hb dX6_kindOf_0 rfl (lv_at hl 0 rfl) ?_
  refine lv_iload_n hx hb dX6_kindOf_1 rfl (lv_at hl 1 rfl) ?_
  refine lv_iload_n hx hb dX6_kindOf_2 rfl (lv_at hl 2 rfl) ?_
  refine mk_goI (va_runV (As := [.int (iI a), .int (iI pl)]) (rest := []) ⟨hx, hb, hml, hown, hts⟩ (c_X6_found_no l cg D ad st a pl hB ha hno) (cwV 2 hts gX6_kindOf_X6_found rfl rfl rfl (by decide +kernel) ⟨Nat.le_of_ble_eq_true rfl, Nat.le_of_ble_eq_true rfl⟩) (mk_preV hK hN hW 0 (by decide) rfl rfl rfl) rfl rfl hl.1 rfl (lv_room (Nat.le_of_ble_eq_true rfl)) dX6_kindOf_3 ⟨Nat.zero_le _, Nat.zero_le _⟩) hW (fun y st1 hp3 H locs hW => ?_)
  obtain ⟨hM2, h292, ey⟩ := hp3
  refine lv_istore_n (lv' := [(3, .int (iI y)), (0, .ref (ad 0)), (1, .int (iI a)), (2, .int (iI pl))]) hx hb dX6_kindOf_6 rfl hl (by decide) rfl (fun ls hl => ?_)
  refine lv_iload_n hx hb dX6_kindOf_7 rfl (lv_at hl 0 rfl) ?_
  refine mk_if_ge (tgt := 15) hx hb dX6_kindOf_8 (by decide) (by omega) (fun c_8 => ?_) (fun c_8 => ?_)
  · skip
    omega
  · skip
    refine mk_iconst hx hb (0) dX6_kindOf_11 ?_
    refine lv_goto (tgt := 21) hx hb dX6_kindOf_12 (by decide) ?_
    exact mk_retI hx hb hr hlocks hW ⟨hM2, h292⟩ dX6_kindOf_21

set_option maxHeartbeats 4000000 in
set_option maxRecDepth 100000 in
theorem c_X6_saleDay (l : Launch) (cg : Nat → ClassId) (D : va_G) (ad : Nat → Nat) (st : Nat → Nat → Int) (v : Nat) (hB : BV st) (hv : v < 3) (R : Nat) (fD : Nat → Int) (hI : bRow st v R fD) (pl : Int) (hpr : -2147483648 ≤ pl ∧ pl < 2147483648) : MI l yX6_saleDay wsX6_saleDay ({ frames := 4, cells := 0, slots := 0, locals := 105 }) D vwCl (TY cg) 26 (celM cg) ad st [.ref (ad 0), .int (iI ((v : Nat) : Int)), .int (iI pl)] (fun z st1 => MW st st1 ∧ ((st1 0 29 = 1 ∧ ¬ (0 ≤ pl ∧ pl < (bAA st v R fD).length)) ∨ ∃ x, 0 ≤ pl ∧ (bAA st v R fD)[pl.toNat]? = some x ∧ st1 0 29 = 0 ∧ z = fD x.1)) := by
  refine mk_open (cc := cX6_saleDay) (maxL := 4) (ret := (some .int)) (by decide) rfl (Nat.le_of_ble_eq_true rfl) ?_
  intro p e s m args below meth c hx hb hml hr hown hts hlocks hK hN hargs ls hl hW
  have hown : s.vm.findClass RX6 = some m.cls := hown
  have hl : lv_has ls 4 [(0, .ref (ad 0)), (1, .int (iI ((v : Nat) : Int))), (2, .int (iI pl))] := hl
  have inX6 : ∀ w ∈ wsX60, w ∈ wsX6_saleDay := by decide +kernel
  have fl45 := hts (.fieldLink RX6 45 "GainsReckonerModel" "date" "[I") (by decide +kernel)
  have fl73 := hts (.fieldLink RX6 73 "GainsReckonerModel" "by" "[I") (by decide +kernel)
  have hlen := bMM_len hB hv hI
  have hRN := hB.RN hv hI
  have hR60 := hRN.1
  refine lv_aload_n hx hb dX6_saleDay_0 rfl (lv_at hl 0 rfl) ?_
  refine lv_iload_n hx hb dX6_saleDay_1 rfl (lv_at hl 1 rfl) ?_
  refine lv_iload_n hx hb dX6_saleDay_2 rfl (lv_at hl 2 rfl) ?_
  refine mk_goI (va_runV (As := [.int (iI ((v : Nat) : Int)), .int (iI pl)]) (rest := []) ⟨hx, hb, hml, hown, hts⟩ (c_X6_found l cg D ad st v hB hv R fD hI pl hpr) (cwV 2 hts gX6_saleDay_X6_found rfl rfl rfl (by decide +kernel) ⟨Nat.le_of_ble_eq_true rfl, Nat.le_of_ble_eq_true rfl⟩) (mk_preV hK hN hW 0 (by decide) rfl rfl rfl) rfl rfl hl.1 rfl (lv_room (Nat.le_of_ble_eq_true rfl)) dX6_saleDay_3 ⟨Nat.zero_le _, Nat.zero_le _⟩) hW (fun y st1 hp3 H locs hW => ?_)
  obtain ⟨hM2, hmk, hcs⟩ := hp3
  have hyr : -1 ≤ y ∧ y < 60 := by
    rcases hcs with ⟨h1, -⟩ | ⟨k, x, h1, hX, -⟩
    · omega
    · have := (List.getElem?_eq_some_iff.mp hX).1; omega
  refine lv_istore_n (lv' := [(3, .int (iI y)), (0, .ref (ad 0)), (1, .int (iI ((v : Nat) : Int))), (2, .int (iI pl))]) hx hb dX6_saleDay_6 rfl hl (by decide) rfl (fun ls hl => ?_)
  refine lv_iload_n hx hb dX6_saleDay_7 rfl (lv_at hl 0 rfl) ?_
  refine mk_if_ge (tgt := 15) hx hb dX6_saleDay_8 (by decide) (by omega) (fun c_8 => ?_) (fun c_8 => ?_)
  · skip
    obtain ⟨k, x, ey, hX, hpl, hC, h290⟩ : ∃ (k : Nat) (x : MTup), y = k ∧ (bMM st v R fD)[k]? = some x ∧ 0 ≤ pl ∧ (bAA st v R fD)[pl.toNat]? = some x ∧ st1 0 29 = 0 := by
      rcases hcs with ⟨h1, -⟩ | h
      · omega
      · exact h
    have hk := (List.getElem?_eq_some_iff.mp hX).1
    have hxo := bMM_ok hB hv hI (List.mem_of_getElem? hX)
    have hxa := hmk.2.2.2 k x hX
    refine lv_aload_n hx hb dX6_saleDay_15 rfl (lv_at hl 1 rfl) ?_
    refine mk_get (ci := 6) (C := RX6) (T := TX6) (N := 30) hx hb hts inX6 hown hK hW 0 (by decide) rfl rfl 13 (by decide) fl45 (fun _ h9 => h9) rfl dX6_saleDay_16 ?_
    refine lv_aload_n hx hb dX6_saleDay_19 rfl (lv_at hl 1 rfl) ?_
    refine mk_get (ci := 6) (C := RX6) (T := TX6) (N := 30) hx hb hts inX6 hown hK hW 0 (by decide) rfl rfl 23 (by decide) fl73 (fun _ h9 => h9) rfl dX6_saleDay_20 ?_
    refine lv_iload_n hx hb dX6_saleDay_23 rfl (lv_at hl 0 rfl) ?_
    refine mk_sayi (y := ((k : Nat) : Int)) ey ?_
    refine mk_iald hx hb hK hW 20 (by decide) rfl 0 rfl (j := k) rfl (by omega) (by decide) dX6_saleDay_24 ?_
    refine mk_sayi (y := ((x.1 : Nat) : Int)) hxa.1 ?_
    refine mk_iald hx hb hK hW 11 (by decide) rfl 0 rfl (j := x.1) rfl (by omega) (by decide) dX6_saleDay_25 ?_
    refine mk_sayi (y := (fD x.1)) (hmk.2.1 x.1 hxo.1).1 ?_
    exact mk_retI hx hb hr hlocks hW ⟨hM2, Or.inr ⟨x, hpl, hC, h290, rfl⟩⟩ dX6_saleDay_26
  · skip
    refine mk_iconst hx hb (0) dX6_saleDay_11 ?_
    refine lv_goto (tgt := 26) hx hb dX6_saleDay_12 (by decide) ?_
    exact mk_retI hx hb hr hlocks hW ⟨hM2, Or.inl (by rcases hcs with ⟨h1, h2⟩ | ⟨k, x, h1, -⟩; exact h2; omega)⟩ dX6_saleDay_26

set_option maxHeartbeats 4000000 in
set_option maxRecDepth 100000 in
theorem c_X6_saleDay_no (l : Launch) (cg : Nat → ClassId) (D : va_G) (ad : Nat → Nat) (st : Nat → Nat → Int) (a pl : Int) (hB : BV st) (ha : -2147483648 ≤ a ∧ a < 2147483648) (hno : ¬ (0 ≤ a ∧ a ≤ 2)) : MI l yX6_saleDay wsX6_saleDay ({ frames := 3, cells := 0, slots := 0, locals := 80 }) D vwCl (TY cg) 26 (celM cg) ad st [.ref (ad 0), .int (iI a), .int (iI pl)] (fun z st1 => MW st st1 ∧ st1 0 29 = 1) := by
  refine mk_open (cc := cX6_saleDay) (maxL := 4) (ret := (some .int)) (by decide) rfl (Nat.le_of_ble_eq_true rfl) ?_
  intro p e s m args below meth c hx hb hml hr hown hts hlocks hK hN hargs ls hl hW
  have hown : s.vm.findClass RX6 = some m.cls := hown
  have hl : lv_has ls 4 [(0, .ref (ad 0)), (1, .int (iI a)), (2, .int (iI pl))] := hl
  refine lv_aload_n hx hb dX6_saleDay_0 rfl (lv_at hl 0 rfl) ?_
  refine lv_iload_n hx hb dX6_saleDay_1 rfl (lv_at hl 1 rfl) ?_
  refine lv_iload_n hx hb dX6_saleDay_2 rfl (lv_at hl 2 rfl) ?_
  refine mk_goI (va_runV (As := [.int (iI a), .int (iI pl)]) (rest := []) ⟨hx, hb, hml, hown, hts⟩ (c_X6_found_no l cg D ad st a pl hB ha hno) (cwV 2 hts gX6_saleDay_X6_found rfl rfl rfl (by decide +kernel) ⟨Nat.le_of_ble_eq_true rfl, Nat.le_of_ble_eq_true rfl⟩) (mk_preV hK hN hW 0 (by decide) rfl rfl rfl) rfl rfl hl.1 rfl (lv_room (Nat.le_of_ble_eq_true rfl)) dX6_saleDay_3 ⟨Nat.zero_le _, Nat.zero_le _⟩) hW (fun y st1 hp3 H locs hW => ?_)
  obtain ⟨hM2, h292, ey⟩ := hp3
  refine lv_istore_n (lv' := [(3, .int (iI y)), (0, .ref (ad 0)), (1, .int (iI a)), (2, .int (iI pl))]) hx hb dX6_saleDay_6 rfl hl (by decide) rfl (fun ls hl => ?_)
  refine lv_iload_n hx hb dX6_saleDay_7 rfl (lv_at hl 0 rfl) ?_
  refine mk_if_ge (tgt := 15) hx hb dX6_saleDay_8 (by decide) (by omega) (fun c_8 => ?_) (fun c_8 => ?_)
  · skip
    omega
  · skip
    refine mk_iconst hx hb (0) dX6_saleDay_11 ?_
    refine lv_goto (tgt := 26) hx hb dX6_saleDay_12 (by decide) ?_
    exact mk_retI hx hb hr hlocks hW ⟨hM2, h292⟩ dX6_saleDay_26

set_option maxHeartbeats 4000000 in
set_option maxRecDepth 100000 in
theorem c_X6_buyDay (l : Launch) (cg : Nat → ClassId) (D : va_G) (ad : Nat → Nat) (st : Nat → Nat → Int) (v : Nat) (hB : BV st) (hv : v < 3) (R : Nat) (fD : Nat → Int) (hI : bRow st v R fD) (pl : Int) (hpr : -2147483648 ≤ pl ∧ pl < 2147483648) : MI l yX6_buyDay wsX6_buyDay ({ frames := 4, cells := 0, slots := 0, locals := 105 }) D vwCl (TY cg) 26 (celM cg) ad st [.ref (ad 0), .int (iI ((v : Nat) : Int)), .int (iI pl)] (fun z st1 => MW st st1 ∧ ((st1 0 29 = 1 ∧ ¬ (0 ≤ pl ∧ pl < (bAA st v R fD).length)) ∨ ∃ x, 0 ≤ pl ∧ (bAA st v R fD)[pl.toNat]? = some x ∧ st1 0 29 = 0 ∧ z = bD fD x.2.1)) := by
  refine mk_open (cc := cX6_buyDay) (maxL := 4) (ret := (some .int)) (by decide) rfl (Nat.le_of_ble_eq_true rfl) ?_
  intro p e s m args below meth c hx hb hml hr hown hts hlocks hK hN hargs ls hl hW
  have hown : s.vm.findClass RX6 = some m.cls := hown
  have hl : lv_has ls 4 [(0, .ref (ad 0)), (1, .int (iI ((v : Nat) : Int))), (2, .int (iI pl))] := hl
  have inX6 : ∀ w ∈ wsX60, w ∈ wsX6_buyDay := by decide +kernel
  have fl76 := hts (.fieldLink RX6 76 "GainsReckonerModel" "from" "[I") (by decide +kernel)
  have fl45 := hts (.fieldLink RX6 45 "GainsReckonerModel" "date" "[I") (by decide +kernel)
  have hlen := bMM_len hB hv hI
  have hRN := hB.RN hv hI
  have hR60 := hRN.1
  refine lv_aload_n hx hb dX6_buyDay_0 rfl (lv_at hl 0 rfl) ?_
  refine lv_iload_n hx hb dX6_buyDay_1 rfl (lv_at hl 1 rfl) ?_
  refine lv_iload_n hx hb dX6_buyDay_2 rfl (lv_at hl 2 rfl) ?_
  refine mk_goI (va_runV (As := [.int (iI ((v : Nat) : Int)), .int (iI pl)]) (rest := []) ⟨hx, hb, hml, hown, hts⟩ (c_X6_found l cg D ad st v hB hv R fD hI pl hpr) (cwV 2 hts gX6_buyDay_X6_found rfl rfl rfl (by decide +kernel) ⟨Nat.le_of_ble_eq_true rfl, Nat.le_of_ble_eq_true rfl⟩) (mk_preV hK hN hW 0 (by decide) rfl rfl rfl) rfl rfl hl.1 rfl (lv_room (Nat.le_of_ble_eq_true rfl)) dX6_buyDay_3 ⟨Nat.zero_le _, Nat.zero_le _⟩) hW (fun y st1 hp3 H locs hW => ?_)
  obtain ⟨hM2, hmk, hcs⟩ := hp3
  have hyr : -1 ≤ y ∧ y < 60 := by
    rcases hcs with ⟨h1, -⟩ | ⟨k, x, h1, hX, -⟩
    · omega
    · have := (List.getElem?_eq_some_iff.mp hX).1; omega
  refine lv_istore_n (lv' := [(3, .int (iI y)), (0, .ref (ad 0)), (1, .int (iI ((v : Nat) : Int))), (2, .int (iI pl))]) hx hb dX6_buyDay_6 rfl hl (by decide) rfl (fun ls hl => ?_)
  refine lv_iload_n hx hb dX6_buyDay_7 rfl (lv_at hl 0 rfl) ?_
  refine mk_if_ge (tgt := 15) hx hb dX6_buyDay_8 (by decide) (by omega) (fun c_8 => ?_) (fun c_8 => ?_)
  · skip
    obtain ⟨k, x, ey, hX, hpl, hC, h290⟩ : ∃ (k : Nat) (x : MTup), y = k ∧ (bMM st v R fD)[k]? = some x ∧ 0 ≤ pl ∧ (bAA st v R fD)[pl.toNat]? = some x ∧ st1 0 29 = 0 := by
      rcases hcs with ⟨h1, -⟩ | h
      · omega
      · exact h
    have hk := (List.getElem?_eq_some_iff.mp hX).1
    have hxo := bMM_ok hB hv hI (List.mem_of_getElem? hX)
    have hxa := hmk.2.2.2 k x hX
    refine lv_aload_n hx hb dX6_buyDay_15 rfl (lv_at hl 1 rfl) ?_
    refine mk_get (ci := 6) (C := RX6) (T := TX6) (N := 30) hx hb hts inX6 hown hK hW 0 (by decide) rfl rfl 24 (by decide) fl76 (fun _ h9 => h9) rfl dX6_buyDay_16 ?_
    refine lv_iload_n hx hb dX6_buyDay_19 rfl (lv_at hl 0 rfl) ?_
    refine mk_sayi (y := ((k : Nat) : Int)) ey ?_
    refine mk_iald hx hb hK hW 21 (by decide) rfl 0 rfl (j := k) rfl (by omega) (by decide) dX6_buyDay_20 ?_
    refine mk_sayi (y := x.2.1) hxa.2.1 ?_
    refine mk_if_ge (tgt := 28) hx hb dX6_buyDay_21 (by decide) (by omega) (fun c_21 => ?_) (fun c_21 => ?_)
    · skip
      obtain ⟨i, ei⟩ : ∃ i : Nat, x.2.1 = i := ⟨x.2.1.toNat, by omega⟩
      refine lv_aload_n hx hb dX6_buyDay_28 rfl (lv_at hl 1 rfl) ?_
      refine mk_get (ci := 6) (C := RX6) (T := TX6) (N := 30) hx hb hts inX6 hown hK hW 0 (by decide) rfl rfl 13 (by decide) fl45 (fun _ h9 => h9) rfl dX6_buyDay_29 ?_
      refine lv_aload_n hx hb dX6_buyDay_32 rfl (lv_at hl 1 rfl) ?_
      refine mk_get (ci := 6) (C := RX6) (T := TX6) (N := 30) hx hb hts inX6 hown hK hW 0 (by decide) rfl rfl 24 (by decide) fl76 (fun _ h9 => h9) rfl dX6_buyDay_33 ?_
      refine lv_iload_n hx hb dX6_buyDay_36 rfl (lv_at hl 0 rfl) ?_
      refine mk_sayi (y := ((k : Nat) : Int)) ey ?_
      refine mk_iald hx hb hK hW 21 (by decide) rfl 0 rfl (j := k) rfl (by omega) (by decide) dX6_buyDay_37 ?_
      refine mk_sayi (y := ((i : Nat) : Int)) (hxa.2.1.trans ei) ?_
      refine mk_iald hx hb hK hW 11 (by decide) rfl 0 rfl (j := i) rfl (by omega) (by decide) dX6_buyDay_38 ?_
      refine mk_sayi (y := (fD i)) (hmk.2.1 i (by omega)).1 ?_
      exact mk_retI hx hb hr hlocks hW ⟨hM2, Or.inr ⟨x, hpl, hC, h290, (by unfold bD; rw [if_neg (by omega), ei, Int.toNat_natCast])⟩⟩ dX6_buyDay_39
    · skip
      refine mk_iconst hx hb (-1) dX6_buyDay_24 ?_
      refine lv_goto (tgt := 39) hx hb dX6_buyDay_25 (by decide) ?_
      exact mk_retI hx hb hr hlocks hW ⟨hM2, Or.inr ⟨x, hpl, hC, h290, (by unfold bD; rw [if_pos (by omega)])⟩⟩ dX6_buyDay_39
  · skip
    refine mk_iconst hx hb (0) dX6_buyDay_11 ?_
    refine lv_goto (tgt := 39) hx hb dX6_buyDay_12 (by decide) ?_
    exact mk_retI hx hb hr hlocks hW ⟨hM2, Or.inl (by rcases hcs with ⟨h1, h2⟩ | ⟨k, x, h1, -⟩; exact h2; omega)⟩ dX6_buyDay_39

set_option maxHeartbeats 4000000 in
set_option maxRecDepth 100000 in
theorem c_X6_buyDay_no (l : Launch) (cg : Nat → ClassId) (D : va_G) (ad : Nat → Nat) (st : Nat → Nat → Int) (a pl : Int) (hB : BV st) (ha : -2147483648 ≤ a ∧ a < 2147483648) (hno : ¬ (0 ≤ a ∧ a ≤ 2)) : MI l yX6_buyDay wsX6_buyDay ({ frames := 3, cells := 0, slots := 0, locals := 80 }) D vwCl (TY cg) 26 (celM cg) ad st [.ref (ad 0), .int (iI a), .int (iI pl)] (fun z st1 => MW st st1 ∧ st1 0 29 = 1) := by
  refine mk_open (cc := cX6_buyDay) (maxL := 4) (ret := (some .int)) (by decide) rfl (Nat.le_of_ble_eq_true rfl) ?_
  intro p e s m args below meth c hx hb hml hr hown hts hlocks hK hN hargs ls hl hW
  have hown : s.vm.findClass RX6 = some m.cls := hown
  have hl : lv_has ls 4 [(0, .ref (ad 0)), (1, .int (iI a)), (2, .int (iI pl))] := hl
  refine lv_aload_n hx hb dX6_buyDay_0 rfl (lv_at hl 0 rfl) ?_
  refine lv_iload_n hx hb dX6_buyDay_1 rfl (lv_at hl 1 rfl) ?_
  refine lv_iload_n hx hb dX6_buyDay_2 rfl (lv_at hl 2 rfl) ?_
  refine mk_goI (va_runV (As := [.int (iI a), .int (iI pl)]) (rest := []) ⟨hx, hb, hml, hown, hts⟩ (c_X6_found_no l cg D ad st a pl hB ha hno) (cwV 2 hts gX6_buyDay_X6_found rfl rfl rfl (by decide +kernel) ⟨Nat.le_of_ble_eq_true rfl, Nat.le_of_ble_eq_true rfl⟩) (mk_preV hK hN hW 0 (by decide) rfl rfl rfl) rfl rfl hl.1 rfl (lv_room (Nat.le_of_ble_eq_true rfl)) dX6_buyDay_3 ⟨Nat.zero_le _, Nat.zero_le _⟩) hW (fun y st1 hp3 H locs hW => ?_)
  obtain ⟨hM2, h292, ey⟩ := hp3
  refine lv_istore_n (lv' := [(3, .int (iI y)), (0, .ref (ad 0)), (1, .int (iI a)), (2, .int (iI pl))]) hx hb dX6_buyDay_6 rfl hl (by decide) rfl (fun ls hl => ?_)
  refine lv_iload_n hx hb dX6_buyDay_7 rfl (lv_at hl 0 rfl) ?_
  refine mk_if_ge (tgt := 15) hx hb dX6_buyDay_8 (by decide) (by omega) (fun c_8 => ?_) (fun c_8 => ?_)
  · skip
    omega
  · skip
    refine mk_iconst hx hb (0) dX6_buyDay_11 ?_
    refine lv_goto (tgt := 39) hx hb dX6_buyDay_12 (by decide) ?_
    exact mk_retI hx hb hr hlocks hW ⟨hM2, h292⟩ dX6_buyDay_39

set_option maxHeartbeats 4000000 in
set_option maxRecDepth 100000 in
theorem c_X6_unitsOf (l : Launch) (cg : Nat → ClassId) (D : va_G) (ad : Nat → Nat) (st : Nat → Nat → Int) (v : Nat) (hB : BV st) (hv : v < 3) (R : Nat) (fD : Nat → Int) (hI : bRow st v R fD) (pl : Int) (hpr : -2147483648 ≤ pl ∧ pl < 2147483648) : MI l yX6_unitsOf wsX6_unitsOf ({ frames := 4, cells := 0, slots := 0, locals := 105 }) D vwCl (TY cg) 26 (celM cg) ad st [.ref (ad 0), .int (iI ((v : Nat) : Int)), .int (iI pl)] (fun z st1 => MW st st1 ∧ ((st1 0 29 = 1 ∧ ¬ (0 ≤ pl ∧ pl < (bAA st v R fD).length)) ∨ ∃ x, 0 ≤ pl ∧ (bAA st v R fD)[pl.toNat]? = some x ∧ st1 0 29 = 0 ∧ z = x.2.2.2.1)) := by
  refine mk_open (cc := cX6_unitsOf) (maxL := 4) (ret := (some .int)) (by decide) rfl (Nat.le_of_ble_eq_true rfl) ?_
  intro p e s m args below meth c hx hb hml hr hown hts hlocks hK hN hargs ls hl hW
  have hown : s.vm.findClass RX6 = some m.cls := hown
  have hl : lv_has ls 4 [(0, .ref (ad 0)), (1, .int (iI ((v : Nat) : Int))), (2, .int (iI pl))] := hl
  have inX6 : ∀ w ∈ wsX60, w ∈ wsX6_unitsOf := by decide +kernel
  have fl82 := hts (.fieldLink RX6 82 "GainsReckonerModel" "many" "[J") (by decide +kernel)
  have hlen := bMM_len hB hv hI
  have hRN := hB.RN hv hI
  have hR60 := hRN.1
  refine lv_aload_n hx hb dX6_unitsOf_0 rfl (lv_at hl 0 rfl) ?_
  refine lv_iload_n hx hb dX6_unitsOf_1 rfl (lv_at hl 1 rfl) ?_
  refine lv_iload_n hx hb dX6_unitsOf_2 rfl (lv_at hl 2 rfl) ?_
  refine mk_goI (va_runV (As := [.int (iI ((v : Nat) : Int)), .int (iI pl)]) (rest := []) ⟨hx, hb, hml, hown, hts⟩ (c_X6_found l cg D ad st v hB hv R fD hI pl hpr) (cwV 2 hts gX6_unitsOf_X6_found rfl rfl rfl (by decide +kernel) ⟨Nat.le_of_ble_eq_true rfl, Nat.le_of_ble_eq_true rfl⟩) (mk_preV hK hN hW 0 (by decide) rfl rfl rfl) rfl rfl hl.1 rfl (lv_room (Nat.le_of_ble_eq_true rfl)) dX6_unitsOf_3 ⟨Nat.zero_le _, Nat.zero_le _⟩) hW (fun y st1 hp3 H locs hW => ?_)
  obtain ⟨hM2, hmk, hcs⟩ := hp3
  have hyr : -1 ≤ y ∧ y < 60 := by
    rcases hcs with ⟨h1, -⟩ | ⟨k, x, h1, hX, -⟩
    · omega
    · have := (List.getElem?_eq_some_iff.mp hX).1; omega
  refine lv_istore_n (lv' := [(3, .int (iI y)), (0, .ref (ad 0)), (1, .int (iI ((v : Nat) : Int))), (2, .int (iI pl))]) hx hb dX6_unitsOf_6 rfl hl (by decide) rfl (fun ls hl => ?_)
  refine lv_iload_n hx hb dX6_unitsOf_7 rfl (lv_at hl 0 rfl) ?_
  refine mk_if_ge (tgt := 15) hx hb dX6_unitsOf_8 (by decide) (by omega) (fun c_8 => ?_) (fun c_8 => ?_)
  · skip
    obtain ⟨k, x, ey, hX, hpl, hC, h290⟩ : ∃ (k : Nat) (x : MTup), y = k ∧ (bMM st v R fD)[k]? = some x ∧ 0 ≤ pl ∧ (bAA st v R fD)[pl.toNat]? = some x ∧ st1 0 29 = 0 := by
      rcases hcs with ⟨h1, -⟩ | h
      · omega
      · exact h
    have hk := (List.getElem?_eq_some_iff.mp hX).1
    have hxo := bMM_ok hB hv hI (List.mem_of_getElem? hX)
    have hxa := hmk.2.2.2 k x hX
    refine lv_aload_n hx hb dX6_unitsOf_15 rfl (lv_at hl 1 rfl) ?_
    refine mk_get (ci := 6) (C := RX6) (T := TX6) (N := 30) hx hb hts inX6 hown hK hW 0 (by decide) rfl rfl 26 (by decide) fl82 (fun _ h9 => h9) rfl dX6_unitsOf_16 ?_
    refine lv_iload_n hx hb dX6_unitsOf_19 rfl (lv_at hl 0 rfl) ?_
    refine mk_sayi (y := ((k : Nat) : Int)) ey ?_
    refine mk_lald hx hb hK hW 23 (by decide) rfl 2 rfl (j := k) rfl (by omega) (by decide) dX6_unitsOf_20 ?_
    refine mk_sayl (y := x.2.2.2.1) hxa.2.2.2.1 ?_
    refine mk_l2i hx hb dX6_unitsOf_21 ?_
    exact mk_retI hx hb hr hlocks hW ⟨hM2, Or.inr ⟨x, hpl, hC, h290, rfl⟩⟩ dX6_unitsOf_22
  · skip
    refine mk_iconst hx hb (0) dX6_unitsOf_11 ?_
    refine lv_goto (tgt := 22) hx hb dX6_unitsOf_12 (by decide) ?_
    exact mk_retI hx hb hr hlocks hW ⟨hM2, Or.inl (by rcases hcs with ⟨h1, h2⟩ | ⟨k, x, h1, -⟩; exact h2; omega)⟩ dX6_unitsOf_22

set_option maxHeartbeats 4000000 in
set_option maxRecDepth 100000 in
theorem c_X6_unitsOf_no (l : Launch) (cg : Nat → ClassId) (D : va_G) (ad : Nat → Nat) (st : Nat → Nat → Int) (a pl : Int) (hB : BV st) (ha : -2147483648 ≤ a ∧ a < 2147483648) (hno : ¬ (0 ≤ a ∧ a ≤ 2)) : MI l yX6_unitsOf wsX6_unitsOf ({ frames := 3, cells := 0, slots := 0, locals := 80 }) D vwCl (TY cg) 26 (celM cg) ad st [.ref (ad 0), .int (iI a), .int (iI pl)] (fun z st1 => MW st st1 ∧ st1 0 29 = 1) := by
  refine mk_open (cc := cX6_unitsOf) (maxL := 4) (ret := (some .int)) (by decide) rfl (Nat.le_of_ble_eq_true rfl) ?_
  intro p e s m args below meth c hx hb hml hr hown hts hlocks hK hN hargs ls hl hW
  have hown : s.vm.findClass RX6 = some m.cls := hown
  have hl : lv_has ls 4 [(0, .ref (ad 0)), (1, .int (iI a)), (2, .int (iI pl))] := hl
  refine lv_aload_n hx hb dX6_unitsOf_0 rfl (lv_at hl 0 rfl) ?_
  refine lv_iload_n hx hb dX6_unitsOf_1 rfl (lv_at hl 1 rfl) ?_
  refine lv_iload_n hx hb dX6_unitsOf_2 rfl (lv_at hl 2 rfl) ?_
  refine mk_goI (va_runV (As := [.int (iI a), .int (iI pl)]) (rest := []) ⟨hx, hb, hml, hown, hts⟩ (c_X6_found_no l cg D ad st a pl hB ha hno) (cwV 2 hts gX6_unitsOf_X6_found rfl rfl rfl (by decide +kernel) ⟨Nat.le_of_ble_eq_true rfl, Nat.le_of_ble_eq_true rfl⟩) (mk_preV hK hN hW 0 (by decide) rfl rfl rfl) rfl rfl hl.1 rfl (lv_room (Nat.le_of_ble_eq_true rfl)) dX6_unitsOf_3 ⟨Nat.zero_le _, Nat.zero_le _⟩) hW (fun y st1 hp3 H locs hW => ?_)
  obtain ⟨hM2, h292, ey⟩ := hp3
  refine lv_istore_n (lv' := [(3, .int (iI y)), (0, .ref (ad 0)), (1, .int (iI a)), (2, .int (iI pl))]) hx hb dX6_unitsOf_6 rfl hl (by decide) rfl (fun ls hl => ?_)
  refine lv_iload_n hx hb dX6_unitsOf_7 rfl (lv_at hl 0 rfl) ?_
  refine mk_if_ge (tgt := 15) hx hb dX6_unitsOf_8 (by decide) (by omega) (fun c_8 => ?_) (fun c_8 => ?_)
  · skip
    omega
  · skip
    refine mk_iconst hx hb (0) dX6_unitsOf_11 ?_
    refine lv_goto (tgt := 22) hx hb dX6_unitsOf_12 (by decide) ?_
    exact mk_retI hx hb hr hlocks hW ⟨hM2, h292⟩ dX6_unitsOf_22

set_option maxHeartbeats 4000000 in
set_option maxRecDepth 100000 in
theorem c_X6_costOf (l : Launch) (cg : Nat → ClassId) (D : va_G) (ad : Nat → Nat) (st : Nat → Nat → Int) (v : Nat) (hB : BV st) (hv : v < 3) (R : Nat) (fD : Nat → Int) (hI : bRow st v R fD) (pl : Int) (hpr : -2147483648 ≤ pl ∧ pl < 2147483648) : MI l yX6_costOf wsX6_costOf ({ frames := 4, cells := 0, slots := 0, locals := 105 }) D vwCl (TY cg) 26 (celM cg) ad st [.ref (ad 0), .int (iI ((v : Nat) : Int)), .int (iI pl)] (fun z st1 => MW st st1 ∧ ((st1 0 29 = 1 ∧ ¬ (0 ≤ pl ∧ pl < (bAA st v R fD).length)) ∨ ∃ x, 0 ≤ pl ∧ (bAA st v R fD)[pl.toNat]? = some x ∧ st1 0 29 = 0 ∧ z = mco x)) := by
  refine mk_open (cc := cX6_costOf) (maxL := 4) (ret := (some .int)) (by decide) rfl (Nat.le_of_ble_eq_true rfl) ?_
  intro p e s m args below meth c hx hb hml hr hown hts hlocks hK hN hargs ls hl hW
  have hown : s.vm.findClass RX6 = some m.cls := hown
  have hl : lv_has ls 4 [(0, .ref (ad 0)), (1, .int (iI ((v : Nat) : Int))), (2, .int (iI pl))] := hl
  have inX6 : ∀ w ∈ wsX60, w ∈ wsX6_costOf := by decide +kernel
  have fl85 := hts (.fieldLink RX6 85 "GainsReckonerModel" "matchCost" "[J") (by decide +kernel)
  have hlen := bMM_len hB hv hI
  have hRN := hB.RN hv hI
  have hR60 := hRN.1
  refine lv_aload_n hx hb dX6_costOf_0 rfl (lv_at hl 0 rfl) ?_
  refine lv_iload_n hx hb dX6_costOf_1 rfl (lv_at hl 1 rfl) ?_
  refine lv_iload_n hx hb dX6_costOf_2 rfl (lv_at hl 2 rfl) ?_
  refine mk_goI (va_runV (As := [.int (iI ((v : Nat) : Int)), .int (iI pl)]) (rest := []) ⟨hx, hb, hml, hown, hts⟩ (c_X6_found l cg D ad st v hB hv R fD hI pl hpr) (cwV 2 hts gX6_costOf_X6_found rfl rfl rfl (by decide +kernel) ⟨Nat.le_of_ble_eq_true rfl, Nat.le_of_ble_eq_true rfl⟩) (mk_preV hK hN hW 0 (by decide) rfl rfl rfl) rfl rfl hl.1 rfl (lv_room (Nat.le_of_ble_eq_true rfl)) dX6_costOf_3 ⟨Nat.zero_le _, Nat.zero_le _⟩) hW (fun y st1 hp3 H locs hW => ?_)
  obtain ⟨hM2, hmk, hcs⟩ := hp3
  have hyr : -1 ≤ y ∧ y < 60 := by
    rcases hcs with ⟨h1, -⟩ | ⟨k, x, h1, hX, -⟩
    · omega
    · have := (List.getElem?_eq_some_iff.mp hX).1; omega
  refine lv_istore_n (lv' := [(3, .int (iI y)), (0, .ref (ad 0)), (1, .int (iI ((v : Nat) : Int))), (2, .int (iI pl))]) hx hb dX6_costOf_6 rfl hl (by decide) rfl (fun ls hl => ?_)
  refine lv_iload_n hx hb dX6_costOf_7 rfl (lv_at hl 0 rfl) ?_
  refine mk_if_ge (tgt := 15) hx hb dX6_costOf_8 (by decide) (by omega) (fun c_8 => ?_) (fun c_8 => ?_)
  · skip
    obtain ⟨k, x, ey, hX, hpl, hC, h290⟩ : ∃ (k : Nat) (x : MTup), y = k ∧ (bMM st v R fD)[k]? = some x ∧ 0 ≤ pl ∧ (bAA st v R fD)[pl.toNat]? = some x ∧ st1 0 29 = 0 := by
      rcases hcs with ⟨h1, -⟩ | h
      · omega
      · exact h
    have hk := (List.getElem?_eq_some_iff.mp hX).1
    have hxo := bMM_ok hB hv hI (List.mem_of_getElem? hX)
    have hxa := hmk.2.2.2 k x hX
    refine lv_aload_n hx hb dX6_costOf_15 rfl (lv_at hl 1 rfl) ?_
    refine mk_get (ci := 6) (C := RX6) (T := TX6) (N := 30) hx hb hts inX6 hown hK hW 0 (by decide) rfl rfl 27 (by decide) fl85 (fun _ h9 => h9) rfl dX6_costOf_16 ?_
    refine lv_iload_n hx hb dX6_costOf_19 rfl (lv_at hl 0 rfl) ?_
    refine mk_sayi (y := ((k : Nat) : Int)) ey ?_
    refine mk_lald hx hb hK hW 24 (by decide) rfl 2 rfl (j := k) rfl (by omega) (by decide) dX6_costOf_20 ?_
    refine mk_sayl (y := (mco x)) hxa.2.2.2.2.1 ?_
    refine mk_l2i hx hb dX6_costOf_21 ?_
    exact mk_retI hx hb hr hlocks hW ⟨hM2, Or.inr ⟨x, hpl, hC, h290, rfl⟩⟩ dX6_costOf_22
  · skip
    refine mk_iconst hx hb (0) dX6_costOf_11 ?_
    refine lv_goto (tgt := 22) hx hb dX6_costOf_12 (by decide) ?_
    exact mk_retI hx hb hr hlocks hW ⟨hM2, Or.inl (by rcases hcs with ⟨h1, h2⟩ | ⟨k, x, h1, -⟩; exact h2; omega)⟩ dX6_costOf_22

set_option maxHeartbeats 4000000 in
set_option maxRecDepth 100000 in
theorem c_X6_costOf_no (l : Launch) (cg : Nat → ClassId) (D : va_G) (ad : Nat → Nat) (st : Nat → Nat → Int) (a pl : Int) (hB : BV st) (ha : -2147483648 ≤ a ∧ a < 2147483648) (hno : ¬ (0 ≤ a ∧ a ≤ 2)) : MI l yX6_costOf wsX6_costOf ({ frames := 3, cells := 0, slots := 0, locals := 80 }) D vwCl (TY cg) 26 (celM cg) ad st [.ref (ad 0), .int (iI a), .int (iI pl)] (fun z st1 => MW st st1 ∧ st1 0 29 = 1) := by
  refine mk_open (cc := cX6_costOf) (maxL := 4) (ret := (some .int)) (by decide) rfl (Nat.le_of_ble_eq_true rfl) ?_
  intro p e s m args below meth c hx hb hml hr hown hts hlocks hK hN hargs ls hl hW
  have hown : s.vm.findClass RX6 = some m.cls := hown
  have hl : lv_has ls 4 [(0, .ref (ad 0)), (1, .int (iI a)), (2, .int (iI pl))] := hl
  refine lv_aload_n hx hb dX6_costOf_0 rfl (lv_at hl 0 rfl) ?_
  refine lv_iload_n hx hb dX6_costOf_1 rfl (lv_at hl 1 rfl) ?_
  refine lv_iload_n hx hb dX6_costOf_2 rfl (lv_at hl 2 rfl) ?_
  refine mk_goI (va_runV (As := [.int (iI a), .int (iI pl)]) (rest := []) ⟨hx, hb, hml, hown, hts⟩ (c_X6_found_no l cg D ad st a pl hB ha hno) (cwV 2 hts gX6_costOf_X6_found rfl rfl rfl (by decide +kernel) ⟨Nat.le_of_ble_eq_true rfl, Nat.le_of_ble_eq_true rfl⟩) (mk_preV hK hN hW 0 (by decide) rfl rfl rfl) rfl rfl hl.1 rfl (lv_room (Nat.le_of_ble_eq_true rfl)) dX6_costOf_3 ⟨Nat.zero_le _, Nat.zero_le _⟩) hW (fun y st1 hp3 H locs hW => ?_)
  obtain ⟨hM2, h292, ey⟩ := hp3
  refine lv_istore_n (lv' := [(3, .int (iI y)), (0, .ref (ad 0)), (1, .int (iI a)), (2, .int (iI pl))]) hx hb dX6_costOf_6 rfl hl (by decide) rfl (fun ls hl => ?_)
  refine lv_iload_n hx hb dX6_costOf_7 rfl (lv_at hl 0 rfl) ?_
  refine mk_if_ge (tgt := 15) hx hb dX6_costOf_8 (by decide) (by omega) (fun c_8 => ?_) (fun c_8 => ?_)
  · skip
    omega
  · skip
    refine mk_iconst hx hb (0) dX6_costOf_11 ?_
    refine lv_goto (tgt := 22) hx hb dX6_costOf_12 (by decide) ?_
    exact mk_retI hx hb hr hlocks hW ⟨hM2, h292⟩ dX6_costOf_22

set_option maxHeartbeats 4000000 in
set_option maxRecDepth 100000 in
theorem c_X6_proceedsOf (l : Launch) (cg : Nat → ClassId) (D : va_G) (ad : Nat → Nat) (st : Nat → Nat → Int) (v : Nat) (hB : BV st) (hv : v < 3) (R : Nat) (fD : Nat → Int) (hI : bRow st v R fD) (pl : Int) (hpr : -2147483648 ≤ pl ∧ pl < 2147483648) : MI l yX6_proceedsOf wsX6_proceedsOf ({ frames := 4, cells := 0, slots := 0, locals := 105 }) D vwCl (TY cg) 26 (celM cg) ad st [.ref (ad 0), .int (iI ((v : Nat) : Int)), .int (iI pl)] (fun z st1 => MW st st1 ∧ ((st1 0 29 = 1 ∧ ¬ (0 ≤ pl ∧ pl < (bAA st v R fD).length)) ∨ ∃ x, 0 ≤ pl ∧ (bAA st v R fD)[pl.toNat]? = some x ∧ st1 0 29 = 0 ∧ z = mpr x)) := by
  refine mk_open (cc := cX6_proceedsOf) (maxL := 4) (ret := (some .int)) (by decide) rfl (Nat.le_of_ble_eq_true rfl) ?_
  intro p e s m args below meth c hx hb hml hr hown hts hlocks hK hN hargs ls hl hW
  have hown : s.vm.findClass RX6 = some m.cls := hown
  have hl : lv_has ls 4 [(0, .ref (ad 0)), (1, .int (iI ((v : Nat) : Int))), (2, .int (iI pl))] := hl
  have inX6 : ∀ w ∈ wsX60, w ∈ wsX6_proceedsOf := by decide +kernel
  have fl88 := hts (.fieldLink RX6 88 "GainsReckonerModel" "matchProceeds" "[J") (by decide +kernel)
  have hlen := bMM_len hB hv hI
  have hRN := hB.RN hv hI
  have hR60 := hRN.1
  refine lv_aload_n hx hb dX6_proceedsOf_0 rfl (lv_at hl 0 rfl) ?_
  refine lv_iload_n hx hb dX6_proceedsOf_1 rfl (lv_at hl 1 rfl) ?_
  refine lv_iload_n hx hb dX6_proceedsOf_2 rfl (lv_at hl 2 rfl) ?_
  refine mk_goI (va_runV (As := [.int (iI ((v : Nat) : Int)), .int (iI pl)]) (rest := []) ⟨hx, hb, hml, hown, hts⟩ (c_X6_found l cg D ad st v hB hv R fD hI pl hpr) (cwV 2 hts gX6_proceedsOf_X6_found rfl rfl rfl (by decide +kernel) ⟨Nat.le_of_ble_eq_true rfl, Nat.le_of_ble_eq_true rfl⟩) (mk_preV hK hN hW 0 (by decide) rfl rfl rfl) rfl rfl hl.1 rfl (lv_room (Nat.le_of_ble_eq_true rfl)) dX6_proceedsOf_3 ⟨Nat.zero_le _, Nat.zero_le _⟩) hW (fun y st1 hp3 H locs hW => ?_)
  obtain ⟨hM2, hmk, hcs⟩ := hp3
  have hyr : -1 ≤ y ∧ y < 60 := by
    rcases hcs with ⟨h1, -⟩ | ⟨k, x, h1, hX, -⟩
    · omega
    · have := (List.getElem?_eq_some_iff.mp hX).1; omega
  refine lv_istore_n (lv' := [(3, .int (iI y)), (0, .ref (ad 0)), (1, .int (iI ((v : Nat) : Int))), (2, .int (iI pl))]) hx hb dX6_proceedsOf_6 rfl hl (by decide) rfl (fun ls hl => ?_)
  refine lv_iload_n hx hb dX6_proceedsOf_7 rfl (lv_at hl 0 rfl) ?_
  refine mk_if_ge (tgt := 15) hx hb dX6_proceedsOf_8 (by decide) (by omega) (fun c_8 => ?_) (fun c_8 => ?_)
  · skip
    obtain ⟨k, x, ey, hX, hpl, hC, h290⟩ : ∃ (k : Nat) (x : MTup), y = k ∧ (bMM st v R fD)[k]? = some x ∧ 0 ≤ pl ∧ (bAA st v R fD)[pl.toNat]? = some x ∧ st1 0 29 = 0 := by
      rcases hcs with ⟨h1, -⟩ | h
      · omega
      · exact h
    have hk := (List.getElem?_eq_some_iff.mp hX).1
    have hxo := bMM_ok hB hv hI (List.mem_of_getElem? hX)
    have hxa := hmk.2.2.2 k x hX
    refine lv_aload_n hx hb dX6_proceedsOf_15 rfl (lv_at hl 1 rfl) ?_
    refine mk_get (ci := 6) (C := RX6) (T := TX6) (N := 30) hx hb hts inX6 hown hK hW 0 (by decide) rfl rfl 28 (by decide) fl88 (fun _ h9 => h9) rfl dX6_proceedsOf_16 ?_
    refine lv_iload_n hx hb dX6_proceedsOf_19 rfl (lv_at hl 0 rfl) ?_
    refine mk_sayi (y := ((k : Nat) : Int)) ey ?_
    refine mk_lald hx hb hK hW 25 (by decide) rfl 2 rfl (j := k) rfl (by omega) (by decide) dX6_proceedsOf_20 ?_
    refine mk_sayl (y := (mpr x)) hxa.2.2.2.2.2 ?_
    refine mk_l2i hx hb dX6_proceedsOf_21 ?_
    exact mk_retI hx hb hr hlocks hW ⟨hM2, Or.inr ⟨x, hpl, hC, h290, rfl⟩⟩ dX6_proceedsOf_22
  · skip
    refine mk_iconst hx hb (0) dX6_proceedsOf_11 ?_
    refine lv_goto (tgt := 22) hx hb dX6_proceedsOf_12 (by decide) ?_
    exact mk_retI hx hb hr hlocks hW ⟨hM2, Or.inl (by rcases hcs with ⟨h1, h2⟩ | ⟨k, x, h1, -⟩; exact h2; omega)⟩ dX6_proceedsOf_22

set_option maxHeartbeats 4000000 in
set_option maxRecDepth 100000 in
theorem c_X6_proceedsOf_no (l : Launch) (cg : Nat → ClassId) (D : va_G) (ad : Nat → Nat) (st : Nat → Nat → Int) (a pl : Int) (hB : BV st) (ha : -2147483648 ≤ a ∧ a < 2147483648) (hno : ¬ (0 ≤ a ∧ a ≤ 2)) : MI l yX6_proceedsOf wsX6_proceedsOf ({ frames := 3, cells := 0, slots := 0, locals := 80 }) D vwCl (TY cg) 26 (celM cg) ad st [.ref (ad 0), .int (iI a), .int (iI pl)] (fun z st1 => MW st st1 ∧ st1 0 29 = 1) := by
  refine mk_open (cc := cX6_proceedsOf) (maxL := 4) (ret := (some .int)) (by decide) rfl (Nat.le_of_ble_eq_true rfl) ?_
  intro p e s m args below meth c hx hb hml hr hown hts hlocks hK hN hargs ls hl hW
  have hown : s.vm.findClass RX6 = some m.cls := hown
  have hl : lv_has ls 4 [(0, .ref (ad 0)), (1, .int (iI a)), (2, .int (iI pl))] := hl
  refine lv_aload_n hx hb dX6_proceedsOf_0 rfl (lv_at hl 0 rfl) ?_
  refine lv_iload_n hx hb dX6_proceedsOf_1 rfl (lv_at hl 1 rfl) ?_
  refine lv_iload_n hx hb dX6_proceedsOf_2 rfl (lv_at hl 2 rfl) ?_
  refine mk_goI (va_runV (As := [.int (iI a), .int (iI pl)]) (rest := []) ⟨hx, hb, hml, hown, hts⟩ (c_X6_found_no l cg D ad st a pl hB ha hno) (cwV 2 hts gX6_proceedsOf_X6_found rfl rfl rfl (by decide +kernel) ⟨Nat.le_of_ble_eq_true rfl, Nat.le_of_ble_eq_true rfl⟩) (mk_preV hK hN hW 0 (by decide) rfl rfl rfl) rfl rfl hl.1 rfl (lv_room (Nat.le_of_ble_eq_true rfl)) dX6_proceedsOf_3 ⟨Nat.zero_le _, Nat.zero_le _⟩) hW (fun y st1 hp3 H locs hW => ?_)
  obtain ⟨hM2, h292, ey⟩ := hp3
  refine lv_istore_n (lv' := [(3, .int (iI y)), (0, .ref (ad 0)), (1, .int (iI a)), (2, .int (iI pl))]) hx hb dX6_proceedsOf_6 rfl hl (by decide) rfl (fun ls hl => ?_)
  refine lv_iload_n hx hb dX6_proceedsOf_7 rfl (lv_at hl 0 rfl) ?_
  refine mk_if_ge (tgt := 15) hx hb dX6_proceedsOf_8 (by decide) (by omega) (fun c_8 => ?_) (fun c_8 => ?_)
  · skip
    omega
  · skip
    refine mk_iconst hx hb (0) dX6_proceedsOf_11 ?_
    refine lv_goto (tgt := 22) hx hb dX6_proceedsOf_12 (by decide) ?_
    exact mk_retI hx hb hr hlocks hW ⟨hM2, h292⟩ dX6_proceedsOf_22

set_option maxHeartbeats 4000000 in
set_option maxRecDepth 100000 in
theorem c_X6_gained (l : Launch) (cg : Nat → ClassId) (D : va_G) (ad : Nat → Nat) (st : Nat → Nat → Int) (v : Nat) (hB : BV st) (hv : v < 3) (R : Nat) (fD : Nat → Int) (hI : bRow st v R fD) (y : Int) (hy : -2147483648 ≤ y ∧ y < 2147483648) : MI l yX6_gained wsX6_gained ({ frames := 3, cells := 0, slots := 0, locals := 79 }) D vwCl (TY cg) 26 (celM cg) ad st [.ref (ad 0), .int (iI ((v : Nat) : Int)), .int (iI y)] (fun z st1 => MW st st1 ∧ st1 0 29 = st 0 29 ∧ z = lsum (gG fD y) (bMM st v R fD)) := by
  refine mk_open (cc := cX6_gained) (maxL := 6) (ret := (some .int)) (by decide) rfl (Nat.le_of_ble_eq_true rfl) ?_
  intro p e s m args below meth c hx hb hml hr hown hts hlocks hK hN hargs ls hl hW
  have hown : s.vm.findClass RX6 = some m.cls := hown
  have hl : lv_has ls 6 [(0, .ref (ad 0)), (1, .int (iI ((v : Nat) : Int))), (2, .int (iI y))] := hl
  have inX6 : ∀ w ∈ wsX60, w ∈ wsX6_gained := by decide +kernel
  have fl127 := hts (.fieldLink RX6 127 "GainsReckonerModel" "made" "I") (by decide +kernel)
  have fl45 := hts (.fieldLink RX6 45 "GainsReckonerModel" "date" "[I") (by decide +kernel)
  have fl73 := hts (.fieldLink RX6 73 "GainsReckonerModel" "by" "[I") (by decide +kernel)
  have fl88 := hts (.fieldLink RX6 88 "GainsReckonerModel" "matchProceeds" "[J") (by decide +kernel)
  have fl85 := hts (.fieldLink RX6 85 "GainsReckonerModel" "matchCost" "[J") (by decide +kernel)
  have hM1 : MW st st := MW.rf
  have hB1 := hB
  refine lv_aload_n hx hb dX6_gained_0 rfl (lv_at hl 0 rfl) ?_
  refine lv_iload_n hx hb dX6_gained_1 rfl (lv_at hl 1 rfl) ?_
  refine mk_goV (va_runV (As := [.int (iI ((v : Nat) : Int))]) (rest := []) ⟨hx, hb, hml, hown, hts⟩ (c_X6_reckons l cg D ad st v (bN st) (bM st v) hv hB1.1 hB1.2.1 (hB1.2.2.1 v hv).1 (hB1.2.2.1 v hv).2 R fD (hM1.row hI) (st 0 11) rfl hB1.2.2.2.1 (hB1.2.2.2.2.1 v hv)) (cwV 1 hts gX6_gained_X6_reckons rfl rfl rfl (by decide +kernel) ⟨Nat.le_of_ble_eq_true rfl, Nat.le_of_ble_eq_true rfl⟩) (mk_preV hK hN hW 0 (by decide) rfl rfl rfl) rfl rfl hl.1 rfl (lv_room (Nat.le_of_ble_eq_true rfl)) dX6_gained_2 ⟨Nat.zero_le _, Nat.zero_le _⟩) hW (fun st1 hp2 H locs hW => ?_)
  obtain ⟨hf2, ⟨hq0, hq1, hq2⟩, hmk⟩ := hp2
  have hmk : MOK R fD (bQ st v fD) (bC st v fD) (bS st v fD) (bP st v fD) (st 0 11) st1 := hmk
  have hM12 : MW st st1 := MW.of hf2 (by decide) hq0 hq1
  have hM2 : MW st st1 := hM1.tr hM12
  have hB2 : BV st1 := hB.mw hM2
  have hRN := hB.RN hv hI
  have hR60 := hRN.1
  rw [hM1.Q, hM1.C, hM1.S, hM1.P, hM1.2.2] at hmk
  have hAM : AM st1 (bMM st v R fD) := hmk.2.2
  have hlen := bMM_len hB hv hI
  have h292 : st1 0 29 = st 0 29 := hq2
  refine mk_lconst hx hb (0) rfl dX6_gained_5 ?_
  refine lv_lstore_n (lv' := [(3, .long (lI 0)), (0, .ref (ad 0)), (1, .int (iI ((v : Nat) : Int))), (2, .int (iI y))]) hx hb dX6_gained_6 rfl hl (by decide) rfl (fun ls hl => ?_)
  refine mk_iconst hx hb (0) dX6_gained_7 ?_
  refine lv_istore (lv' := [(5, .int (iI 0)), (3, .long (lI 0)), (0, .ref (ad 0)), (1, .int (iI ((v : Nat) : Int))), (2, .int (iI y))]) hx hb dX6_gained_8 hl (by decide) rfl (fun ls hl => ?_)
  have loop10 : ∀ (fuel : Nat) (k : Nat) (acc : Int), (k ≤ (bMM st v R fD).length) → (acc = lsum (gG fD y) ((bMM st v R fD).take k)) → (bMM st v R fD).length - k < fuel → ∀ (H : Heap) (locs : List Loc) (ls : Array Slot), GW D vwCl 26 (celM cg) ad (wA 26 ad) s.heap st1 H locs → lv_has ls 6 [(0, .ref (ad 0)), (2, .int (iI y)), (3, .long (lI acc)), (5, .int (iI ((k : Nat) : Int)))] → W p l e (headSpec wsX6_gained ({ frames := 3, cells := 0, slots := 0, locals := 79 })).room s m args below meth c H locs 0 0 (MQ below (va_Qi (fun (r : Int32) (u : Nat → Nat → Int) => ∃ z : Int, r = iI z ∧ (fun z st1 => MW st st1 ∧ st1 0 29 = st 0 29 ∧ z = lsum (gG fD y) (bMM st v R fD)) z u) (mB D vwCl 26 (celM cg) ad) (wA 26 ad)) args s 0 0 (wA 26 ad)) (F0 m 10 ls []) := by
    intro fuel
    induction fuel with
    | zero => intro k acc hk hacc hmu; omega
    | succ fuel ih10 =>
      intro k acc hk hacc hmu H locs ls hW hl
      refine lv_iload hx hb dX6_gained_10 (lv_at hl 3 rfl) ?_
      refine lv_aload_n hx hb dX6_gained_12 rfl (lv_at hl 0 rfl) ?_
      refine mk_get (ci := 6) (C := RX6) (T := TX6) (N := 30) hx hb hts inX6 hown hK hW 0 (by decide) rfl rfl 22 (by decide) fl127 (fun _ h9 => h9) rfl dX6_gained_13 ?_
      refine mk_sayi (y := (((bMM st v R fD).length : Nat) : Int)) hAM.1 ?_
      refine mk_icmp_ge (tgt := 67) hx hb dX6_gained_16 (by decide) (by omega) (by omega) (fun c_16 => ?_) (fun c_16 => ?_)
      · skip
        refine lv_lload_n hx hb dX6_gained_67 rfl (lv_at hl 2 rfl) ?_
        refine mk_l2i hx hb dX6_gained_68 ?_
        exact mk_retI hx hb hr hlocks hW ⟨hM2, h292, by rw [hacc, List.take_of_length_le (by omega)]⟩ dX6_gained_69
      · skip
        refine lv_lload_n hx hb dX6_gained_19 rfl (lv_at hl 2 rfl) ?_
        refine lv_aload_n hx hb dX6_gained_20 rfl (lv_at hl 0 rfl) ?_
        refine mk_get (ci := 6) (C := RX6) (T := TX6) (N := 30) hx hb hts inX6 hown hK hW 0 (by decide) rfl rfl 13 (by decide) fl45 (fun _ h9 => h9) rfl dX6_gained_21 ?_
        refine lv_aload_n hx hb dX6_gained_24 rfl (lv_at hl 0 rfl) ?_
        refine mk_get (ci := 6) (C := RX6) (T := TX6) (N := 30) hx hb hts inX6 hown hK hW 0 (by decide) rfl rfl 23 (by decide) fl73 (fun _ h9 => h9) rfl dX6_gained_25 ?_
        refine lv_iload hx hb dX6_gained_28 (lv_at hl 3 rfl) ?_
        refine mk_iald hx hb hK hW 20 (by decide) rfl 0 rfl (j := k) rfl (by omega) (by decide) dX6_gained_30 ?_
        obtain ⟨x, hX⟩ : ∃ x, (bMM st v R fD)[k]? = some x := ⟨_, List.getElem?_eq_getElem (by omega)⟩
        have hx1 := (bMM_ok hB hv hI (List.mem_of_getElem? hX)).1
        refine mk_sayi (y := ((x.1 : Nat) : Int)) (hAM.2 k x hX).1 ?_
        refine mk_iald hx hb hK hW 11 (by decide) rfl 0 rfl (j := x.1) rfl (by omega) (by decide) dX6_gained_31 ?_
        have hD9 := hRN.2.2.1 x.1 hx1
        refine mk_sayi (y := (fD x.1)) (hmk.2.1 x.1 hx1).1 ?_
        refine mk_sipush hx hb (365) (by decide +kernel) dX6_gained_32 ?_
        refine mk_idiv hx hb dX6_gained_35 (by omega) (by omega) ?_
        refine lv_iload_n hx hb dX6_gained_36 rfl (lv_at hl 1 rfl) ?_
        refine mk_icmp_ne (tgt := 58) hx hb dX6_gained_37 (by decide) (by omega) (by omega) (fun c_37 => ?_) (fun c_37 => ?_)
        · skip
          refine mk_lconst hx hb (0) rfl dX6_gained_58 ?_
          refine mk_ladd hx hb dX6_gained_59 ?_
          refine lv_lstore_n (lv' := [(3, .long (lI (acc + 0))), (0, .ref (ad 0)), (2, .int (iI y)), (5, .int (iI ((k : Nat) : Int)))]) hx hb dX6_gained_60 rfl hl (by decide) rfl (fun ls hl => ?_)
          refine mk_iinc (w := ((k + 1 : Nat) : Int)) (lv' := [(5, .int (iI ((k + 1 : Nat) : Int))), (3, .long (lI (acc + 0))), (0, .ref (ad 0)), (2, .int (iI y))]) hx hb dX6_gained_61 hl (k := 3) rfl (by omega) (by decide) rfl (fun ls hl => ?_)
          refine lv_goto (tgt := 10) hx hb dX6_gained_64 (by decide) ?_
          exact ih10 (k + 1) (acc + 0) (by omega) (by rw [hacc, lsum_take hX, gG, if_neg c_37]) (by omega) _ _ _ hW (lv_sub hl [2, 3, 1, 0] rfl)
        · skip
          refine lv_aload_n hx hb dX6_gained_40 rfl (lv_at hl 0 rfl) ?_
          refine mk_get (ci := 6) (C := RX6) (T := TX6) (N := 30) hx hb hts inX6 hown hK hW 0 (by decide) rfl rfl 28 (by decide) fl88 (fun _ h9 => h9) rfl dX6_gained_41 ?_
          refine lv_iload hx hb dX6_gained_44 (lv_at hl 3 rfl) ?_
          refine mk_lald hx hb hK hW 25 (by decide) rfl 2 rfl (j := k) rfl (by omega) (by decide) dX6_gained_46 ?_
          refine mk_sayl (y := (mpr x)) (hAM.2 k x hX).2.2.2.2.2 ?_
          refine lv_aload_n hx hb dX6_gained_47 rfl (lv_at hl 0 rfl) ?_
          refine mk_get (ci := 6) (C := RX6) (T := TX6) (N := 30) hx hb hts inX6 hown hK hW 0 (by decide) rfl rfl 27 (by decide) fl85 (fun _ h9 => h9) rfl dX6_gained_48 ?_
          refine lv_iload hx hb dX6_gained_51 (lv_at hl 3 rfl) ?_
          refine mk_lald hx hb hK hW 24 (by decide) rfl 2 rfl (j := k) rfl (by omega) (by decide) dX6_gained_53 ?_
          refine mk_sayl (y := (mco x)) (hAM.2 k x hX).2.2.2.2.1 ?_
          refine mk_lsub hx hb dX6_gained_54 ?_
          refine lv_goto (tgt := 59) hx hb dX6_gained_55 (by decide) ?_
          refine mk_ladd hx hb dX6_gained_59 ?_
          refine lv_lstore_n (lv' := [(3, .long (lI (acc + ((mpr x) - (mco x))))), (0, .ref (ad 0)), (2, .int (iI y)), (5, .int (iI ((k : Nat) : Int)))]) hx hb dX6_gained_60 rfl hl (by decide) rfl (fun ls hl => ?_)
          refine mk_iinc (w := ((k + 1 : Nat) : Int)) (lv' := [(5, .int (iI ((k + 1 : Nat) : Int))), (3, .long (lI (acc + ((mpr x) - (mco x))))), (0, .ref (ad 0)), (2, .int (iI y))]) hx hb dX6_gained_61 hl (k := 3) rfl (by omega) (by decide) rfl (fun ls hl => ?_)
          refine lv_goto (tgt := 10) hx hb dX6_gained_64 (by decide) ?_
          exact ih10 (k + 1) (acc + ((mpr x) - (mco x))) (by omega) (by rw [hacc, lsum_take hX, gG, if_pos (by omega)]) (by omega) _ _ _ hW (lv_sub hl [2, 3, 1, 0] rfl)
  exact loop10 _ 0 0 (Nat.zero_le _) rfl (Nat.lt_succ_self _) _ _ _ hW (lv_sub hl [2, 4, 1, 0] rfl)

