set_option maxHeartbeats 4000000 in
set_option maxRecDepth 100000 in
theorem c_X4_enter (l : Launch) (cg : Nat → ClassId) (D : va_G) (ad : Nat → Nat) (st : Nat → Nat → Int) (d f : Int) (mm : Nat) (hm : st 1 2 = mm) (h44 : mm < 4) : MV l yX4_enter wsX4_enter ({ frames := 1, cells := 0, slots := 0, locals := 20 }) D vwCl (TY cg) 28 (celL cg) ad st [.ref (ad 1), .int (iI d), .int (iI f)] (fun st1 => st1 = stC (stC (stC st 2 (fnU (st 2) mm d)) 3 (fnU (st 3) mm f)) 1 (fnU (st 1) 2 ((mm : Int) + 1))) := by
  refine mk_open (cc := cX4_enter) (maxL := 3) (ret := none) (by decide) rfl (Nat.le_of_ble_eq_true rfl) ?_
  intro p e s m args below meth c hx hb hml hr hown hts hlocks hK hN hargs ls hl hW
  have hown : s.vm.findClass RX4 = some m.cls := hown
  have hl : lv_has ls 3 [(0, .ref (ad 1)), (1, .int (iI d)), (2, .int (iI f))] := hl
  have inX4 : ∀ w ∈ wsX40, w ∈ wsX4_enter := by decide +kernel
  have fl9 := hts (.fieldLink RX4 9 "GainsReckoner$Splits" "day" "[I") (by decide +kernel)
  have fl18 := hts (.fieldLink RX4 18 "GainsReckoner$Splits" "size" "I") (by decide +kernel)
  have fl15 := hts (.fieldLink RX4 15 "GainsReckoner$Splits" "factor" "[I") (by decide +kernel)
  refine lv_aload_n hx hb dX4_enter_0 rfl (lv_at hl 0 rfl) ?_
  refine mk_goI (va_runV (As := []) (rest := []) ⟨hx, hb, hml, hown, hts⟩ (c_X4_isFull l cg D ad st mm hm (by omega)) (cwV 0 hts gX4_enter_X4_isFull rfl rfl rfl (by decide +kernel) ⟨Nat.le_of_ble_eq_true rfl, Nat.le_of_ble_eq_true rfl⟩) (mk_preV hK hN hW 1 (by decide) rfl rfl rfl) rfl rfl hl.1 rfl (lv_room (Nat.le_of_ble_eq_true rfl)) dX4_enter_1 ⟨Nat.zero_le _, Nat.zero_le _⟩) hW (fun r2 st1 hp1 H locs hW => ?_)
  obtain ⟨est1, hp1⟩ := hp1
  rw [est1] at hW
  refine mk_if_eq (tgt := 8) hx hb dX4_enter_4 (by decide) (by omega) (fun c_4 => ?_) (fun c_4 => ?_)
  · skip
    refine lv_aload_n hx hb dX4_enter_8 rfl (lv_at hl 0 rfl) ?_
    refine mk_get (ci := 4) (C := RX4) (T := TX4) (N := 3) hx hb hts inX4 hown hK hW 1 (by decide) rfl rfl 0 (by decide) fl9 (fun _ h9 => h9) rfl dX4_enter_9 ?_
    refine lv_aload_n hx hb dX4_enter_12 rfl (lv_at hl 0 rfl) ?_
    refine mk_get (ci := 4) (C := RX4) (T := TX4) (N := 3) hx hb hts inX4 hown hK hW 1 (by decide) rfl rfl 2 (by decide) fl18 (fun _ h9 => h9) rfl dX4_enter_13 ?_
    refine mk_sayi (y := ((mm : Nat) : Int)) hm ?_
    refine lv_iload_n hx hb dX4_enter_16 rfl (lv_at hl 1 rfl) ?_
    refine mk_iast hx hb hK hW 2 (by decide) (fun _ => rfl) 0 rfl (j := mm) rfl (by omega) (by decide) dX4_enter_17 (fun H locs hW => ?_)
    obtain ⟨st3, est3⟩ : ∃ z, z = stC st 2 (fnU (st 2) mm d) := ⟨_, rfl⟩
    rw [← est3] at hW
    refine lv_aload_n hx hb dX4_enter_18 rfl (lv_at hl 0 rfl) ?_
    refine mk_get (ci := 4) (C := RX4) (T := TX4) (N := 3) hx hb hts inX4 hown hK hW 1 (by decide) rfl rfl 1 (by decide) fl15 (fun _ h9 => h9) rfl dX4_enter_19 ?_
    refine lv_aload_n hx hb dX4_enter_22 rfl (lv_at hl 0 rfl) ?_
    refine mk_get (ci := 4) (C := RX4) (T := TX4) (N := 3) hx hb hts inX4 hown hK hW 1 (by decide) rfl rfl 2 (by decide) fl18 (fun _ h9 => h9) rfl dX4_enter_23 ?_
    refine mk_sayi (y := (st 1 2)) (by rw [show st3 1 = st 1 from by rw [est3]; exact stC_ne (by decide)]) ?_
    refine mk_sayi (y := ((mm : Nat) : Int)) hm ?_
    refine lv_iload_n hx hb dX4_enter_26 rfl (lv_at hl 2 rfl) ?_
    refine mk_iast hx hb hK hW 3 (by decide) (fun _ => rfl) 0 rfl (j := mm) rfl (by omega) (by decide) dX4_enter_27 (fun H locs hW => ?_)
    obtain ⟨st4, est4⟩ : ∃ z, z = stC st3 3 (fnU (st3 3) mm f) := ⟨_, rfl⟩
    rw [← est4] at hW
    refine lv_aload_n hx hb dX4_enter_28 rfl (lv_at hl 0 rfl) ?_
    refine lv_dup hx hb dX4_enter_29 rfl ?_
    refine mk_get (ci := 4) (C := RX4) (T := TX4) (N := 3) hx hb hts inX4 hown hK hW 1 (by decide) rfl rfl 2 (by decide) fl18 (fun _ h9 => h9) rfl dX4_enter_30 ?_
    refine mk_sayi (y := (st 1 2)) (by rw [show st4 1 = st3 1 from by rw [est4]; exact stC_ne (by decide), show st3 1 = st 1 from by rw [est3]; exact stC_ne (by decide)]) ?_
    refine mk_sayi (y := ((mm : Nat) : Int)) hm ?_
    refine mk_iconst hx hb (1) dX4_enter_33 ?_
    refine mk_iadd hx hb dX4_enter_34 ?_
    refine mk_put (ci := 4) (C := RX4) (T := TX4) (N := 3) hx hb hts inX4 tyX4 tyX4_ok nmX4 hown hK hW 1 (by decide) rfl rfl 2 (by decide) fl18 (fun _ h9 => h9) rfl (by decide +kernel) (Nat.le_of_ble_eq_true rfl) rfl dX4_enter_35 (fun H locs hW => ?_)
    obtain ⟨st5, est5⟩ : ∃ z, z = stC st4 1 (fnU (st4 1) 2 (((mm : Nat) : Int) + 1)) := ⟨_, rfl⟩
    rw [← est5] at hW
    exact mk_retV hx hb hr hlocks hW (by subst est3; subst est4; subst est5; rfl) dX4_enter_38
  · skip
    exact absurd c_4 (by omega)

set_option maxHeartbeats 4000000 in
set_option maxRecDepth 100000 in
theorem c_X2_add (l : Launch) (cg : Nat → ClassId) (D : va_G) (ad : Nat → Nat) (st : Nat → Nat → Int) (k so bo u c9 p9 : Int) (M : Nat) (hM : st 14 6 = M) (hM6 : M < 60) : MV l yX2_add wsX2_add ({ frames := 0, cells := 0, slots := 0, locals := 0 }) D vwCl (TY cg) 28 (celL cg) ad st [.ref (ad 14), .int (iI k), .int (iI so), .int (iI bo), .int (iI u), .int (iI c9), .int (iI p9)] (fun st1 => st1 = addM st M k so bo u c9 p9) := by
  refine mk_open (cc := cX2_add) (maxL := 7) (ret := none) (by decide) rfl (Nat.le_of_ble_eq_true rfl) ?_
  intro p e s m args below meth c hx hb hml hr hown hts hlocks hK hN hargs ls hl hW
  have hown : s.vm.findClass RX2 = some m.cls := hown
  have hl : lv_has ls 7 [(0, .ref (ad 14)), (1, .int (iI k)), (2, .int (iI so)), (3, .int (iI bo)), (4, .int (iI u)), (5, .int (iI c9)), (6, .int (iI p9))] := hl
  have inX2 : ∀ w ∈ wsX20, w ∈ wsX2_add := by decide +kernel
  have fl30 := hts (.fieldLink RX2 30 "GainsReckoner$Matches" "size" "I") (by decide +kernel)
  have fl9 := hts (.fieldLink RX2 9 "GainsReckoner$Matches" "kind" "[I") (by decide +kernel)
  have fl15 := hts (.fieldLink RX2 15 "GainsReckoner$Matches" "soldOn" "[I") (by decide +kernel)
  have fl18 := hts (.fieldLink RX2 18 "GainsReckoner$Matches" "boughtOn" "[I") (by decide +kernel)
  have fl21 := hts (.fieldLink RX2 21 "GainsReckoner$Matches" "units" "[I") (by decide +kernel)
  have fl24 := hts (.fieldLink RX2 24 "GainsReckoner$Matches" "cost" "[I") (by decide +kernel)
  have fl27 := hts (.fieldLink RX2 27 "GainsReckoner$Matches" "proceeds" "[I") (by decide +kernel)
  refine lv_aload_n hx hb dX2_add_0 rfl (lv_at hl 0 rfl) ?_
  refine mk_get (ci := 2) (C := RX2) (T := TX2) (N := 7) hx hb hts inX2 hown hK hW 14 (by decide) rfl rfl 6 (by decide) fl30 (fun _ h9 => h9) rfl dX2_add_1 ?_
  refine mk_sayi (y := ((M : Nat) : Int)) hM ?_
  refine mk_bipush hx hb (60) (by decide +kernel) dX2_add_4 ?_
  refine mk_icmp_lt (tgt := 10) hx hb dX2_add_6 (by decide) (by omega) (by omega) (fun c_6 => ?_) (fun c_6 => ?_)
  · skip
    refine lv_aload_n hx hb dX2_add_10 rfl (lv_at hl 0 rfl) ?_
    refine mk_get (ci := 2) (C := RX2) (T := TX2) (N := 7) hx hb hts inX2 hown hK hW 14 (by decide) rfl rfl 0 (by decide) fl9 (fun _ h9 => h9) rfl dX2_add_11 ?_
    refine lv_aload_n hx hb dX2_add_14 rfl (lv_at hl 0 rfl) ?_
    refine mk_get (ci := 2) (C := RX2) (T := TX2) (N := 7) hx hb hts inX2 hown hK hW 14 (by decide) rfl rfl 6 (by decide) fl30 (fun _ h9 => h9) rfl dX2_add_15 ?_
    refine mk_sayi (y := ((M : Nat) : Int)) hM ?_
    refine lv_iload_n hx hb dX2_add_18 rfl (lv_at hl 1 rfl) ?_
    refine mk_iast hx hb hK hW 15 (by decide) (fun _ => rfl) 0 rfl (j := M) rfl (by omega) (by decide) dX2_add_19 (fun H locs hW => ?_)
    obtain ⟨st1, est1⟩ : ∃ z, z = stC st 15 (fnU (st 15) M k) := ⟨_, rfl⟩
    rw [← est1] at hW
    refine lv_aload_n hx hb dX2_add_20 rfl (lv_at hl 0 rfl) ?_
    refine mk_get (ci := 2) (C := RX2) (T := TX2) (N := 7) hx hb hts inX2 hown hK hW 14 (by decide) rfl rfl 1 (by decide) fl15 (fun _ h9 => h9) rfl dX2_add_21 ?_
    refine lv_aload_n hx hb dX2_add_24 rfl (lv_at hl 0 rfl) ?_
    refine mk_get (ci := 2) (C := RX2) (T := TX2) (N := 7) hx hb hts inX2 hown hK hW 14 (by decide) rfl rfl 6 (by decide) fl30 (fun _ h9 => h9) rfl dX2_add_25 ?_
    refine mk_sayi (y := (st 14 6)) (by rw [show st1 14 = st 14 from by rw [est1]; exact stC_ne (by decide)]) ?_
    refine mk_sayi (y := ((M : Nat) : Int)) hM ?_
    refine lv_iload_n hx hb dX2_add_28 rfl (lv_at hl 2 rfl) ?_
    refine mk_iast hx hb hK hW 16 (by decide) (fun _ => rfl) 0 rfl (j := M) rfl (by omega) (by decide) dX2_add_29 (fun H locs hW => ?_)
    obtain ⟨st2, est2⟩ : ∃ z, z = stC st1 16 (fnU (st1 16) M so) := ⟨_, rfl⟩
    rw [← est2] at hW
    refine lv_aload_n hx hb dX2_add_30 rfl (lv_at hl 0 rfl) ?_
    refine mk_get (ci := 2) (C := RX2) (T := TX2) (N := 7) hx hb hts inX2 hown hK hW 14 (by decide) rfl rfl 2 (by decide) fl18 (fun _ h9 => h9) rfl dX2_add_31 ?_
    refine lv_aload_n hx hb dX2_add_34 rfl (lv_at hl 0 rfl) ?_
    refine mk_get (ci := 2) (C := RX2) (T := TX2) (N := 7) hx hb hts inX2 hown hK hW 14 (by decide) rfl rfl 6 (by decide) fl30 (fun _ h9 => h9) rfl dX2_add_35 ?_
    refine mk_sayi (y := (st 14 6)) (by rw [show st2 14 = st1 14 from by rw [est2]; exact stC_ne (by decide), show st1 14 = st 14 from by rw [est1]; exact stC_ne (by decide)]) ?_
    refine mk_sayi (y := ((M : Nat) : Int)) hM ?_
    refine lv_iload_n hx hb dX2_add_38 rfl (lv_at hl 3 rfl) ?_
    refine mk_iast hx hb hK hW 17 (by decide) (fun _ => rfl) 0 rfl (j := M) rfl (by omega) (by decide) dX2_add_39 (fun H locs hW => ?_)
    obtain ⟨st3, est3⟩ : ∃ z, z = stC st2 17 (fnU (st2 17) M bo) := ⟨_, rfl⟩
    rw [← est3] at hW
    refine lv_aload_n hx hb dX2_add_40 rfl (lv_at hl 0 rfl) ?_
    refine mk_get (ci := 2) (C := RX2) (T := TX2) (N := 7) hx hb hts inX2 hown hK hW 14 (by decide) rfl rfl 3 (by decide) fl21 (fun _ h9 => h9) rfl dX2_add_41 ?_
    refine lv_aload_n hx hb dX2_add_44 rfl (lv_at hl 0 rfl) ?_
    refine mk_get (ci := 2) (C := RX2) (T := TX2) (N := 7) hx hb hts inX2 hown hK hW 14 (by decide) rfl rfl 6 (by decide) fl30 (fun _ h9 => h9) rfl dX2_add_45 ?_
    refine mk_sayi (y := (st 14 6)) (by rw [show st3 14 = st2 14 from by rw [est3]; exact stC_ne (by decide), show st2 14 = st1 14 from by rw [est2]; exact stC_ne (by decide), show st1 14 = st 14 from by rw [est1]; exact stC_ne (by decide)]) ?_
    refine mk_sayi (y := ((M : Nat) : Int)) hM ?_
    refine lv_iload hx hb dX2_add_48 (lv_at hl 4 rfl) ?_
    refine mk_iast hx hb hK hW 18 (by decide) (fun _ => rfl) 0 rfl (j := M) rfl (by omega) (by decide) dX2_add_50 (fun H locs hW => ?_)
    obtain ⟨st4, est4⟩ : ∃ z, z = stC st3 18 (fnU (st3 18) M u) := ⟨_, rfl⟩
    rw [← est4] at hW
    refine lv_aload_n hx hb dX2_add_51 rfl (lv_at hl 0 rfl) ?_
    refine mk_get (ci := 2) (C := RX2) (T := TX2) (N := 7) hx hb hts inX2 hown hK hW 14 (by decide) rfl rfl 4 (by decide) fl24 (fun _ h9 => h9) rfl dX2_add_52 ?_
    refine lv_aload_n hx hb dX2_add_55 rfl (lv_at hl 0 rfl) ?_
    refine mk_get (ci := 2) (C := RX2) (T := TX2) (N := 7) hx hb hts inX2 hown hK hW 14 (by decide) rfl rfl 6 (by decide) fl30 (fun _ h9 => h9) rfl dX2_add_56 ?_
    refine mk_sayi (y := (st 14 6)) (by rw [show st4 14 = st3 14 from by rw [est4]; exact stC_ne (by decide), show st3 14 = st2 14 from by rw [est3]; exact stC_ne (by decide), show st2 14 = st1 14 from by rw [est2]; exact stC_ne (by decide), show st1 14 = st 14 from by rw [est1]; exact stC_ne (by decide)]) ?_
    refine mk_sayi (y := ((M : Nat) : Int)) hM ?_
    refine lv_iload hx hb dX2_add_59 (lv_at hl 5 rfl) ?_
    refine mk_iast hx hb hK hW 19 (by decide) (fun _ => rfl) 0 rfl (j := M) rfl (by omega) (by decide) dX2_add_61 (fun H locs hW => ?_)
    obtain ⟨st5, est5⟩ : ∃ z, z = stC st4 19 (fnU (st4 19) M c9) := ⟨_, rfl⟩
    rw [← est5] at hW
    refine lv_aload_n hx hb dX2_add_62 rfl (lv_at hl 0 rfl) ?_
    refine mk_get (ci := 2) (C := RX2) (T := TX2) (N := 7) hx hb hts inX2 hown hK hW 14 (by decide) rfl rfl 5 (by decide) fl27 (fun _ h9 => h9) rfl dX2_add_63 ?_
    refine lv_aload_n hx hb dX2_add_66 rfl (lv_at hl 0 rfl) ?_
    refine mk_get (ci := 2) (C := RX2) (T := TX2) (N := 7) hx hb hts inX2 hown hK hW 14 (by decide) rfl rfl 6 (by decide) fl30 (fun _ h9 => h9) rfl dX2_add_67 ?_
    refine mk_sayi (y := (st 14 6)) (by rw [show st5 14 = st4 14 from by rw [est5]; exact stC_ne (by decide), show st4 14 = st3 14 from by rw [est4]; exact stC_ne (by decide), show st3 14 = st2 14 from by rw [est3]; exact stC_ne (by decide), show st2 14 = st1 14 from by rw [est2]; exact stC_ne (by decide), show st1 14 = st 14 from by rw [est1]; exact stC_ne (by decide)]) ?_
    refine mk_sayi (y := ((M : Nat) : Int)) hM ?_
    refine lv_iload hx hb dX2_add_70 (lv_at hl 6 rfl) ?_
    refine mk_iast hx hb hK hW 20 (by decide) (fun _ => rfl) 0 rfl (j := M) rfl (by omega) (by decide) dX2_add_72 (fun H locs hW => ?_)
    obtain ⟨st6, est6⟩ : ∃ z, z = stC st5 20 (fnU (st5 20) M p9) := ⟨_, rfl⟩
    rw [← est6] at hW
    refine lv_aload_n hx hb dX2_add_73 rfl (lv_at hl 0 rfl) ?_
    refine lv_dup hx hb dX2_add_74 rfl ?_
    refine mk_get (ci := 2) (C := RX2) (T := TX2) (N := 7) hx hb hts inX2 hown hK hW 14 (by decide) rfl rfl 6 (by decide) fl30 (fun _ h9 => h9) rfl dX2_add_75 ?_
    refine mk_sayi (y := (st 14 6)) (by rw [show st6 14 = st5 14 from by rw [est6]; exact stC_ne (by decide), show st5 14 = st4 14 from by rw [est5]; exact stC_ne (by decide), show st4 14 = st3 14 from by rw [est4]; exact stC_ne (by decide), show st3 14 = st2 14 from by rw [est3]; exact stC_ne (by decide), show st2 14 = st1 14 from by rw [est2]; exact stC_ne (by decide), show st1 14 = st 14 from by rw [est1]; exact stC_ne (by decide)]) ?_
    refine mk_sayi (y := ((M : Nat) : Int)) hM ?_
    refine mk_iconst hx hb (1) dX2_add_78 ?_
    refine mk_iadd hx hb dX2_add_79 ?_
    refine mk_put (ci := 2) (C := RX2) (T := TX2) (N := 7) hx hb hts inX2 tyX2 tyX2_ok nmX2 hown hK hW 14 (by decide) rfl rfl 6 (by decide) fl30 (fun _ h9 => h9) rfl (by decide +kernel) (Nat.le_of_ble_eq_true rfl) rfl dX2_add_80 (fun H locs hW => ?_)
    obtain ⟨st7, est7⟩ : ∃ z, z = stC st6 14 (fnU (st6 14) 6 (((M : Nat) : Int) + 1)) := ⟨_, rfl⟩
    rw [← est7] at hW
    exact mk_retV hx hb hr hlocks hW (by subst est1; subst est2; subst est3; subst est4; subst est5; subst est6; subst est7; rfl) dX2_add_83
  · skip
    exact absurd c_6 (by omega)

set_option maxHeartbeats 4000000 in
set_option maxRecDepth 100000 in
theorem c_X3_setSameDaysAside (l : Launch) (cg : Nat → ClassId) (D : va_G) (ad : Nat → Nat) (st : Nat → Nat → Int) (R : Nat) (hR : st 4 9 = R) (hR6 : R ≤ 60) (hbs : ∀ r, r < R → (-2147483648 ≤ st 6 r ∧ st 6 r < 2147483648) ∧ -2147483648 ≤ st 9 r ∧ st 9 r < 2147483648) : MV l yX3_setSameDaysAside wsX3_setSameDaysAside ({ frames := 1, cells := 0, slots := 0, locals := 20 }) D vwCl (TY cg) 28 (celL cg) ad st [.ref (ad 4)] (fun st1 => Fr [7, 10] st st1 ∧ ∀ r, r < R → st1 7 r = min (st 6 r) (st 9 r) ∧ st1 10 r = min (st 6 r) (st 9 r)) := by
  refine mk_open (cc := cX3_setSameDaysAside) (maxL := 3) (ret := none) (by decide) rfl (Nat.le_of_ble_eq_true rfl) ?_
  intro p e s m args below meth c hx hb hml hr hown hts hlocks hK hN hargs ls hl hW
  have hown : s.vm.findClass RX3 = some m.cls := hown
  have hl : lv_has ls 3 [(0, .ref (ad 4))] := hl
  have inX3 : ∀ w ∈ wsX30, w ∈ wsX3_setSameDaysAside := by decide +kernel
  have fl39 := hts (.fieldLink RX3 39 "GainsReckoner$Sheet" "size" "I") (by decide +kernel)
  have fl15 := hts (.fieldLink RX3 15 "GainsReckoner$Sheet" "bought" "[I") (by decide +kernel)
  have fl24 := hts (.fieldLink RX3 24 "GainsReckoner$Sheet" "sold" "[I") (by decide +kernel)
  have mlmin := hts (.methodLink RX3 86 Lib.Math.min.name) (by decide +kernel)
  have msmin := hts (.static Lib.Math.min.name) (by decide +kernel)
  have mimin := hts (.initialized "java/lang/Math") (by decide +kernel)
  have mcmin := hts (.code Lib.Math.min.name Lib.Math.min.code 2 (some .int)) (by decide +kernel)
  have fl18 := hts (.fieldLink RX3 18 "GainsReckoner$Sheet" "boughtGone" "[I") (by decide +kernel)
  have fl27 := hts (.fieldLink RX3 27 "GainsReckoner$Sheet" "soldGone" "[I") (by decide +kernel)
  refine mk_iconst hx hb (0) dX3_setSameDaysAside_0 ?_
  refine lv_istore_n (lv' := [(1, .int (iI 0)), (0, .ref (ad 4))]) hx hb dX3_setSameDaysAside_1 rfl hl (by decide) rfl (fun ls hl => ?_)
  have loop2 : ∀ (fuel : Nat) (q : Nat → Nat → Int) (r : Nat), (r ≤ R) → (Fr [7, 10] st q) → (∀ i, i < r → q 7 i = min (st 6 i) (st 9 i) ∧ q 10 i = min (st 6 i) (st 9 i)) → R - r < fuel → ∀ (H : Heap) (locs : List Loc) (ls : Array Slot), GW D vwCl 28 (celL cg) ad (wA 28 ad) s.heap q H locs → lv_has ls 3 [(0, .ref (ad 4)), (1, .int (iI ((r : Nat) : Int)))] → W p l e (headSpec wsX3_setSameDaysAside ({ frames := 1, cells := 0, slots := 0, locals := 20 })).room s m args below meth c H locs 0 0 (MQ below (va_Qv (fun st1 => Fr [7, 10] st st1 ∧ ∀ r, r < R → st1 7 r = min (st 6 r) (st 9 r) ∧ st1 10 r = min (st 6 r) (st 9 r)) (mB D vwCl 28 (celL cg) ad) (wA 28 ad)) args s 0 0 (wA 28 ad)) (F0 m 2 ls []) := by
    intro fuel
    induction fuel with
    | zero => intro q r hr6 hf hv hmu; omega
    | succ fuel ih2 =>
      intro q r hr6 hf hv hmu H locs ls hW hl
      refine lv_iload_n hx hb dX3_setSameDaysAside_2 rfl (lv_at hl 1 rfl) ?_
      refine lv_aload_n hx hb dX3_setSameDaysAside_3 rfl (lv_at hl 0 rfl) ?_
      refine mk_get (ci := 3) (C := RX3) (T := TX3) (N := 10) hx hb hts inX3 hown hK hW 4 (by decide) rfl rfl 9 (by decide) fl39 (fun _ h9 => h9) rfl dX3_setSameDaysAside_4 ?_
      refine mk_sayi (y := (st 4 9)) (by rw [hf 4 (by decide)]) ?_
      refine mk_sayi (y := ((R : Nat) : Int)) hR ?_
      refine mk_icmp_ge (tgt := 46) hx hb dX3_setSameDaysAside_7 (by decide) (by omega) (by omega) (fun c_7 => ?_) (fun c_7 => ?_)
      · skip
        exact mk_retV hx hb hr hlocks hW ⟨hf, fun i hi => hv i (by omega)⟩ dX3_setSameDaysAside_46
      · skip
        refine lv_aload_n hx hb dX3_setSameDaysAside_10 rfl (lv_at hl 0 rfl) ?_
        refine mk_get (ci := 3) (C := RX3) (T := TX3) (N := 10) hx hb hts inX3 hown hK hW 4 (by decide) rfl rfl 1 (by decide) fl15 (fun _ h9 => h9) rfl dX3_setSameDaysAside_11 ?_
        refine lv_iload_n hx hb dX3_setSameDaysAside_14 rfl (lv_at hl 1 rfl) ?_
        refine mk_iald hx hb hK hW 6 (by decide) rfl 0 rfl (j := r) rfl (by omega) (by decide) dX3_setSameDaysAside_15 ?_
        refine mk_sayi (y := (st 6 r)) (by rw [hf 6 (by decide)]) ?_
        have hbs9 := hbs r (by omega)
        refine lv_aload_n hx hb dX3_setSameDaysAside_16 rfl (lv_at hl 0 rfl) ?_
        refine mk_get (ci := 3) (C := RX3) (T := TX3) (N := 10) hx hb hts inX3 hown hK hW 4 (by decide) rfl rfl 4 (by decide) fl24 (fun _ h9 => h9) rfl dX3_setSameDaysAside_17 ?_
        refine lv_iload_n hx hb dX3_setSameDaysAside_20 rfl (lv_at hl 1 rfl) ?_
        refine mk_iald hx hb hK hW 9 (by decide) rfl 0 rfl (j := r) rfl (by omega) (by decide) dX3_setSameDaysAside_21 ?_
        refine mk_sayi (y := (st 9 r)) (by rw [hf 9 (by decide)]) ?_
        refine mk_mmin hx hb (hml.trans hl.1.symm) hown mlmin msmin mimin mcmin (Nat.le_of_ble_eq_true rfl) (Nat.le_of_ble_eq_true rfl) (Nat.zero_le _) (Nat.zero_le _) dX3_setSameDaysAside_22 (by omega) (by omega) ?_
        refine mk_topi (fun x e_x => ?_)
        refine lv_istore_n (lv' := [(2, .int (iI x)), (0, .ref (ad 4)), (1, .int (iI ((r : Nat) : Int)))]) hx hb dX3_setSameDaysAside_25 rfl hl (by decide) rfl (fun ls hl => ?_)
        refine lv_aload_n hx hb dX3_setSameDaysAside_26 rfl (lv_at hl 1 rfl) ?_
        refine mk_get (ci := 3) (C := RX3) (T := TX3) (N := 10) hx hb hts inX3 hown hK hW 4 (by decide) rfl rfl 2 (by decide) fl18 (fun _ h9 => h9) rfl dX3_setSameDaysAside_27 ?_
        refine lv_iload_n hx hb dX3_setSameDaysAside_30 rfl (lv_at hl 2 rfl) ?_
        refine lv_iload_n hx hb dX3_setSameDaysAside_31 rfl (lv_at hl 0 rfl) ?_
        refine mk_iast hx hb hK hW 7 (by decide) (fun _ => rfl) 0 rfl (j := r) rfl (by omega) (by decide) dX3_setSameDaysAside_32 (fun H locs hW => ?_)
        obtain ⟨st1, est1⟩ : ∃ z, z = stC q 7 (fnU (q 7) r x) := ⟨_, rfl⟩
        rw [← est1] at hW
        refine lv_aload_n hx hb dX3_setSameDaysAside_33 rfl (lv_at hl 1 rfl) ?_
        refine mk_get (ci := 3) (C := RX3) (T := TX3) (N := 10) hx hb hts inX3 hown hK hW 4 (by decide) rfl rfl 5 (by decide) fl27 (fun _ h9 => h9) rfl dX3_setSameDaysAside_34 ?_
        refine lv_iload_n hx hb dX3_setSameDaysAside_37 rfl (lv_at hl 2 rfl) ?_
        refine lv_iload_n hx hb dX3_setSameDaysAside_38 rfl (lv_at hl 0 rfl) ?_
        refine mk_iast hx hb hK hW 10 (by decide) (fun _ => rfl) 0 rfl (j := r) rfl (by omega) (by decide) dX3_setSameDaysAside_39 (fun H locs hW => ?_)
        obtain ⟨st2, est2⟩ : ∃ z, z = stC st1 10 (fnU (st1 10) r x) := ⟨_, rfl⟩
        rw [← est2] at hW
        refine mk_iinc (w := ((r + 1 : Nat) : Int)) (lv' := [(1, .int (iI ((r + 1 : Nat) : Int))), (2, .int (iI x)), (0, .ref (ad 4))]) hx hb dX3_setSameDaysAside_40 hl (k := 2) rfl (by omega) (by decide) rfl (fun ls hl => ?_)
        refine lv_goto (tgt := 2) hx hb dX3_setSameDaysAside_43 (by decide) ?_
        have hf2 : Fr [7, 10] st st2 := by rw [est2, est1]; exact (hf.st (by decide)).st (by decide)
        have hv2 : ∀ i, i < r + 1 → st2 7 i = min (st 6 i) (st 9 i) ∧ st2 10 i = min (st 6 i) (st 9 i) := by
          intro i hi
          rw [est2, est1]
          show fnU (q 7) r x i = _ ∧ fnU (q 10) r x i = _
          rcases Nat.lt_or_ge i r with y | y
          · rw [fnU_ne (by omega), fnU_ne (by omega)]; exact hv i y
          · rw [show i = r by omega, fnU_eq, fnU_eq]; exact ⟨e_x, e_x⟩
        exact ih2 st2 (r + 1) (by omega) hf2 hv2 (by omega) _ _ _ hW (lv_sub hl [2, 0] rfl)
  exact loop2 _ st 0 (Nat.zero_le _) Fr.rf (fun i hi => absurd hi (by omega)) (Nat.lt_succ_self _) _ _ _ hW (lv_sub hl [1, 0] rfl)

set_option maxHeartbeats 4000000 in
set_option maxRecDepth 100000 in
theorem c_X3_leastUnitsFrom (l : Launch) (cg : Nat → ClassId) (D : va_G) (ad : Nat → Nat) (st : Nat → Nat → Int) (d : Int) (R : Nat) (hR : st 4 9 = R) (hR6 : R ≤ 60) (hD : ∀ r, r < R → -2147483648 ≤ st 5 r ∧ st 5 r < 2147483648) (hd : -2147483648 ≤ d ∧ d < 2147483648) (hh : ∀ r, r ≤ R → -2147483648 ≤ sm (fun i => st 6 i - st 9 i) r ∧ sm (fun i => st 6 i - st 9 i) r < 2147483648) : MI l yX3_leastUnitsFrom wsX3_leastUnitsFrom ({ frames := 1, cells := 0, slots := 0, locals := 20 }) D vwCl (TY cg) 28 (celL cg) ad st [.ref (ad 4), .int (iI d)] (fun z st1 => st1 = st ∧ ∃ q, q ≤ R ∧ (∀ r, r < q → st 5 r ≤ d) ∧ (q < R → d < st 5 q) ∧ (∃ i, q ≤ i ∧ i ≤ R ∧ z = sm (fun i => st 6 i - st 9 i) i) ∧ ∀ i, q ≤ i → i ≤ R → z ≤ sm (fun i => st 6 i - st 9 i) i) := by
  refine mk_open (cc := cX3_leastUnitsFrom) (maxL := 5) (ret := (some .int)) (by decide) rfl (Nat.le_of_ble_eq_true rfl) ?_
  intro p e s m args below meth c hx hb hml hr hown hts hlocks hK hN hargs ls hl hW
  have hown : s.vm.findClass RX3 = some m.cls := hown
  have hl : lv_has ls 5 [(0, .ref (ad 4)), (1, .int (iI d))] := hl
  have inX3 : ∀ w ∈ wsX30, w ∈ wsX3_leastUnitsFrom := by decide +kernel
  have fl39 := hts (.fieldLink RX3 39 "GainsReckoner$Sheet" "size" "I") (by decide +kernel)
  have fl15 := hts (.fieldLink RX3 15 "GainsReckoner$Sheet" "bought" "[I") (by decide +kernel)
  have fl24 := hts (.fieldLink RX3 24 "GainsReckoner$Sheet" "sold" "[I") (by decide +kernel)
  have mlmin := hts (.methodLink RX3 86 Lib.Math.min.name) (by decide +kernel)
  have msmin := hts (.static Lib.Math.min.name) (by decide +kernel)
  have mimin := hts (.initialized "java/lang/Math") (by decide +kernel)
  have mcmin := hts (.code Lib.Math.min.name Lib.Math.min.code 2 (some .int)) (by decide +kernel)
  have fl9 := hts (.fieldLink RX3 9 "GainsReckoner$Sheet" "day" "[I") (by decide +kernel)
  refine mk_iconst hx hb (0) dX3_leastUnitsFrom_0 ?_
  refine lv_istore_n (lv' := [(2, .int (iI 0)), (0, .ref (ad 4)), (1, .int (iI d))]) hx hb dX3_leastUnitsFrom_1 rfl hl (by decide) rfl (fun ls hl => ?_)
  refine mk_iconst hx hb (0) dX3_leastUnitsFrom_2 ?_
  refine lv_istore_n (lv' := [(3, .int (iI 0)), (2, .int (iI 0)), (0, .ref (ad 4)), (1, .int (iI d))]) hx hb dX3_leastUnitsFrom_3 rfl hl (by decide) rfl (fun ls hl => ?_)
  have loop4 : ∀ (fuel : Nat) (r : Nat) (h : Int), (r ≤ R) → (h = sm (fun i => st 6 i - st 9 i) r) → (∀ i, i < r → st 5 i ≤ d) → R - r < fuel → ∀ (H : Heap) (locs : List Loc) (ls : Array Slot), GW D vwCl 28 (celL cg) ad (wA 28 ad) s.heap st H locs → lv_has ls 5 [(0, .ref (ad 4)), (1, .int (iI d)), (2, .int (iI h)), (3, .int (iI ((r : Nat) : Int)))] → W p l e (headSpec wsX3_leastUnitsFrom ({ frames := 1, cells := 0, slots := 0, locals := 20 })).room s m args below meth c H locs 0 0 (MQ below (va_Qi (fun (r : Int32) (u : Nat → Nat → Int) => ∃ z : Int, r = iI z ∧ (fun z st1 => st1 = st ∧ ∃ q, q ≤ R ∧ (∀ r, r < q → st 5 r ≤ d) ∧ (q < R → d < st 5 q) ∧ (∃ i, q ≤ i ∧ i ≤ R ∧ z = sm (fun i => st 6 i - st 9 i) i) ∧ ∀ i, q ≤ i → i ≤ R → z ≤ sm (fun i => st 6 i - st 9 i) i) z u) (mB D vwCl 28 (celL cg) ad) (wA 28 ad)) args s 0 0 (wA 28 ad)) (F0 m 4 ls []) := by
    intro fuel
    induction fuel with
    | zero => intro r h hr6 hh2 hle hmu; omega
    | succ fuel ih4 =>
      intro r h hr6 hh2 hle hmu H locs ls hW hl
      refine lv_iload_n hx hb dX3_leastUnitsFrom_4 rfl (lv_at hl 3 rfl) ?_
      refine lv_aload_n hx hb dX3_leastUnitsFrom_5 rfl (lv_at hl 0 rfl) ?_
      refine mk_get (ci := 3) (C := RX3) (T := TX3) (N := 10) hx hb hts inX3 hown hK hW 4 (by decide) rfl rfl 9 (by decide) fl39 (fun _ h9 => h9) rfl dX3_leastUnitsFrom_6 ?_
      refine mk_sayi (y := ((R : Nat) : Int)) hR ?_
      refine mk_icmp_ge (tgt := 44) hx hb dX3_leastUnitsFrom_9 (by decide) (by omega) (by omega) (fun c_9 => ?_) (fun c_9 => ?_)
      · skip
        refine lv_iload_n hx hb dX3_leastUnitsFrom_44 rfl (lv_at hl 2 rfl) ?_
        refine lv_istore (lv' := [(4, .int (iI h)), (0, .ref (ad 4)), (1, .int (iI d)), (2, .int (iI h)), (3, .int (iI ((r : Nat) : Int)))]) hx hb dX3_leastUnitsFrom_45 hl (by decide) rfl (fun ls hl => ?_)
        have loop47 : ∀ (fuel : Nat) (r2 : Nat) (h2 : Int) (m2 : Int), (r ≤ r2 ∧ r2 ≤ R) → (h2 = sm (fun i => st 6 i - st 9 i) r2) → (∃ i, r ≤ i ∧ i ≤ r2 ∧ m2 = sm (fun i => st 6 i - st 9 i) i) → (∀ i, r ≤ i → i ≤ r2 → m2 ≤ sm (fun i => st 6 i - st 9 i) i) → R - r2 < fuel → ∀ (H : Heap) (locs : List Loc) (ls : Array Slot), GW D vwCl 28 (celL cg) ad (wA 28 ad) s.heap st H locs → lv_has ls 5 [(0, .ref (ad 4)), (1, .int (iI d)), (2, .int (iI h2)), (3, .int (iI ((r2 : Nat) : Int))), (4, .int (iI m2))] → W p l e (headSpec wsX3_leastUnitsFrom ({ frames := 1, cells := 0, slots := 0, locals := 20 })).room s m args below meth c H locs 0 0 (MQ below (va_Qi (fun (r : Int32) (u : Nat → Nat → Int) => ∃ z : Int, r = iI z ∧ (fun z st1 => st1 = st ∧ ∃ q, q ≤ R ∧ (∀ r, r < q → st 5 r ≤ d) ∧ (q < R → d < st 5 q) ∧ (∃ i, q ≤ i ∧ i ≤ R ∧ z = sm (fun i => st 6 i - st 9 i) i) ∧ ∀ i, q ≤ i → i ≤ R → z ≤ sm (fun i => st 6 i - st 9 i) i) z u) (mB D vwCl 28 (celL cg) ad) (wA 28 ad)) args s 0 0 (wA 28 ad)) (F0 m 47 ls []) := by
          intro fuel
          induction fuel with
          | zero => intro r2 h2 m2 hr2 hh3 hm2 hm3 hmu; omega
          | succ fuel ih47 =>
            intro r2 h2 m2 hr2 hh3 hm2 hm3 hmu H locs ls hW hl
            refine lv_iload_n hx hb dX3_leastUnitsFrom_47 rfl (lv_at hl 3 rfl) ?_
            refine lv_aload_n hx hb dX3_leastUnitsFrom_48 rfl (lv_at hl 0 rfl) ?_
            refine mk_get (ci := 3) (C := RX3) (T := TX3) (N := 10) hx hb hts inX3 hown hK hW 4 (by decide) rfl rfl 9 (by decide) fl39 (fun _ h9 => h9) rfl dX3_leastUnitsFrom_49 ?_
            refine mk_sayi (y := ((R : Nat) : Int)) hR ?_
            refine mk_icmp_ge (tgt := 85) hx hb dX3_leastUnitsFrom_52 (by decide) (by omega) (by omega) (fun c_52 => ?_) (fun c_52 => ?_)
            · skip
              refine lv_iload hx hb dX3_leastUnitsFrom_85 (lv_at hl 4 rfl) ?_
              exact mk_retI hx hb hr hlocks hW ⟨rfl, r, by omega, hle, fun h => by omega, by obtain ⟨i, a, b, d8⟩ := hm2; exact ⟨i, a, by omega, d8⟩, fun i a b => hm3 i a (by omega)⟩ dX3_leastUnitsFrom_87
            · skip
              refine lv_iload_n hx hb dX3_leastUnitsFrom_55 rfl (lv_at hl 2 rfl) ?_
              refine lv_aload_n hx hb dX3_leastUnitsFrom_56 rfl (lv_at hl 0 rfl) ?_
              refine mk_get (ci := 3) (C := RX3) (T := TX3) (N := 10) hx hb hts inX3 hown hK hW 4 (by decide) rfl rfl 1 (by decide) fl15 (fun _ h9 => h9) rfl dX3_leastUnitsFrom_57 ?_
              refine lv_iload_n hx hb dX3_leastUnitsFrom_60 rfl (lv_at hl 3 rfl) ?_
              refine mk_iald hx hb hK hW 6 (by decide) rfl 0 rfl (j := r2) rfl (by omega) (by decide) dX3_leastUnitsFrom_61 ?_
              refine lv_aload_n hx hb dX3_leastUnitsFrom_62 rfl (lv_at hl 0 rfl) ?_
              refine mk_get (ci := 3) (C := RX3) (T := TX3) (N := 10) hx hb hts inX3 hown hK hW 4 (by decide) rfl rfl 4 (by decide) fl24 (fun _ h9 => h9) rfl dX3_leastUnitsFrom_63 ?_
              refine lv_iload_n hx hb dX3_leastUnitsFrom_66 rfl (lv_at hl 3 rfl) ?_
              refine mk_iald hx hb hK hW 9 (by decide) rfl 0 rfl (j := r2) rfl (by omega) (by decide) dX3_leastUnitsFrom_67 ?_
              refine mk_isub hx hb dX3_leastUnitsFrom_68 ?_
              refine mk_iadd hx hb dX3_leastUnitsFrom_69 ?_
              refine mk_topi (fun h4 e_h4 => ?_)
              refine lv_istore_n (lv' := [(2, .int (iI h4)), (0, .ref (ad 4)), (1, .int (iI d)), (3, .int (iI ((r2 : Nat) : Int))), (4, .int (iI m2))]) hx hb dX3_leastUnitsFrom_70 rfl hl (by decide) rfl (fun ls hl => ?_)
              have hh4 : h4 = sm (fun i => st 6 i - st 9 i) (r2 + 1) := by rw [e_h4, hh3]; rfl
              have hh5 := hh (r2 + 1) (by omega)
              obtain ⟨i9, a9, b9, d9⟩ := hm2
              have hh6 := hh i9 (by omega)
              have hm2 : ∃ i, r ≤ i ∧ i ≤ r2 ∧ m2 = sm (fun i => st 6 i - st 9 i) i := ⟨i9, a9, b9, d9⟩
              refine lv_iload hx hb dX3_leastUnitsFrom_71 (lv_at hl 4 rfl) ?_
              refine lv_iload_n hx hb dX3_leastUnitsFrom_73 rfl (lv_at hl 0 rfl) ?_
              refine mk_mmin hx hb (hml.trans hl.1.symm) hown mlmin msmin mimin mcmin (Nat.le_of_ble_eq_true rfl) (Nat.le_of_ble_eq_true rfl) (Nat.zero_le _) (Nat.zero_le _) dX3_leastUnitsFrom_74 (by omega) (by omega) ?_
              refine lv_istore (lv' := [(4, .int (iI (min m2 h4))), (2, .int (iI h4)), (0, .ref (ad 4)), (1, .int (iI d)), (3, .int (iI ((r2 : Nat) : Int)))]) hx hb dX3_leastUnitsFrom_77 hl (by decide) rfl (fun ls hl => ?_)
              refine mk_iinc (w := ((r2 + 1 : Nat) : Int)) (lv' := [(3, .int (iI ((r2 + 1 : Nat) : Int))), (4, .int (iI (min m2 h4))), (2, .int (iI h4)), (0, .ref (ad 4)), (1, .int (iI d))]) hx hb dX3_leastUnitsFrom_79 hl (k := 4) rfl (by omega) (by decide) rfl (fun ls hl => ?_)
              refine lv_goto (tgt := 47) hx hb dX3_leastUnitsFrom_82 (by decide) ?_
              exact ih47 (r2 + 1) h4 (min m2 h4) (by omega) hh4 (by rcases (show min m2 h4 = m2 ∨ min m2 h4 = h4 by omega) with y | y; obtain ⟨i, a, b, c9⟩ := hm2; exact ⟨i, a, by omega, by rw [y]; exact c9⟩; exact ⟨r2 + 1, by omega, Nat.le_refl _, by rw [y]; exact hh4⟩) (fun i a b => by rcases Nat.lt_or_ge i (r2 + 1) with y | y; have := hm3 i a (by omega); omega; rw [show i = r2 + 1 by omega, ← hh4]; omega) (by omega) _ _ _ hW (lv_sub hl [3, 4, 2, 0, 1] rfl)
        exact loop47 _ r h h ⟨Nat.le_refl _, hr6⟩ hh2 ⟨r, Nat.le_refl _, Nat.le_refl _, hh2⟩ (fun i a b => by rw [show i = r by omega, hh2]; exact Int.le_refl _) (Nat.lt_succ_self _) _ _ _ hW (lv_sub hl [1, 2, 3, 4, 0] rfl)
      · skip
        refine lv_aload_n hx hb dX3_leastUnitsFrom_12 rfl (lv_at hl 0 rfl) ?_
        refine mk_get (ci := 3) (C := RX3) (T := TX3) (N := 10) hx hb hts inX3 hown hK hW 4 (by decide) rfl rfl 0 (by decide) fl9 (fun _ h9 => h9) rfl dX3_leastUnitsFrom_13 ?_
        refine lv_iload_n hx hb dX3_leastUnitsFrom_16 rfl (lv_at hl 3 rfl) ?_
        refine mk_iald hx hb hK hW 5 (by decide) rfl 0 rfl (j := r) rfl (by omega) (by decide) dX3_leastUnitsFrom_17 ?_
        have hD9 := hD r (by omega)
        refine lv_iload_n hx hb dX3_leastUnitsFrom_18 rfl (lv_at hl 1 rfl) ?_
        refine mk_icmp_gt (tgt := 44) hx hb dX3_leastUnitsFrom_19 (by decide) (by omega) (by omega) (fun c_19 => ?_) (fun c_19 => ?_)
        · skip
          refine lv_iload_n hx hb dX3_leastUnitsFrom_44 rfl (lv_at hl 2 rfl) ?_
          refine lv_istore (lv' := [(4, .int (iI h)), (0, .ref (ad 4)), (1, .int (iI d)), (2, .int (iI h)), (3, .int (iI ((r : Nat) : Int)))]) hx hb dX3_leastUnitsFrom_45 hl (by decide) rfl (fun ls hl => ?_)
          have loop47 : ∀ (fuel : Nat) (r2 : Nat) (h2 : Int) (m2 : Int), (r ≤ r2 ∧ r2 ≤ R) → (h2 = sm (fun i => st 6 i - st 9 i) r2) → (∃ i, r ≤ i ∧ i ≤ r2 ∧ m2 = sm (fun i => st 6 i - st 9 i) i) → (∀ i, r ≤ i → i ≤ r2 → m2 ≤ sm (fun i => st 6 i - st 9 i) i) → R - r2 < fuel → ∀ (H : Heap) (locs : List Loc) (ls : Array Slot), GW D vwCl 28 (celL cg) ad (wA 28 ad) s.heap st H locs → lv_has ls 5 [(0, .ref (ad 4)), (1, .int (iI d)), (2, .int (iI h2)), (3, .int (iI ((r2 : Nat) : Int))), (4, .int (iI m2))] → W p l e (headSpec wsX3_leastUnitsFrom ({ frames := 1, cells := 0, slots := 0, locals := 20 })).room s m args below meth c H locs 0 0 (MQ below (va_Qi (fun (r : Int32) (u : Nat → Nat → Int) => ∃ z : Int, r = iI z ∧ (fun z st1 => st1 = st ∧ ∃ q, q ≤ R ∧ (∀ r, r < q → st 5 r ≤ d) ∧ (q < R → d < st 5 q) ∧ (∃ i, q ≤ i ∧ i ≤ R ∧ z = sm (fun i => st 6 i - st 9 i) i) ∧ ∀ i, q ≤ i → i ≤ R → z ≤ sm (fun i => st 6 i - st 9 i) i) z u) (mB D vwCl 28 (celL cg) ad) (wA 28 ad)) args s 0 0 (wA 28 ad)) (F0 m 47 ls []) := by
            intro fuel
            induction fuel with
            | zero => intro r2 h2 m2 hr2 hh3 hm2 hm3 hmu; omega
            | succ fuel ih47 =>
              intro r2 h2 m2 hr2 hh3 hm2 hm3 hmu H locs ls hW hl
              refine lv_iload_n hx hb dX3_leastUnitsFrom_47 rfl (lv_at hl 3 rfl) ?_
              refine lv_aload_n hx hb dX3_leastUnitsFrom_48 rfl (lv_at hl 0 rfl) ?_
              refine mk_get (ci := 3) (C := RX3) (T := TX3) (N := 10) hx hb hts inX3 hown hK hW 4 (by decide) rfl rfl 9 (by decide) fl39 (fun _ h9 => h9) rfl dX3_leastUnitsFrom_49 ?_
              refine mk_sayi (y := ((R : Nat) : Int)) hR ?_
              refine mk_icmp_ge (tgt := 85) hx hb dX3_leastUnitsFrom_52 (by decide) (by omega) (by omega) (fun c_52 => ?_) (fun c_52 => ?_)
              · skip
                refine lv_iload hx hb dX3_leastUnitsFrom_85 (lv_at hl 4 rfl) ?_
                exact mk_retI hx hb hr hlocks hW ⟨rfl, r, by omega, hle, fun h => by omega, by obtain ⟨i, a, b, d8⟩ := hm2; exact ⟨i, a, by omega, d8⟩, fun i a b => hm3 i a (by omega)⟩ dX3_leastUnitsFrom_87
              · skip
                refine lv_iload_n hx hb dX3_leastUnitsFrom_55 rfl (lv_at hl 2 rfl) ?_
                refine lv_aload_n hx hb dX3_leastUnitsFrom_56 rfl (lv_at hl 0 rfl) ?_
                refine mk_get (ci := 3) (C := RX3) (T := TX3) (N := 10) hx hb hts inX3 hown hK hW 4 (by decide) rfl rfl 1 (by decide) fl15 (fun _ h9 => h9) rfl dX3_leastUnitsFrom_57 ?_
                refine lv_iload_n hx hb dX3_leastUnitsFrom_60 rfl (lv_at hl 3 rfl) ?_
                refine mk_iald hx hb hK hW 6 (by decide) rfl 0 rfl (j := r2) rfl (by omega) (by decide) dX3_leastUnitsFrom_61 ?_
                refine lv_aload_n hx hb dX3_leastUnitsFrom_62 rfl (lv_at hl 0 rfl) ?_
                refine mk_get (ci := 3) (C := RX3) (T := TX3) (N := 10) hx hb hts inX3 hown hK hW 4 (by decide) rfl rfl 4 (by decide) fl24 (fun _ h9 => h9) rfl dX3_leastUnitsFrom_63 ?_
                refine lv_iload_n hx hb dX3_leastUnitsFrom_66 rfl (lv_at hl 3 rfl) ?_
                refine mk_iald hx hb hK hW 9 (by decide) rfl 0 rfl (j := r2) rfl (by omega) (by decide) dX3_leastUnitsFrom_67 ?_
                refine mk_isub hx hb dX3_leastUnitsFrom_68 ?_
                refine mk_iadd hx hb dX3_leastUnitsFrom_69 ?_
                refine mk_topi (fun h4 e_h4 => ?_)
                refine lv_istore_n (lv' := [(2, .int (iI h4)), (0, .ref (ad 4)), (1, .int (iI d)), (3, .int (iI ((r2 : Nat) : Int))), (4, .int (iI m2))]) hx hb dX3_leastUnitsFrom_70 rfl hl (by decide) rfl (fun ls hl => ?_)
                have hh4 : h4 = sm (fun i => st 6 i - st 9 i) (r2 + 1) := by rw [e_h4, hh3]; rfl
                have hh5 := hh (r2 + 1) (by omega)
                obtain ⟨i9, a9, b9, d9⟩ := hm2
                have hh6 := hh i9 (by omega)
                have hm2 : ∃ i, r ≤ i ∧ i ≤ r2 ∧ m2 = sm (fun i => st 6 i - st 9 i) i := ⟨i9, a9, b9, d9⟩
                refine lv_iload hx hb dX3_leastUnitsFrom_71 (lv_at hl 4 rfl) ?_
                refine lv_iload_n hx hb dX3_leastUnitsFrom_73 rfl (lv_at hl 0 rfl) ?_
                refine mk_mmin hx hb (hml.trans hl.1.symm) hown mlmin msmin mimin mcmin (Nat.le_of_ble_eq_true rfl) (Nat.le_of_ble_eq_true rfl) (Nat.zero_le _) (Nat.zero_le _) dX3_leastUnitsFrom_74 (by omega) (by omega) ?_
                refine lv_istore (lv' := [(4, .int (iI (min m2 h4))), (2, .int (iI h4)), (0, .ref (ad 4)), (1, .int (iI d)), (3, .int (iI ((r2 : Nat) : Int)))]) hx hb dX3_leastUnitsFrom_77 hl (by decide) rfl (fun ls hl => ?_)
                refine mk_iinc (w := ((r2 + 1 : Nat) : Int)) (lv' := [(3, .int (iI ((r2 + 1 : Nat) : Int))), (4, .int (iI (min m2 h4))), (2, .int (iI h4)), (0, .ref (ad 4)), (1, .int (iI d))]) hx hb dX3_leastUnitsFrom_79 hl (k := 4) rfl (by omega) (by decide) rfl (fun ls hl => ?_)
                refine lv_goto (tgt := 47) hx hb dX3_leastUnitsFrom_82 (by decide) ?_
                exact ih47 (r2 + 1) h4 (min m2 h4) (by omega) hh4 (by rcases (show min m2 h4 = m2 ∨ min m2 h4 = h4 by omega) with y | y; obtain ⟨i, a, b, c9⟩ := hm2; exact ⟨i, a, by omega, by rw [y]; exact c9⟩; exact ⟨r2 + 1, by omega, Nat.le_refl _, by rw [y]; exact hh4⟩) (fun i a b => by rcases Nat.lt_or_ge i (r2 + 1) with y | y; have := hm3 i a (by omega); omega; rw [show i = r2 + 1 by omega, ← hh4]; omega) (by omega) _ _ _ hW (lv_sub hl [3, 4, 2, 0, 1] rfl)
          exact loop47 _ r h h ⟨Nat.le_refl _, hr6⟩ hh2 ⟨r, Nat.le_refl _, Nat.le_refl _, hh2⟩ (fun i a b => by rw [show i = r by omega, hh2]; exact Int.le_refl _) (Nat.lt_succ_self _) _ _ _ hW (lv_sub hl [1, 2, 3, 4, 0] rfl)
        · skip
          refine lv_iload_n hx hb dX3_leastUnitsFrom_22 rfl (lv_at hl 2 rfl) ?_
          refine lv_aload_n hx hb dX3_leastUnitsFrom_23 rfl (lv_at hl 0 rfl) ?_
          refine mk_get (ci := 3) (C := RX3) (T := TX3) (N := 10) hx hb hts inX3 hown hK hW 4 (by decide) rfl rfl 1 (by decide) fl15 (fun _ h9 => h9) rfl dX3_leastUnitsFrom_24 ?_
          refine lv_iload_n hx hb dX3_leastUnitsFrom_27 rfl (lv_at hl 3 rfl) ?_
          refine mk_iald hx hb hK hW 6 (by decide) rfl 0 rfl (j := r) rfl (by omega) (by decide) dX3_leastUnitsFrom_28 ?_
          refine lv_aload_n hx hb dX3_leastUnitsFrom_29 rfl (lv_at hl 0 rfl) ?_
          refine mk_get (ci := 3) (C := RX3) (T := TX3) (N := 10) hx hb hts inX3 hown hK hW 4 (by decide) rfl rfl 4 (by decide) fl24 (fun _ h9 => h9) rfl dX3_leastUnitsFrom_30 ?_
          refine lv_iload_n hx hb dX3_leastUnitsFrom_33 rfl (lv_at hl 3 rfl) ?_
          refine mk_iald hx hb hK hW 9 (by decide) rfl 0 rfl (j := r) rfl (by omega) (by decide) dX3_leastUnitsFrom_34 ?_
          refine mk_isub hx hb dX3_leastUnitsFrom_35 ?_
          refine mk_iadd hx hb dX3_leastUnitsFrom_36 ?_
          refine lv_istore_n (lv' := [(2, .int (iI (h + ((st 6 r) - (st 9 r))))), (0, .ref (ad 4)), (1, .int (iI d)), (3, .int (iI ((r : Nat) : Int)))]) hx hb dX3_leastUnitsFrom_37 rfl hl (by decide) rfl (fun ls hl => ?_)
          refine mk_iinc (w := ((r + 1 : Nat) : Int)) (lv' := [(3, .int (iI ((r + 1 : Nat) : Int))), (2, .int (iI (h + ((st 6 r) - (st 9 r))))), (0, .ref (ad 4)), (1, .int (iI d))]) hx hb dX3_leastUnitsFrom_38 hl (k := 3) rfl (by omega) (by decide) rfl (fun ls hl => ?_)
          refine lv_goto (tgt := 4) hx hb dX3_leastUnitsFrom_41 (by decide) ?_
          exact ih4 (r + 1) (h + ((st 6 r) - (st 9 r))) (by omega) (by rw [hh2]; rfl) (fun i hi => by rcases Nat.lt_or_ge i r with y | y; exact hle i y; rw [show i = r by omega]; omega) (by omega) _ _ _ hW (lv_sub hl [2, 3, 1, 0] rfl)
  exact loop4 _ 0 0 (Nat.zero_le _) rfl (fun i hi => absurd hi (by omega)) (Nat.lt_succ_self _) _ _ _ hW (lv_sub hl [2, 3, 1, 0] rfl)

set_option maxHeartbeats 4000000 in
set_option maxRecDepth 100000 in
theorem c_X3_openRow (l : Launch) (cg : Nat → ClassId) (D : va_G) (ad : Nat → Nat) (st : Nat → Nat → Int) (d : Int) (R : Nat) (hR : st 4 9 = R) (hR6 : R < 60) (hD : ∀ r, r < R → 0 ≤ st 5 r ∧ st 5 r < 1825) (hd : 0 ≤ d ∧ d < 1825) (hso : ∀ r q, r < q → q < R → st 5 r < st 5 q) : MV l yX3_openRow wsX3_openRow ({ frames := 1, cells := 0, slots := 0, locals := 23 }) D vwCl (TY cg) 28 (celL cg) ad st [.ref (ad 4), .int (iI d)] (fun st1 => Fr [4, 5] st st1 ∧ ((st1 = st ∧ ∃ q, q < R ∧ st 5 q = d) ∨ (st1 4 9 = (R : Int) + 1 ∧ ∃ q, q ≤ R ∧ (∀ r, r < q → st 5 r < d) ∧ (∀ r, q ≤ r → r < R → d < st 5 r) ∧ ∀ r, r < R + 1 → st1 5 r = insD (st 5) q d r))) := by
  refine mk_open (cc := cX3_openRow) (maxL := 4) (ret := none) (by decide) rfl (Nat.le_of_ble_eq_true rfl) ?_
  intro p e s m args below meth c hx hb hml hr hown hts hlocks hK hN hargs ls hl hW
  have hown : s.vm.findClass RX3 = some m.cls := hown
  have hl : lv_has ls 4 [(0, .ref (ad 4)), (1, .int (iI d))] := hl
  have inX3 : ∀ w ∈ wsX30, w ∈ wsX3_openRow := by decide +kernel
  have fl39 := hts (.fieldLink RX3 39 "GainsReckoner$Sheet" "size" "I") (by decide +kernel)
  have fl9 := hts (.fieldLink RX3 9 "GainsReckoner$Sheet" "day" "[I") (by decide +kernel)
  refine lv_aload_n hx hb dX3_openRow_0 rfl (lv_at hl 0 rfl) ?_
  refine lv_iload_n hx hb dX3_openRow_1 rfl (lv_at hl 1 rfl) ?_
  refine mk_goI (va_runV (As := [.int (iI d)]) (rest := []) ⟨hx, hb, hml, hown, hts⟩ (c_X3_lastRowUpTo l cg D ad st d R hR (by omega) (fun r hr => by have := hD r hr; omega) (by omega)) (cwV 1 hts gX3_openRow_X3_lastRowUpTo rfl rfl rfl (by decide +kernel) ⟨Nat.le_of_ble_eq_true rfl, Nat.le_of_ble_eq_true rfl⟩) (mk_preV hK hN hW 4 (by decide) rfl rfl rfl) rfl rfl hl.1 rfl (lv_room (Nat.le_of_ble_eq_true rfl)) dX3_openRow_2 ⟨Nat.zero_le _, Nat.zero_le _⟩) hW (fun z st1 hp2 H locs hW => ?_)
  obtain ⟨est1, q, ez, hq, hle, hgt⟩ := hp2
  rw [est1] at hW
  have hgt2 : ∀ r, q ≤ r → r < R → d < st 5 r := fun r a b => by
    rcases Nat.lt_or_ge q r with y | y
    · have := hso q r y b; have := hgt (by omega); omega
    · rw [show r = q by omega]; exact hgt (by omega)
  refine lv_istore_n (lv' := [(2, .int (iI z)), (0, .ref (ad 4)), (1, .int (iI d))]) hx hb dX3_openRow_5 rfl hl (by decide) rfl (fun ls hl => ?_)
  refine lv_aload_n hx hb dX3_openRow_6 rfl (lv_at hl 1 rfl) ?_
  refine mk_get (ci := 3) (C := RX3) (T := TX3) (N := 10) hx hb hts inX3 hown hK hW 4 (by decide) rfl rfl 9 (by decide) fl39 (fun _ h9 => h9) rfl dX3_openRow_7 ?_
  refine mk_sayi (y := ((R : Nat) : Int)) hR ?_
  refine mk_bipush hx hb (60) (by decide +kernel) dX3_openRow_10 ?_
  refine mk_icmp_ge (tgt := 29) hx hb dX3_openRow_12 (by decide) (by omega) (by omega) (fun c_12 => ?_) (fun c_12 => ?_)
  · skip
    exact absurd c_12 (by omega)
  · skip
    refine lv_iload_n hx hb dX3_openRow_15 rfl (lv_at hl 0 rfl) ?_
    refine mk_if_lt (tgt := 30) hx hb dX3_openRow_16 (by decide) (by omega) (fun c_16 => ?_) (fun c_16 => ?_)
    · skip
      have hlt : ∀ r, r < q → st 5 r < d := fun r hr => absurd hr (by omega)
      refine lv_aload_n hx hb dX3_openRow_30 rfl (lv_at hl 1 rfl) ?_
      refine mk_get (ci := 3) (C := RX3) (T := TX3) (N := 10) hx hb hts inX3 hown hK hW 4 (by decide) rfl rfl 9 (by decide) fl39 (fun _ h9 => h9) rfl dX3_openRow_31 ?_
      refine mk_sayi (y := ((R : Nat) : Int)) hR ?_
      refine lv_istore_n (lv' := [(3, .int (iI ((R : Nat) : Int))), (2, .int (iI z)), (0, .ref (ad 4)), (1, .int (iI d))]) hx hb dX3_openRow_34 rfl hl (by decide) rfl (fun ls hl => ?_)
      have loop35 : ∀ (fuel : Nat) (u : Nat → Nat → Int) (row : Nat), (q ≤ row ∧ row ≤ R) → (Fr [5] st u) → (∀ r, r < R + 1 → u 5 r = if r ≤ row then st 5 r else st 5 (r - 1)) → row < fuel → ∀ (H : Heap) (locs : List Loc) (ls : Array Slot), GW D vwCl 28 (celL cg) ad (wA 28 ad) s.heap u H locs → lv_has ls 4 [(0, .ref (ad 4)), (1, .int (iI d)), (2, .int (iI z)), (3, .int (iI ((row : Nat) : Int)))] → W p l e (headSpec wsX3_openRow ({ frames := 1, cells := 0, slots := 0, locals := 23 })).room s m args below meth c H locs 0 0 (MQ below (va_Qv (fun st1 => Fr [4, 5] st st1 ∧ ((st1 = st ∧ ∃ q, q < R ∧ st 5 q = d) ∨ (st1 4 9 = (R : Int) + 1 ∧ ∃ q, q ≤ R ∧ (∀ r, r < q → st 5 r < d) ∧ (∀ r, q ≤ r → r < R → d < st 5 r) ∧ ∀ r, r < R + 1 → st1 5 r = insD (st 5) q d r))) (mB D vwCl 28 (celL cg) ad) (wA 28 ad)) args s 0 0 (wA 28 ad)) (F0 m 35 ls []) := by
        intro fuel
        induction fuel with
        | zero => intro u row hr6 hf hv hmu; omega
        | succ fuel ih35 =>
          intro u row hr6 hf hv hmu H locs ls hW hl
          refine lv_iload_n hx hb dX3_openRow_35 rfl (lv_at hl 3 rfl) ?_
          refine lv_iload_n hx hb dX3_openRow_36 rfl (lv_at hl 2 rfl) ?_
          refine mk_iconst hx hb (1) dX3_openRow_37 ?_
          refine mk_iadd hx hb dX3_openRow_38 ?_
          refine mk_sayi (y := ((q : Nat) : Int)) (by omega) ?_
          refine mk_icmp_le (tgt := 62) hx hb dX3_openRow_39 (by decide) (by omega) (by omega) (fun c_39 => ?_) (fun c_39 => ?_)
          · skip
            refine lv_aload_n hx hb dX3_openRow_62 rfl (lv_at hl 0 rfl) ?_
            refine mk_get (ci := 3) (C := RX3) (T := TX3) (N := 10) hx hb hts inX3 hown hK hW 4 (by decide) rfl rfl 0 (by decide) fl9 (fun _ h9 => h9) rfl dX3_openRow_63 ?_
            refine lv_iload_n hx hb dX3_openRow_66 rfl (lv_at hl 2 rfl) ?_
            refine mk_iconst hx hb (1) dX3_openRow_67 ?_
            refine mk_iadd hx hb dX3_openRow_68 ?_
            refine mk_sayi (y := ((q : Nat) : Int)) (by omega) ?_
            refine lv_iload_n hx hb dX3_openRow_69 rfl (lv_at hl 1 rfl) ?_
            refine mk_iast hx hb hK hW 5 (by decide) (fun _ => rfl) 0 rfl (j := q) rfl (by omega) (by decide) dX3_openRow_70 (fun H locs hW => ?_)
            obtain ⟨st2, est2⟩ : ∃ z, z = stC u 5 (fnU (u 5) q d) := ⟨_, rfl⟩
            rw [← est2] at hW
            refine lv_aload_n hx hb dX3_openRow_71 rfl (lv_at hl 0 rfl) ?_
            refine lv_dup hx hb dX3_openRow_72 rfl ?_
            refine mk_get (ci := 3) (C := RX3) (T := TX3) (N := 10) hx hb hts inX3 hown hK hW 4 (by decide) rfl rfl 9 (by decide) fl39 (fun _ h9 => h9) rfl dX3_openRow_73 ?_
            refine mk_sayi (y := (st 4 9)) (by rw [show st2 4 = u 4 from by rw [est2]; exact stC_ne (by decide), hf 4 (by decide)]) ?_
            refine mk_sayi (y := ((R : Nat) : Int)) hR ?_
            refine mk_iconst hx hb (1) dX3_openRow_76 ?_
            refine mk_iadd hx hb dX3_openRow_77 ?_
            refine mk_put (ci := 3) (C := RX3) (T := TX3) (N := 10) hx hb hts inX3 tyX3 tyX3_ok nmX3 hown hK hW 4 (by decide) rfl rfl 9 (by decide) fl39 (fun _ h9 => h9) rfl (by decide +kernel) (Nat.le_of_ble_eq_true rfl) rfl dX3_openRow_78 (fun H locs hW => ?_)
            obtain ⟨st3, est3⟩ : ∃ z, z = stC st2 4 (fnU (st2 4) 9 (((R : Nat) : Int) + 1)) := ⟨_, rfl⟩
            rw [← est3] at hW
            exact mk_retV hx hb hr hlocks hW (by
              have e9 : row = q := by omega
              subst e9
              subst est2; subst est3
              refine ⟨(((hf.up (T := [4, 5]) (by decide)).st (by decide)).st (by decide)), Or.inr ⟨rfl, row, hq, hlt, hgt2, fun r hr => ?_⟩⟩
              show fnU (u 5) row d r = insD (st 5) row d r
              unfold insD
              by_cases y : r = row
              · rw [y, fnU_eq, if_neg (by omega), if_pos rfl]
              · rw [fnU_ne y, hv r hr]
                by_cases x : r < row
                · rw [if_pos (by omega), if_pos x]
                · rw [if_neg (by omega), if_neg x, if_neg y]) dX3_openRow_81
          · skip
            refine lv_aload_n hx hb dX3_openRow_42 rfl (lv_at hl 0 rfl) ?_
            refine mk_get (ci := 3) (C := RX3) (T := TX3) (N := 10) hx hb hts inX3 hown hK hW 4 (by decide) rfl rfl 0 (by decide) fl9 (fun _ h9 => h9) rfl dX3_openRow_43 ?_
            refine lv_iload_n hx hb dX3_openRow_46 rfl (lv_at hl 3 rfl) ?_
            refine lv_aload_n hx hb dX3_openRow_47 rfl (lv_at hl 0 rfl) ?_
            refine mk_get (ci := 3) (C := RX3) (T := TX3) (N := 10) hx hb hts inX3 hown hK hW 4 (by decide) rfl rfl 0 (by decide) fl9 (fun _ h9 => h9) rfl dX3_openRow_48 ?_
            refine lv_iload_n hx hb dX3_openRow_51 rfl (lv_at hl 3 rfl) ?_
            refine mk_iconst hx hb (1) dX3_openRow_52 ?_
            refine mk_isub hx hb dX3_openRow_53 ?_
            refine mk_sayi (y := ((row - 1 : Nat) : Int)) (by omega) ?_
            refine mk_iald hx hb hK hW 5 (by decide) rfl 0 rfl (j := (row - 1)) rfl (by omega) (by decide) dX3_openRow_54 ?_
            refine mk_iast hx hb hK hW 5 (by decide) (fun _ => rfl) 0 rfl (j := row) rfl (by omega) (by decide) dX3_openRow_55 (fun H locs hW => ?_)
            obtain ⟨st4, est4⟩ : ∃ z, z = stC u 5 (fnU (u 5) row (u 5 (row - 1))) := ⟨_, rfl⟩
            rw [← est4] at hW
            refine mk_iinc (w := ((row - 1 : Nat) : Int)) (lv' := [(3, .int (iI ((row - 1 : Nat) : Int))), (0, .ref (ad 4)), (1, .int (iI d)), (2, .int (iI z))]) hx hb dX3_openRow_56 hl (k := 3) rfl (by omega) (by decide) rfl (fun ls hl => ?_)
            refine lv_goto (tgt := 35) hx hb dX3_openRow_59 (by decide) ?_
            have hv2 : ∀ r, r < R + 1 → st4 5 r = if r ≤ row - 1 then st 5 r else st 5 (r - 1) := by
              intro r hr
              rw [est4]
              show fnU (u 5) row (u 5 (row - 1)) r = _
              by_cases y : r = row
              · rw [y, fnU_eq, hv (row - 1) (by omega), if_pos (by omega), if_neg (by omega)]
              · rw [fnU_ne y, hv r hr]
                by_cases x : r ≤ row - 1
                · rw [if_pos (by omega), if_pos x]
                · rw [if_neg (by omega), if_neg x]
            exact ih35 st4 (row - 1) (by omega) (by rw [est4]; exact hf.st (by decide)) hv2 (by omega) _ _ _ hW (lv_sub hl [1, 2, 3, 0] rfl)
      exact loop35 _ st R ⟨hq, Nat.le_refl _⟩ Fr.rf (fun r hr => by rw [if_pos (by omega)]) (Nat.lt_succ_self _) _ _ _ hW (lv_sub hl [2, 3, 1, 0] rfl)
    · skip
      refine lv_aload_n hx hb dX3_openRow_19 rfl (lv_at hl 1 rfl) ?_
      refine mk_get (ci := 3) (C := RX3) (T := TX3) (N := 10) hx hb hts inX3 hown hK hW 4 (by decide) rfl rfl 0 (by decide) fl9 (fun _ h9 => h9) rfl dX3_openRow_20 ?_
      refine lv_iload_n hx hb dX3_openRow_23 rfl (lv_at hl 0 rfl) ?_
      refine mk_iald hx hb hK hW 5 (by decide) rfl 0 rfl (j := (q - 1)) (by omega) (by omega) (by decide) dX3_openRow_24 ?_
      have hD9 := hD (q - 1) (by omega)
      refine lv_iload_n hx hb dX3_openRow_25 rfl (lv_at hl 2 rfl) ?_
      refine mk_icmp_ne (tgt := 30) hx hb dX3_openRow_26 (by decide) (by omega) (by omega) (fun c_26 => ?_) (fun c_26 => ?_)
      · skip
        have hlt : ∀ r, r < q → st 5 r < d := fun r hr => by
          have h8 := hle r hr
          rcases Nat.lt_or_ge r (q - 1) with y | y
          · have := hso r (q - 1) y (by omega); have := hle (q - 1) (by omega); omega
          · have e9 : r = q - 1 := by omega
            subst e9; omega
        refine lv_aload_n hx hb dX3_openRow_30 rfl (lv_at hl 1 rfl) ?_
        refine mk_get (ci := 3) (C := RX3) (T := TX3) (N := 10) hx hb hts inX3 hown hK hW 4 (by decide) rfl rfl 9 (by decide) fl39 (fun _ h9 => h9) rfl dX3_openRow_31 ?_
        refine mk_sayi (y := ((R : Nat) : Int)) hR ?_
        refine lv_istore_n (lv' := [(3, .int (iI ((R : Nat) : Int))), (2, .int (iI z)), (0, .ref (ad 4)), (1, .int (iI d))]) hx hb dX3_openRow_34 rfl hl (by decide) rfl (fun ls hl => ?_)
        have loop35 : ∀ (fuel : Nat) (u : Nat → Nat → Int) (row : Nat), (q ≤ row ∧ row ≤ R) → (Fr [5] st u) → (∀ r, r < R + 1 → u 5 r = if r ≤ row then st 5 r else st 5 (r - 1)) → row < fuel → ∀ (H : Heap) (locs : List Loc) (ls : Array Slot), GW D vwCl 28 (celL cg) ad (wA 28 ad) s.heap u H locs → lv_has ls 4 [(0, .ref (ad 4)), (1, .int (iI d)), (2, .int (iI z)), (3, .int (iI ((row : Nat) : Int)))] → W p l e (headSpec wsX3_openRow ({ frames := 1, cells := 0, slots := 0, locals := 23 })).room s m args below meth c H locs 0 0 (MQ below (va_Qv (fun st1 => Fr [4, 5] st st1 ∧ ((st1 = st ∧ ∃ q, q < R ∧ st 5 q = d) ∨ (st1 4 9 = (R : Int) + 1 ∧ ∃ q, q ≤ R ∧ (∀ r, r < q → st 5 r < d) ∧ (∀ r, q ≤ r → r < R → d < st 5 r) ∧ ∀ r, r < R + 1 → st1 5 r = insD (st 5) q d r))) (mB D vwCl 28 (celL cg) ad) (wA 28 ad)) args s 0 0 (wA 28 ad)) (F0 m 35 ls []) := by
          intro fuel
          induction fuel with
          | zero => intro u row hr6 hf hv hmu; omega
          | succ fuel ih35 =>
            intro u row hr6 hf hv hmu H locs ls hW hl
            refine lv_iload_n hx hb dX3_openRow_35 rfl (lv_at hl 3 rfl) ?_
            refine lv_iload_n hx hb dX3_openRow_36 rfl (lv_at hl 2 rfl) ?_
            refine mk_iconst hx hb (1) dX3_openRow_37 ?_
            refine mk_iadd hx hb dX3_openRow_38 ?_
            refine mk_sayi (y := ((q : Nat) : Int)) (by omega) ?_
            refine mk_icmp_le (tgt := 62) hx hb dX3_openRow_39 (by decide) (by omega) (by omega) (fun c_39 => ?_) (fun c_39 => ?_)
            · skip
              refine lv_aload_n hx hb dX3_openRow_62 rfl (lv_at hl 0 rfl) ?_
              refine mk_get (ci := 3) (C := RX3) (T := TX3) (N := 10) hx hb hts inX3 hown hK hW 4 (by decide) rfl rfl 0 (by decide) fl9 (fun _ h9 => h9) rfl dX3_openRow_63 ?_
              refine lv_iload_n hx hb dX3_openRow_66 rfl (lv_at hl 2 rfl) ?_
              refine mk_iconst hx hb (1) dX3_openRow_67 ?_
              refine mk_iadd hx hb dX3_openRow_68 ?_
              refine mk_sayi (y := ((q : Nat) : Int)) (by omega) ?_
              refine lv_iload_n hx hb dX3_openRow_69 rfl (lv_at hl 1 rfl) ?_
              refine mk_iast hx hb hK hW 5 (by decide) (fun _ => rfl) 0 rfl (j := q) rfl (by omega) (by decide) dX3_openRow_70 (fun H locs hW => ?_)
              obtain ⟨st5, est5⟩ : ∃ z, z = stC u 5 (fnU (u 5) q d) := ⟨_, rfl⟩
              rw [← est5] at hW
              refine lv_aload_n hx hb dX3_openRow_71 rfl (lv_at hl 0 rfl) ?_
              refine lv_dup hx hb dX3_openRow_72 rfl ?_
              refine mk_get (ci := 3) (C := RX3) (T := TX3) (N := 10) hx hb hts inX3 hown hK hW 4 (by decide) rfl rfl 9 (by decide) fl39 (fun _ h9 => h9) rfl dX3_openRow_73 ?_
              refine mk_sayi (y := (st 4 9)) (by rw [show st5 4 = u 4 from by rw [est5]; exact stC_ne (by decide), hf 4 (by decide)]) ?_
              refine mk_sayi (y := ((R : Nat) : Int)) hR ?_
              refine mk_iconst hx hb (1) dX3_openRow_76 ?_
              refine mk_iadd hx hb dX3_openRow_77 ?_
              refine mk_put (ci := 3) (C := RX3) (T := TX3) (N := 10) hx hb hts inX3 tyX3 tyX3_ok nmX3 hown hK hW 4 (by decide) rfl rfl 9 (by decide) fl39 (fun _ h9 => h9) rfl (by decide +kernel) (Nat.le_of_ble_eq_true rfl) rfl dX3_openRow_78 (fun H locs hW => ?_)
              obtain ⟨st6, est6⟩ : ∃ z, z = stC st5 4 (fnU (st5 4) 9 (((R : Nat) : Int) + 1)) := ⟨_, rfl⟩
              rw [← est6] at hW
              exact mk_retV hx hb hr hlocks hW (by
                have e9 : row = q := by omega
                subst e9
                subst est5; subst est6
                refine ⟨(((hf.up (T := [4, 5]) (by decide)).st (by decide)).st (by decide)), Or.inr ⟨rfl, row, hq, hlt, hgt2, fun r hr => ?_⟩⟩
                show fnU (u 5) row d r = insD (st 5) row d r
                unfold insD
                by_cases y : r = row
                · rw [y, fnU_eq, if_neg (by omega), if_pos rfl]
                · rw [fnU_ne y, hv r hr]
                  by_cases x : r < row
                  · rw [if_pos (by omega), if_pos x]
                  · rw [if_neg (by omega), if_neg x, if_neg y]) dX3_openRow_81
            · skip
              refine lv_aload_n hx hb dX3_openRow_42 rfl (lv_at hl 0 rfl) ?_
              refine mk_get (ci := 3) (C := RX3) (T := TX3) (N := 10) hx hb hts inX3 hown hK hW 4 (by decide) rfl rfl 0 (by decide) fl9 (fun _ h9 => h9) rfl dX3_openRow_43 ?_
              refine lv_iload_n hx hb dX3_openRow_46 rfl (lv_at hl 3 rfl) ?_
              refine lv_aload_n hx hb dX3_openRow_47 rfl (lv_at hl 0 rfl) ?_
              refine mk_get (ci := 3) (C := RX3) (T := TX3) (N := 10) hx hb hts inX3 hown hK hW 4 (by decide) rfl rfl 0 (by decide) fl9 (fun _ h9 => h9) rfl dX3_openRow_48 ?_
              refine lv_iload_n hx hb dX3_openRow_51 rfl (lv_at hl 3 rfl) ?_
              refine mk_iconst hx hb (1) dX3_openRow_52 ?_
              refine mk_isub hx hb dX3_openRow_53 ?_
              refine mk_sayi (y := ((row - 1 : Nat) : Int)) (by omega) ?_
              refine mk_iald hx hb hK hW 5 (by decide) rfl 0 rfl (j := (row - 1)) rfl (by omega) (by decide) dX3_openRow_54 ?_
              refine mk_iast hx hb hK hW 5 (by decide) (fun _ => rfl) 0 rfl (j := row) rfl (by omega) (by decide) dX3_openRow_55 (fun H locs hW => ?_)
              obtain ⟨st7, est7⟩ : ∃ z, z = stC u 5 (fnU (u 5) row (u 5 (row - 1))) := ⟨_, rfl⟩
              rw [← est7] at hW
              refine mk_iinc (w := ((row - 1 : Nat) : Int)) (lv' := [(3, .int (iI ((row - 1 : Nat) : Int))), (0, .ref (ad 4)), (1, .int (iI d)), (2, .int (iI z))]) hx hb dX3_openRow_56 hl (k := 3) rfl (by omega) (by decide) rfl (fun ls hl => ?_)
              refine lv_goto (tgt := 35) hx hb dX3_openRow_59 (by decide) ?_
              have hv2 : ∀ r, r < R + 1 → st7 5 r = if r ≤ row - 1 then st 5 r else st 5 (r - 1) := by
                intro r hr
                rw [est7]
                show fnU (u 5) row (u 5 (row - 1)) r = _
                by_cases y : r = row
                · rw [y, fnU_eq, hv (row - 1) (by omega), if_pos (by omega), if_neg (by omega)]
                · rw [fnU_ne y, hv r hr]
                  by_cases x : r ≤ row - 1
                  · rw [if_pos (by omega), if_pos x]
                  · rw [if_neg (by omega), if_neg x]
              exact ih35 st7 (row - 1) (by omega) (by rw [est7]; exact hf.st (by decide)) hv2 (by omega) _ _ _ hW (lv_sub hl [1, 2, 3, 0] rfl)
        exact loop35 _ st R ⟨hq, Nat.le_refl _⟩ Fr.rf (fun r hr => by rw [if_pos (by omega)]) (Nat.lt_succ_self _) _ _ _ hW (lv_sub hl [2, 3, 1, 0] rfl)
      · skip
        exact mk_retV hx hb hr hlocks hW ⟨Fr.rf, Or.inl ⟨rfl, q - 1, by omega, by omega⟩⟩ dX3_openRow_29

set_option maxHeartbeats 4000000 in
set_option maxRecDepth 100000 in
theorem c_X3_openRows (l : Launch) (cg : Nat → ClassId) (D : va_G) (ad : Nat → Nat) (st : Nat → Nat → Int) (v : Int) (n : Nat) (hn : st 21 6 = n) (hJ : JV (st 22) (st 23) (st 24) (st 25) (st 26) (st 27) n) (hv : -2147483648 ≤ v ∧ v < 2147483648) : MV l yX3_openRows wsX3_openRows ({ frames := 2, cells := 0, slots := 0, locals := 46 }) D vwCl (TY cg) 28 (celL cg) ad st [.ref (ad 4), .ref (ad 21), .int (iI v)] (fun st1 => Fr [4, 5, 6, 8, 9, 11] st st1 ∧ ∃ R : Nat, st1 4 9 = R ∧ IsR (lvb (st 23) (st 24) v) (st 25) n R (st1 5) ∧ ∀ r, r < R → st1 6 r = 0 ∧ st1 8 r = 0 ∧ st1 9 r = 0 ∧ st1 11 r = 0) := by
  refine mk_open (cc := cX3_openRows) (maxL := 4) (ret := none) (by decide) rfl (Nat.le_of_ble_eq_true rfl) ?_
  intro p e s m args below meth c hx hb hml hr hown hts hlocks hK hN hargs ls hl hW
  have hown : s.vm.findClass RX3 = some m.cls := hown
  have hl : lv_has ls 4 [(0, .ref (ad 4)), (1, .ref (ad 21)), (2, .int (iI v))] := hl
  have inX0 : ∀ w ∈ wsX00, w ∈ wsX3_openRows := by decide +kernel
  have inX3 : ∀ w ∈ wsX30, w ∈ wsX3_openRows := by decide +kernel
  have fl39 := hts (.fieldLink RX3 39 "GainsReckoner$Sheet" "size" "I") (by decide +kernel)
  have fn47 := hN.f (args := args) "GainsReckoner$Sheet" 47 "GainsReckoner$Journal" "size" "I" (by decide +kernel)
  have fl15 := hts (.fieldLink RX3 15 "GainsReckoner$Sheet" "bought" "[I") (by decide +kernel)
  have fl21 := hts (.fieldLink RX3 21 "GainsReckoner$Sheet" "cost" "[I") (by decide +kernel)
  have fl24 := hts (.fieldLink RX3 24 "GainsReckoner$Sheet" "sold" "[I") (by decide +kernel)
  have fl30 := hts (.fieldLink RX3 30 "GainsReckoner$Sheet" "proceeds" "[I") (by decide +kernel)
  have fn57 := hN.f (args := args) "GainsReckoner$Sheet" 57 "GainsReckoner$Journal" "day" "[I" (by decide +kernel)
  have hn6 := hJ.1
  refine lv_aload_n hx hb dX3_openRows_0 rfl (lv_at hl 0 rfl) ?_
  refine mk_iconst hx hb (0) dX3_openRows_1 ?_
  refine mk_put (ci := 3) (C := RX3) (T := TX3) (N := 10) hx hb hts inX3 tyX3 tyX3_ok nmX3 hown hK hW 4 (by decide) rfl rfl 9 (by decide) fl39 (fun _ h9 => h9) rfl (by decide +kernel) (Nat.le_of_ble_eq_true rfl) rfl dX3_openRows_2 (fun H locs hW => ?_)
  obtain ⟨st1, est1⟩ : ∃ z, z = stC st 4 (fnU (st 4) 9 0) := ⟨_, rfl⟩
  rw [← est1] at hW
  refine mk_iconst hx hb (0) dX3_openRows_5 ?_
  refine lv_istore_n (lv' := [(3, .int (iI 0)), (0, .ref (ad 4)), (1, .ref (ad 21)), (2, .int (iI v))]) hx hb dX3_openRows_6 rfl hl (by decide) rfl (fun ls hl => ?_)
  have loop7 : ∀ (fuel : Nat) (u : Nat → Nat → Int) (k : Nat) (R : Nat), (k ≤ n) → (Fr [4, 5] st u) → (u 4 9 = R) → (IsR (lvb (st 23) (st 24) v) (st 25) k R (u 5)) → n - k < fuel → ∀ (H : Heap) (locs : List Loc) (ls : Array Slot), GW D vwCl 28 (celL cg) ad (wA 28 ad) s.heap u H locs → lv_has ls 4 [(0, .ref (ad 4)), (1, .ref (ad 21)), (2, .int (iI v)), (3, .int (iI ((k : Nat) : Int)))] → W p l e (headSpec wsX3_openRows ({ frames := 2, cells := 0, slots := 0, locals := 46 })).room s m args below meth c H locs 0 0 (MQ below (va_Qv (fun st1 => Fr [4, 5, 6, 8, 9, 11] st st1 ∧ ∃ R : Nat, st1 4 9 = R ∧ IsR (lvb (st 23) (st 24) v) (st 25) n R (st1 5) ∧ ∀ r, r < R → st1 6 r = 0 ∧ st1 8 r = 0 ∧ st1 9 r = 0 ∧ st1 11 r = 0) (mB D vwCl 28 (celL cg) ad) (wA 28 ad)) args s 0 0 (wA 28 ad)) (F0 m 7 ls []) := by
    intro fuel
    induction fuel with
    | zero => intro u k R hk hf hR hI hmu; omega
    | succ fuel ih7 =>
      intro u k R hk hf hR hI hmu H locs ls hW hl
      refine lv_iload_n hx hb dX3_openRows_7 rfl (lv_at hl 3 rfl) ?_
      refine lv_aload_n hx hb dX3_openRows_8 rfl (lv_at hl 1 rfl) ?_
      refine mk_getN (ci := 0) (C := RX0) (T := TX0) (N := 7) hx hb hts inX0 hown hK hW 21 (by decide) rfl rfl 6 (by decide) fn47 (fun _ h9 => h9) rfl dX3_openRows_9 ?_
      refine mk_sayi (y := (st 21 6)) (by rw [hf 21 (by decide)]) ?_
      refine mk_sayi (y := ((n : Nat) : Int)) hn ?_
      refine mk_icmp_ge (tgt := 40) hx hb dX3_openRows_12 (by decide) (by omega) (by omega) (fun c_12 => ?_) (fun c_12 => ?_)
      · skip
        have hRn := hI.le
        refine mk_iconst hx hb (0) dX3_openRows_40 ?_
        refine lv_istore_n (lv' := [(3, .int (iI 0)), (0, .ref (ad 4)), (1, .ref (ad 21)), (2, .int (iI v))]) hx hb dX3_openRows_41 rfl hl (by decide) rfl (fun ls hl => ?_)
        have loop42 : ∀ (fuel : Nat) (u2 : Nat → Nat → Int) (r : Nat), (r ≤ R) → (Fr [6, 8, 9, 11] u u2) → (∀ i, i < r → u2 6 i = 0 ∧ u2 8 i = 0 ∧ u2 9 i = 0 ∧ u2 11 i = 0) → R - r < fuel → ∀ (H : Heap) (locs : List Loc) (ls : Array Slot), GW D vwCl 28 (celL cg) ad (wA 28 ad) s.heap u2 H locs → lv_has ls 4 [(0, .ref (ad 4)), (3, .int (iI ((r : Nat) : Int)))] → W p l e (headSpec wsX3_openRows ({ frames := 2, cells := 0, slots := 0, locals := 46 })).room s m args below meth c H locs 0 0 (MQ below (va_Qv (fun st1 => Fr [4, 5, 6, 8, 9, 11] st st1 ∧ ∃ R : Nat, st1 4 9 = R ∧ IsR (lvb (st 23) (st 24) v) (st 25) n R (st1 5) ∧ ∀ r, r < R → st1 6 r = 0 ∧ st1 8 r = 0 ∧ st1 9 r = 0 ∧ st1 11 r = 0) (mB D vwCl 28 (celL cg) ad) (wA 28 ad)) args s 0 0 (wA 28 ad)) (F0 m 42 ls []) := by
          intro fuel
          induction fuel with
          | zero => intro u2 r hr6 hf2 hz2 hmu; omega
          | succ fuel ih42 =>
            intro u2 r hr6 hf2 hz2 hmu H locs ls hW hl
            refine lv_iload_n hx hb dX3_openRows_42 rfl (lv_at hl 1 rfl) ?_
            refine lv_aload_n hx hb dX3_openRows_43 rfl (lv_at hl 0 rfl) ?_
            refine mk_get (ci := 3) (C := RX3) (T := TX3) (N := 10) hx hb hts inX3 hown hK hW 4 (by decide) rfl rfl 9 (by decide) fl39 (fun _ h9 => h9) rfl dX3_openRows_44 ?_
            refine mk_sayi (y := (u 4 9)) (by rw [hf2 4 (by decide)]) ?_
            refine mk_sayi (y := ((R : Nat) : Int)) hR ?_
            refine mk_icmp_ge (tgt := 84) hx hb dX3_openRows_47 (by decide) (by omega) (by omega) (fun c_47 => ?_) (fun c_47 => ?_)
            · skip
              exact mk_retV hx hb hr hlocks hW ⟨hf.tr hf2 [4, 5, 6, 8, 9, 11] (by decide), R, by rw [hf2 4 (by decide)]; exact hR, by rw [hf2 5 (by decide)]; exact (show k = n by omega) ▸ hI, fun i hi => hz2 i (by omega)⟩ dX3_openRows_84
            · skip
              refine lv_aload_n hx hb dX3_openRows_50 rfl (lv_at hl 0 rfl) ?_
              refine mk_get (ci := 3) (C := RX3) (T := TX3) (N := 10) hx hb hts inX3 hown hK hW 4 (by decide) rfl rfl 1 (by decide) fl15 (fun _ h9 => h9) rfl dX3_openRows_51 ?_
              refine lv_iload_n hx hb dX3_openRows_54 rfl (lv_at hl 1 rfl) ?_
              refine mk_iconst hx hb (0) dX3_openRows_55 ?_
              refine mk_iast hx hb hK hW 6 (by decide) (fun _ => rfl) 0 rfl (j := r) rfl (by omega) (by decide) dX3_openRows_56 (fun H locs hW => ?_)
              obtain ⟨st2, est2⟩ : ∃ z, z = stC u2 6 (fnU (u2 6) r 0) := ⟨_, rfl⟩
              rw [← est2] at hW
              refine lv_aload_n hx hb dX3_openRows_57 rfl (lv_at hl 0 rfl) ?_
              refine mk_get (ci := 3) (C := RX3) (T := TX3) (N := 10) hx hb hts inX3 hown hK hW 4 (by decide) rfl rfl 3 (by decide) fl21 (fun _ h9 => h9) rfl dX3_openRows_58 ?_
              refine lv_iload_n hx hb dX3_openRows_61 rfl (lv_at hl 1 rfl) ?_
              refine mk_iconst hx hb (0) dX3_openRows_62 ?_
              refine mk_iast hx hb hK hW 8 (by decide) (fun _ => rfl) 0 rfl (j := r) rfl (by omega) (by decide) dX3_openRows_63 (fun H locs hW => ?_)
              obtain ⟨st3, est3⟩ : ∃ z, z = stC st2 8 (fnU (st2 8) r 0) := ⟨_, rfl⟩
              rw [← est3] at hW
              refine lv_aload_n hx hb dX3_openRows_64 rfl (lv_at hl 0 rfl) ?_
              refine mk_get (ci := 3) (C := RX3) (T := TX3) (N := 10) hx hb hts inX3 hown hK hW 4 (by decide) rfl rfl 4 (by decide) fl24 (fun _ h9 => h9) rfl dX3_openRows_65 ?_
              refine lv_iload_n hx hb dX3_openRows_68 rfl (lv_at hl 1 rfl) ?_
              refine mk_iconst hx hb (0) dX3_openRows_69 ?_
              refine mk_iast hx hb hK hW 9 (by decide) (fun _ => rfl) 0 rfl (j := r) rfl (by omega) (by decide) dX3_openRows_70 (fun H locs hW => ?_)
              obtain ⟨st4, est4⟩ : ∃ z, z = stC st3 9 (fnU (st3 9) r 0) := ⟨_, rfl⟩
              rw [← est4] at hW
              refine lv_aload_n hx hb dX3_openRows_71 rfl (lv_at hl 0 rfl) ?_
              refine mk_get (ci := 3) (C := RX3) (T := TX3) (N := 10) hx hb hts inX3 hown hK hW 4 (by decide) rfl rfl 6 (by decide) fl30 (fun _ h9 => h9) rfl dX3_openRows_72 ?_
              refine lv_iload_n hx hb dX3_openRows_75 rfl (lv_at hl 1 rfl) ?_
              refine mk_iconst hx hb (0) dX3_openRows_76 ?_
              refine mk_iast hx hb hK hW 11 (by decide) (fun _ => rfl) 0 rfl (j := r) rfl (by omega) (by decide) dX3_openRows_77 (fun H locs hW => ?_)
              obtain ⟨st5, est5⟩ : ∃ z, z = stC st4 11 (fnU (st4 11) r 0) := ⟨_, rfl⟩
              rw [← est5] at hW
              refine mk_iinc (w := ((r + 1 : Nat) : Int)) (lv' := [(3, .int (iI ((r + 1 : Nat) : Int))), (0, .ref (ad 4))]) hx hb dX3_openRows_78 hl (k := 1) rfl (by omega) (by decide) rfl (fun ls hl => ?_)
              refine lv_goto (tgt := 42) hx hb dX3_openRows_81 (by decide) ?_
              have hf3 : Fr [6, 8, 9, 11] u st5 := by rw [est5, est4, est3, est2]; exact (((hf2.st (by decide)).st (by decide)).st (by decide)).st (by decide)
              have hz3 : ∀ i, i < r + 1 → st5 6 i = 0 ∧ st5 8 i = 0 ∧ st5 9 i = 0 ∧ st5 11 i = 0 := by
                intro i hi
                rw [est5, est4, est3, est2]
                show fnU (u2 6) r 0 i = 0 ∧ fnU (u2 8) r 0 i = 0 ∧ fnU (u2 9) r 0 i = 0 ∧ fnU (u2 11) r 0 i = 0
                rcases Nat.lt_or_ge i r with y | y
                · rw [fnU_ne (by omega), fnU_ne (by omega), fnU_ne (by omega), fnU_ne (by omega)]; exact hz2 i y
                · rw [show i = r by omega, fnU_eq, fnU_eq, fnU_eq, fnU_eq]; exact ⟨rfl, rfl, rfl, rfl⟩
              exact ih42 st5 (r + 1) (by omega) hf3 hz3 (by omega) _ _ _ hW (lv_sub hl [1, 0] rfl)
        exact loop42 _ u 0 (Nat.zero_le _) Fr.rf (fun i hi => absurd hi (by omega)) (Nat.lt_succ_self _) _ _ _ hW (lv_sub hl [1, 0] rfl)
      · skip
        refine lv_aload_n hx hb dX3_openRows_15 rfl (lv_at hl 1 rfl) ?_
        refine lv_iload_n hx hb dX3_openRows_16 rfl (lv_at hl 3 rfl) ?_
        refine lv_iload_n hx hb dX3_openRows_17 rfl (lv_at hl 2 rfl) ?_
        refine mk_goI (va_runV (As := [.int (iI ((k : Nat) : Int)), .int (iI v)]) (rest := []) ⟨hx, hb, hml, hown, hts⟩ (c_X0_counts l cg D ad u k v (by omega) (by rw [hf 24 (by decide)]; exact (by have := hJ.2 k (by omega); omega)) (by rw [hf 23 (by decide)]; exact (by have := hJ.2 k (by omega); omega)) hv) (cwV 2 hts gX3_openRows_X0_counts rfl rfl rfl (by decide +kernel) ⟨Nat.le_of_ble_eq_true rfl, Nat.le_of_ble_eq_true rfl⟩) (mk_preV hK hN hW 21 (by decide) rfl rfl rfl) rfl rfl hl.1 rfl (lv_room (Nat.le_of_ble_eq_true rfl)) dX3_openRows_18 ⟨Nat.zero_le _, Nat.zero_le _⟩) hW (fun z st6 hp18 H locs hW => ?_)
        obtain ⟨est6, hz⟩ := hp18
        rw [est6] at hW
        refine mk_if_eq (tgt := 34) hx hb dX3_openRows_21 (by decide) (by omega) (fun c_21 => ?_) (fun c_21 => ?_)
        · skip
          have hI2 : IsR (lvb (st 23) (st 24) v) (st 25) (k + 1) R (u 5) := IsR.old (q := 0) hI (fun h => by
            have h8 := lvb_t.mp h
            rw [hf 23 (by decide), hf 24 (by decide)] at hz
            omega)
          refine mk_iinc (w := ((k + 1 : Nat) : Int)) (lv' := [(3, .int (iI ((k + 1 : Nat) : Int))), (0, .ref (ad 4)), (1, .ref (ad 21)), (2, .int (iI v))]) hx hb dX3_openRows_34 hl (k := 3) rfl (by omega) (by decide) rfl (fun ls hl => ?_)
          refine lv_goto (tgt := 7) hx hb dX3_openRows_37 (by decide) ?_
          exact ih7 u (k + 1) R (by omega) hf hR hI2 (by omega) _ _ _ hW (lv_sub hl [1, 2, 3, 0] rfl)
        · skip
          have hL : lvb (st 23) (st 24) v k = true := lvb_t.mpr (by
            rw [hf 23 (by decide), hf 24 (by decide)] at hz
            omega)
          have hRk := hI.le
          refine lv_aload_n hx hb dX3_openRows_24 rfl (lv_at hl 0 rfl) ?_
          refine lv_aload_n hx hb dX3_openRows_25 rfl (lv_at hl 1 rfl) ?_
          refine mk_getN (ci := 0) (C := RX0) (T := TX0) (N := 7) hx hb hts inX0 hown hK hW 21 (by decide) rfl rfl 3 (by decide) fn57 (fun _ h9 => h9) rfl dX3_openRows_26 ?_
          refine lv_iload_n hx hb dX3_openRows_29 rfl (lv_at hl 3 rfl) ?_
          refine mk_iald hx hb hK hW 25 (by decide) rfl 0 rfl (j := k) rfl (by omega) (by decide) dX3_openRows_30 ?_
          refine mk_sayi (y := (st 25 k)) (by rw [hf 25 (by decide)]) ?_
          refine mk_goV (va_runV (As := [.int (iI (st 25 k))]) (rest := []) ⟨hx, hb, hml, hown, hts⟩ (c_X3_openRow l cg D ad u (st 25 k) R hR (by omega) (fun r hr => by obtain ⟨k2, h1, -, h3⟩ := hI.1 r hr; have := (hJ.2 k2 (by omega)).2.2.2.1; omega) (hJ.2 k (by omega)).2.2.2.1 hI.2.2) (cwV 1 hts gX3_openRows_X3_openRow rfl rfl rfl (by decide +kernel) ⟨Nat.le_of_ble_eq_true rfl, Nat.le_of_ble_eq_true rfl⟩) (mk_preV hK hN hW 4 (by decide) rfl rfl rfl) rfl rfl hl.1 rfl (lv_room (Nat.le_of_ble_eq_true rfl)) dX3_openRows_31 ⟨Nat.zero_le _, Nat.zero_le _⟩) hW (fun st7 hp31 H locs hW => ?_)
          refine mk_iinc (w := ((k + 1 : Nat) : Int)) (lv' := [(3, .int (iI ((k + 1 : Nat) : Int))), (0, .ref (ad 4)), (1, .ref (ad 21)), (2, .int (iI v))]) hx hb dX3_openRows_34 hl (k := 3) rfl (by omega) (by decide) rfl (fun ls hl => ?_)
          refine lv_goto (tgt := 7) hx hb dX3_openRows_37 (by decide) ?_
          obtain ⟨hf9, hp31⟩ := hp31
          have hf3 : Fr [4, 5] st st7 := hf.tr hf9 [4, 5] (by decide)
          have hI3 : ∃ R2 : Nat, st7 4 9 = R2 ∧ IsR (lvb (st 23) (st 24) v) (st 25) (k + 1) R2 (st7 5) := by
            rcases hp31 with ⟨e9, q, h1, h2⟩ | ⟨e9, q, h1, h2, h3, h4⟩
            · rw [e9]; exact ⟨R, hR, hI.old (fun _ => ⟨h1, h2⟩)⟩
            · exact ⟨R + 1, by rw [e9]; push_cast; rfl, (hI.ins hL h1 h2 h3).congr h4⟩
          obtain ⟨R2, hR2, hI4⟩ := hI3
          exact ih7 st7 (k + 1) R2 (by omega) hf3 hR2 hI4 (by omega) _ _ _ hW (lv_sub hl [1, 2, 3, 0] rfl)
  exact loop7 _ st1 0 0 (Nat.zero_le _) (by rw [est1]; exact Fr.rf.st (by decide)) (by rw [est1]; rfl) IsR.zero (Nat.lt_succ_self _) _ _ _ hW (lv_sub hl [1, 2, 3, 0] rfl)

