set_option maxHeartbeats 400000 in
set_option maxRecDepth 100000 in
theorem c_X4_enter (l : Launch) (cg : Nat → ClassId) (D : va_G) (ad : Nat → Nat) (st : Nat → Nat → Int) (d f : Int) (mm : Nat) (hm : st 1 2 = mm) (h44 : mm < 4) : MV l yX4_enter wsX4_enter ({ frames := 1, cells := 0, slots := 0, locals := 20 }) D vwCl (TY cg) 28 (celL cg) ad st [.ref (ad 1), .int (iI d), .int (iI f)] (fun st1 => st1 = stC (stC (stC st 2 (fnU (st 2) mm d)) 3 (fnU (st 3) mm f)) 1 (fnU (st 1) 2 ((mm : Int) + 1))) := by
  refine mk_open (cc := cX4_enter) (maxL := 3) (ret := none) (by decide) rfl (Nat.le_of_ble_eq_true rfl) ?_
  intro p e s m args below meth c hx hb hml hr hown hts hlocks hK hN hargs ls hl hW
  have hown : s.vm.findClass RX4 = some m.cls := hown
  have hl : lv_has ls 3 [(0, .ref (ad 1)), (1, .int (iI d)), (2, .int (iI f))] := hl
  have inX4 : ∀ w ∈ wsX40, w ∈ wsX4_enter := by decide +kernel
  have fl9 := hts (.fieldLink RX4 9 "GainsReckoner$Splits" "day" "[I") (by decide +kernel)
  have fl18 := hts (.fieldLink RX4 18 "GainsReckoner$Splits" "size" "I") (by decide +kernel)
  have fl15 := hts (.fieldLink RX4 15 "GainsReckoner$Splits" "factor" "[I") (by decide +kernel)
  refine lv_aload_n hx hb dX4_enter_0 rfl (lv_at hl 0 rfl) ?_
  refine mk_goI (va_runV (As := []) (rest := []) ⟨hx, hb, hml, hown, hts⟩ (c_X4_isFull l cg D ad st mm hm (by omega)) (cwV 0 hts gX4_enter_X4_isFull rfl rfl rfl (by decide +kernel) ⟨Nat.le_of_ble_eq_true rfl, Nat.le_of_ble_eq_true rfl⟩) (mk_preV hK hN hW 1 (by decide) rfl rfl rfl) rfl rfl hl.1 rfl (lv_room (Nat.le_of_ble_eq_true rfl)) dX4_enter_1 ⟨Nat.zero_le _, Nat.zero_le _⟩) hW (fun r2 st1 hp1 H locs hW => ?_)
  obtain ⟨rfl, hp1⟩ := hp1
  refine mk_if_eq (tgt := 8) hx hb dX4_enter_4 (by decide) (by omega) (fun c_4 => ?_) (fun c_4 => ?_)
  · skip
    refine lv_aload_n hx hb dX4_enter_8 rfl (lv_at hl 0 rfl) ?_
    refine mk_get (ci := 4) (C := RX4) (T := TX4) (N := 3) hx hb hts inX4 hown hK hW 1 (by decide) rfl rfl 0 (by decide) fl9 (fun _ h9 => h9) rfl dX4_enter_9 ?_
    refine lv_aload_n hx hb dX4_enter_12 rfl (lv_at hl 0 rfl) ?_
    refine mk_get (ci := 4) (C := RX4) (T := TX4) (N := 3) hx hb hts inX4 hown hK hW 1 (by decide) rfl rfl 2 (by decide) fl18 (fun _ h9 => h9) rfl dX4_enter_13 ?_
    refine mk_sayi (y := ((mm : Nat) : Int)) hm ?_
    refine lv_iload_n hx hb dX4_enter_16 rfl (lv_at hl 1 rfl) ?_
    refine mk_iast hx hb hK hW 2 (by decide) (fun _ => rfl) 0 rfl (j := mm) rfl (by omega) (by decide) dX4_enter_17 (fun H locs hW => ?_)
    obtain ⟨st3, est3⟩ : ∃ z, z = stC st1 2 (fnU (st1 2) mm d) := ⟨_, rfl⟩
    rw [← est3] at hW
    refine lv_aload_n hx hb dX4_enter_18 rfl (lv_at hl 0 rfl) ?_
    refine mk_get (ci := 4) (C := RX4) (T := TX4) (N := 3) hx hb hts inX4 hown hK hW 1 (by decide) rfl rfl 1 (by decide) fl15 (fun _ h9 => h9) rfl dX4_enter_19 ?_
    refine lv_aload_n hx hb dX4_enter_22 rfl (lv_at hl 0 rfl) ?_
    refine mk_get (ci := 4) (C := RX4) (T := TX4) (N := 3) hx hb hts inX4 hown hK hW 1 (by decide) rfl rfl 2 (by decide) fl18 (fun _ h9 => h9) rfl dX4_enter_23 ?_
    refine mk_sayi (y := (st1 1 2)) (by rw [show st3 1 = st1 1 from by rw [est3]; exact stC_ne (by decide)]) ?_
    refine mk_sayi (y := ((mm : Nat) : Int)) hm ?_
    refine lv_iload_n hx hb dX4_enter_26 rfl (lv_at hl 2 rfl) ?_
    refine mk_iast hx hb hK hW 3 (by decide) (fun _ => rfl) 0 rfl (j := mm) rfl (by omega) (by decide) dX4_enter_27 (fun H locs hW => ?_)
    obtain ⟨st4, est4⟩ : ∃ z, z = stC st3 3 (fnU (st3 3) mm f) := ⟨_, rfl⟩
    rw [← est4] at hW
    refine lv_aload_n hx hb dX4_enter_28 rfl (lv_at hl 0 rfl) ?_
    refine lv_dup hx hb dX4_enter_29 rfl ?_
    refine mk_get (ci := 4) (C := RX4) (T := TX4) (N := 3) hx hb hts inX4 hown hK hW 1 (by decide) rfl rfl 2 (by decide) fl18 (fun _ h9 => h9) rfl dX4_enter_30 ?_
    refine mk_sayi (y := (st1 1 2)) (by rw [show st4 1 = st3 1 from by rw [est4]; exact stC_ne (by decide), show st3 1 = st1 1 from by rw [est3]; exact stC_ne (by decide)]) ?_
    refine mk_sayi (y := ((mm : Nat) : Int)) hm ?_
    refine mk_iconst hx hb (1) dX4_enter_33 ?_
    refine mk_iadd hx hb dX4_enter_34 ?_
    refine mk_put (ci := 4) (C := RX4) (T := TX4) (N := 3) hx hb hts inX4 tyX4 tyX4_ok nmX4 hown hK hW 1 (by decide) rfl rfl 2 (by decide) fl18 (fun _ h9 => h9) rfl (by decide +kernel) (by decide) rfl dX4_enter_35 (fun H locs hW => ?_)
    obtain ⟨st5, est5⟩ : ∃ z, z = stC st4 1 (fnU (st4 1) 2 (((mm : Nat) : Int) + 1)) := ⟨_, rfl⟩
    rw [← est5] at hW
    exact mk_retV hx hb hr hlocks hW (by subst est3; subst est4; subst est5; rfl) dX4_enter_38
  · skip
    exact absurd c_4 (by omega)

