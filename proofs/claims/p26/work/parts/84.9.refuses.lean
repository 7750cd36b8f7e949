set_option maxHeartbeats 4000000 in
set_option maxRecDepth 100000 in
theorem c_L_refuses (l : Launch) (cg : Nat → ClassId) (D : va_G) (ad : Nat → Nat) (st : Nat → Nat → Int) (hst : l.stackTraces = false) (b : Nat → Nat → Int) (hX : XI st b) : WK l yL_refuses wsL_refuses ({ frames := 10, cells := 164, slots := 984, locals := 210 }) D vwCl (TY cg) 73 (celX cg) ad st [.ref (ad 0)] (fun z st1 => z = 1 ∧ st1 = st) 164 984 := by
  refine mw_openN (cc := cL_refuses) (maxL := 14) (ret := (some .boolean)) (by decide) rfl (Nat.le_of_ble_eq_true rfl) ?_
  intro p e s m args below meth c hx hb hml hr hown hts hlocks hK hN hargs ls hl hW hxK hxZ hxN
  have hown : s.vm.findClass RL = some m.cls := hown
  have hl : lv_has ls 14 [(0, .ref (ad 0))] := hl
  have F : LX p l s m args meth c cL_refuses 14 wsL_refuses cg D (wA 73 ad) := ⟨hx, hb, hml, hown, hts, hlocks, hst, hK, hN, hxK, hxZ, hxN⟩
  refine rs_head F hW hX hl (fun ls H locs hl hW => ?_)
  refine rs_0_a F hW hX hl (fun ls H locs hl hW => ?_)
  refine rs_0_b F hW hX hl (fun ls H locs hl hW => ?_)
  refine rs_0_c F hW hX hl (fun ls H locs hl hW => ?_)
  refine rs_0_d F hW hX hl (fun ls H locs hl hW => ?_)
  refine rs_0_e F hW hX hl (fun ls H locs hl hW => ?_)
  refine rs_0_f F hW hX hl (fun ls H locs hl hW => ?_)
  refine rs_0_g F hW hX hl (fun ls H locs hl hW => ?_)
  refine rs_0_h F hW hX hl (fun ls H locs hl hW => ?_)
  refine rs_0_i F hW hX hl (fun ls H locs hl hW => ?_)
  refine rs_1_a F hW hX hl (fun ls H locs hl hW => ?_)
  refine rs_1_b F hW hX hl (fun ls H locs hl hW => ?_)
  refine rs_1_c F hW hX hl (fun ls H locs hl hW => ?_)
  refine rs_1_d F hW hX hl (fun ls H locs hl hW => ?_)
  refine rs_1_e F hW hX hl (fun ls H locs hl hW => ?_)
  refine rs_1_f F hW hX hl (fun ls H locs hl hW => ?_)
  refine rs_1_g F hW hX hl (fun ls H locs hl hW => ?_)
  refine rs_1_h F hW hX hl (fun ls H locs hl hW => ?_)
  refine rs_1_i F hW hX hl (fun ls H locs hl hW => ?_)
  refine rs_2_a F hW hX hl (fun ls H locs hl hW => ?_)
  refine rs_2_b F hW hX hl (fun ls H locs hl hW => ?_)
  refine rs_2_c F hW hX hl (fun ls H locs hl hW => ?_)
  refine rs_2_d F hW hX hl (fun ls H locs hl hW => ?_)
  refine rs_2_e F hW hX hl (fun ls H locs hl hW => ?_)
  refine rs_2_f F hW hX hl (fun ls H locs hl hW => ?_)
  refine rs_2_g F hW hX hl (fun ls H locs hl hW => ?_)
  refine rs_2_h F hW hX hl (fun ls H locs hl hW => ?_)
  refine rs_2_i F hW hX hl (fun ls H locs hl hW => ?_)
  refine rs_3_a F hW hX hl (fun ls H locs hl hW => ?_)
  refine rs_3_b F hW hX hl (fun ls H locs hl hW => ?_)
  refine rs_3_c F hW hX hl (fun ls H locs hl hW => ?_)
  refine rs_3_d F hW hX hl (fun ls H locs hl hW => ?_)
  refine rs_3_e F hW hX hl (fun ls H locs hl hW => ?_)
  refine rs_3_f F hW hX hl (fun ls H locs hl hW => ?_)
  refine rs_3_g F hW hX hl (fun ls H locs hl hW => ?_)
  refine rs_3_h F hW hX hl (fun ls H locs hl hW => ?_)
  refine rs_3_i F hW hX hl (fun ls H locs hl hW => ?_)
  refine rs_out F hW hX hl (fun ls H locs hl hW => ?_)
  refine lv_aload_n hx hb dL_refuses_666 rfl (lv_at hl 13 rfl) ?_
  refine mk_goI (va_runV (As := []) (rest := []) ⟨hx, hb, hml, hown, hts⟩ (c_X5_trades l cg D ad st b hX) (cwV 0 hts gL_refuses_X5_trades rfl rfl rfl (by decide +kernel) ⟨Nat.le_of_ble_eq_true rfl, Nat.le_of_ble_eq_true rfl⟩) (mk_preV hK hN hW 0 (by decide) rfl rfl rfl) rfl rfl hl.1 rfl (lv_room (Nat.le_of_ble_eq_true rfl)) dL_refuses_667 ⟨Nat.le_of_ble_eq_true rfl, Nat.le_of_ble_eq_true rfl⟩) hW (fun z st1 hp H locs hW => ?_)
  obtain ⟨e1, e2⟩ := hp
  rw [e1] at hW
  subst e2
  refine lv_iload_n hx hb dL_refuses_670 rfl (lv_at hl 12 rfl) ?_
  refine lv_icmp_ne (tgt := 699) hx hb dL_refuses_671 (by decide) (fun h => absurd rfl h) (fun _ => ?_)
  refine lv_aload_n hx hb dL_refuses_674 rfl (lv_at hl 13 rfl) ?_
  refine mk_iconst hx hb (0) dL_refuses_675 ?_
  refine mk_goI (va_runV (As := [.int (iI 0)]) (rest := []) ⟨hx, hb, hml, hown, hts⟩ (c_X5_net l cg D ad st b hX 0 (by decide)) (cwV 1 hts gL_refuses_X5_net rfl rfl rfl (by decide +kernel) ⟨Nat.le_of_ble_eq_true rfl, Nat.le_of_ble_eq_true rfl⟩) (mk_preV hK hN hW 0 (by decide) rfl rfl rfl) rfl rfl hl.1 rfl (lv_room (Nat.le_of_ble_eq_true rfl)) dL_refuses_676 ⟨Nat.le_of_ble_eq_true rfl, Nat.le_of_ble_eq_true rfl⟩) hW (fun z st1 hp H locs hW => ?_)
  obtain ⟨e1, e2⟩ := hp
  rw [e1] at hW
  subst e2
  refine lv_iload_n hx hb dL_refuses_679 rfl (lv_at hl 11 rfl) ?_
  refine lv_icmp_ne (tgt := 699) hx hb dL_refuses_680 (by decide) (fun h => absurd rfl h) (fun _ => ?_)
  refine lv_aload_n hx hb dL_refuses_683 rfl (lv_at hl 13 rfl) ?_
  refine mk_iconst hx hb (0) dL_refuses_684 ?_
  refine mk_sipush hx hb (1824) (by decide +kernel) dL_refuses_685 ?_
  refine mk_goI (va_runV (As := [.int (iI 0), .int (iI 1824)]) (rest := []) ⟨hx, hb, hml, hown, hts⟩ (c_X5_holding_0 l cg D ad st b hX 1824 (by decide)) (cwV 2 hts gL_refuses_X5_holding rfl rfl rfl (by decide +kernel) ⟨Nat.le_of_ble_eq_true rfl, Nat.le_of_ble_eq_true rfl⟩) (mk_preV hK hN hW 0 (by decide) rfl rfl rfl) rfl rfl hl.1 rfl (lv_room (Nat.le_of_ble_eq_true rfl)) dL_refuses_688 ⟨Nat.le_of_ble_eq_true rfl, Nat.le_of_ble_eq_true rfl⟩) hW (fun z st1 hp H locs hW => ?_)
  obtain ⟨e1, e2⟩ := hp
  rw [e1] at hW
  subst e2
  refine lv_iload_n hx hb dL_refuses_691 rfl (lv_at hl 10 rfl) ?_
  refine lv_icmp_ne (tgt := 699) hx hb dL_refuses_692 (by decide) (fun h => absurd rfl h) (fun _ => ?_)
  refine mk_iconst hx hb (1) dL_refuses_695 ?_
  refine lv_goto (tgt := 700) hx hb dL_refuses_696 (by decide) ?_
  exact mw_retZ hx hb hr hlocks hW (by omega) ⟨rfl, rfl⟩ dL_refuses_700
