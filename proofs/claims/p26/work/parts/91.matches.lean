-- matches, in pieces
section SG_matches
variable {p : Program} {l : Launch} {e : Env} {s : State} {m : MethodId} {args : Array Value} {below : List Frame} {meth : Method} {c : Code} {H : Heap} {locs : List Loc} {Q : State → Prop} {ls : Array Slot} {D : va_G} {cg : Nat → ClassId} {ad : Nat → Nat} {st : Nat → Nat → Int}
set_option maxHeartbeats 4000000 in
set_option maxRecDepth 100000 in
theorem bm_s0 (F : LX p l s m args meth c cL_matches 1 wsL_matches cg D (fun q => s.heap.size ≤ q)) (hl : lv_has ls 1 [(0, .ref (ad 0))]) (hW : GW D vwCl 73 (celX cg) ad (fun q => s.heap.size ≤ q) s.heap st H locs) (hX : XI st bm0)
    (kk : ∀ (st : Nat → Nat → Int) (H : Heap) (locs : List Loc), GW D vwCl 73 (celX cg) ad (fun q => s.heap.size ≤ q) s.heap st H locs → XI st bm0 → W p l e (headSpec wsL_matches ({ frames := 11, cells := 572, slots := 6169, locals := 250 })).room s m args below meth c H locs 238 4165 Q (F0 m 78 ls [])) : W p l e (headSpec wsL_matches ({ frames := 11, cells := 572, slots := 6169, locals := 250 })).room s m args below meth c H locs 73 3175 Q (F0 m 8 ls []) := by
  obtain ⟨hx, hb, hml, hown, hts, hlocks, hst, hK, hN, hxK, hxZ, hxN⟩ := id F
  refine lv_aload_n hx hb dL_matches_8 rfl (lv_at hl 0 rfl) ?_
  refine mk_goI (va_runV (As := []) (rest := []) ⟨hx, hb, hml, hown, hts⟩ (c_X5_trades l cg D ad st bm0 hX) (cwV 0 hts gL_matches_X5_trades rfl rfl rfl (by decide +kernel) ⟨Nat.le_of_ble_eq_true rfl, Nat.le_of_ble_eq_true rfl⟩) (mk_preV hK hN hW 0 (by decide) rfl rfl rfl) rfl rfl hl.1 rfl (lv_room (Nat.le_of_ble_eq_true rfl)) dL_matches_9 ⟨Nat.le_of_ble_eq_true rfl, Nat.le_of_ble_eq_true rfl⟩) hW (fun z st1 hp H locs hW => ?_)
  obtain ⟨e1, e2⟩ := hp
  rw [e1] at hW
  refine mk_sayi (y := 0) (e2.trans (by decide +kernel)) ?_
  refine mk_if_ne (tgt := 235) hx hb dL_matches_12 (by decide) (by decide) (fun h => absurd h (by decide)) (fun _ => ?_)
  refine lv_aload_n hx hb dL_matches_15 rfl (lv_at hl 0 rfl) ?_
  refine mk_iconst hx hb (2) dL_matches_16 ?_
  refine mk_goI (va_runV (As := [.int (iI 2)]) (rest := []) ⟨hx, hb, hml, hown, hts⟩ (c_X5_matches_2 l cg D ad st bm0 hX) (cwV 1 hts gL_matches_X5_matches rfl rfl rfl (by decide +kernel) ⟨Nat.le_of_ble_eq_true rfl, Nat.le_of_ble_eq_true rfl⟩) (mk_preV hK hN hW 0 (by decide) rfl rfl rfl) rfl rfl hl.1 rfl (lv_room (Nat.le_of_ble_eq_true rfl)) dL_matches_17 ⟨Nat.le_of_ble_eq_true rfl, Nat.le_of_ble_eq_true rfl⟩) hW (fun z st1 hp H locs hW => ?_)
  obtain ⟨e1, e2⟩ := hp
  rw [e1] at hW
  refine mk_sayi (y := 0) ((ev_see hX (by decide) bm0_rf2).len e2 0 (by decide +kernel)) ?_
  refine mk_if_ne (tgt := 235) hx hb dL_matches_20 (by decide) (by decide) (fun h => absurd h (by decide)) (fun _ => ?_)
  refine lv_aload_n hx hb dL_matches_23 rfl (lv_at hl 0 rfl) ?_
  refine mk_iconst hx hb (4) dL_matches_24 ?_
  refine mk_goI (va_runV (As := [.int (iI 4)]) (rest := []) ⟨hx, hb, hml, hown, hts⟩ (c_X5_net l cg D ad st bm0 hX 4 (by decide)) (cwV 1 hts gL_matches_X5_net rfl rfl rfl (by decide +kernel) ⟨Nat.le_of_ble_eq_true rfl, Nat.le_of_ble_eq_true rfl⟩) (mk_preV hK hN hW 0 (by decide) rfl rfl rfl) rfl rfl hl.1 rfl (lv_room (Nat.le_of_ble_eq_true rfl)) dL_matches_25 ⟨Nat.le_of_ble_eq_true rfl, Nat.le_of_ble_eq_true rfl⟩) hW (fun z st1 hp H locs hW => ?_)
  obtain ⟨e1, e2⟩ := hp
  rw [e1] at hW
  refine mk_sayi (y := 0) ((bm0_ye hX).net 4 (by decide) e2 0 (by decide +kernel)) ?_
  refine mk_if_ne (tgt := 235) hx hb dL_matches_28 (by decide) (by decide) (fun h => absurd h (by decide)) (fun _ => ?_)
  refine lv_aload_n hx hb dL_matches_31 rfl (lv_at hl 0 rfl) ?_
  refine mk_iconst hx hb (4) dL_matches_32 ?_
  refine mk_goI (va_runV (As := [.int (iI 4)]) (rest := []) ⟨hx, hb, hml, hown, hts⟩ (c_X5_carried l cg D ad st bm0 hX 4 (by decide)) (cwV 1 hts gL_matches_X5_carried rfl rfl rfl (by decide +kernel) ⟨Nat.le_of_ble_eq_true rfl, Nat.le_of_ble_eq_true rfl⟩) (mk_preV hK hN hW 0 (by decide) rfl rfl rfl) rfl rfl hl.1 rfl (lv_room (Nat.le_of_ble_eq_true rfl)) dL_matches_33 ⟨Nat.le_of_ble_eq_true rfl, Nat.le_of_ble_eq_true rfl⟩) hW (fun z st1 hp H locs hW => ?_)
  obtain ⟨e1, e2⟩ := hp
  rw [e1] at hW
  refine mk_sayi (y := 0) ((bm0_ye hX).car 4 (by decide) e2 0 (by decide +kernel)) ?_
  refine mk_if_ne (tgt := 235) hx hb dL_matches_36 (by decide) (by decide) (fun h => absurd h (by decide)) (fun _ => ?_)
  refine lv_aload_n hx hb dL_matches_39 rfl (lv_at hl 0 rfl) ?_
  refine mk_iconst hx hb (1) dL_matches_40 ?_
  refine mk_iconst hx hb (0) dL_matches_41 ?_
  refine mk_goI (va_runV (As := [.int (iI 1), .int (iI 0)]) (rest := []) ⟨hx, hb, hml, hown, hts⟩ (c_X5_holding_1 l cg D ad st bm0 hX 0 (by decide)) (cwV 2 hts gL_matches_X5_holding rfl rfl rfl (by decide +kernel) ⟨Nat.le_of_ble_eq_true rfl, Nat.le_of_ble_eq_true rfl⟩) (mk_preV hK hN hW 0 (by decide) rfl rfl rfl) rfl rfl hl.1 rfl (lv_room (Nat.le_of_ble_eq_true rfl)) dL_matches_42 ⟨Nat.le_of_ble_eq_true rfl, Nat.le_of_ble_eq_true rfl⟩) hW (fun z st1 hp H locs hW => ?_)
  obtain ⟨e1, e2⟩ := hp
  rw [e1] at hW
  refine mk_sayi (y := 0) (e2.trans (by decide +kernel)) ?_
  refine mk_if_ne (tgt := 235) hx hb dL_matches_45 (by decide) (by decide) (fun h => absurd h (by decide)) (fun _ => ?_)
  refine lv_aload_n hx hb dL_matches_48 rfl (lv_at hl 0 rfl) ?_
  refine mk_iconst hx hb (0) dL_matches_49 ?_
  refine mk_iconst hx hb (0) dL_matches_50 ?_
  refine mk_goI (va_runV (As := [.int (iI 0), .int (iI 0)]) (rest := []) ⟨hx, hb, hml, hown, hts⟩ (c_X5_poolUnits_0 l cg D ad st bm0 hX 0 (by decide)) (cwV 2 hts gL_matches_X5_poolUnits rfl rfl rfl (by decide +kernel) ⟨Nat.le_of_ble_eq_true rfl, Nat.le_of_ble_eq_true rfl⟩) (mk_preV hK hN hW 0 (by decide) rfl rfl rfl) rfl rfl hl.1 rfl (lv_room (Nat.le_of_ble_eq_true rfl)) dL_matches_51 ⟨Nat.le_of_ble_eq_true rfl, Nat.le_of_ble_eq_true rfl⟩) hW (fun z st1 hp H locs hW => ?_)
  obtain ⟨e1, e2⟩ := hp
  rw [e1] at hW
  refine mk_sayi (y := 0) ((ev_see hX (by decide) bm0_rf0).pu e2 0 0 (by decide +kernel)) ?_
  refine mk_if_ne (tgt := 235) hx hb dL_matches_54 (by decide) (by decide) (fun h => absurd h (by decide)) (fun _ => ?_)
  refine lv_aload_n hx hb dL_matches_57 rfl (lv_at hl 0 rfl) ?_
  refine mw_goIs (va_runS (As := [.ref (ad 0)]) (rest := []) ⟨hx, hb, hml, hown, hts⟩ (c_L_refuses l cg D ad st hst bm0 hX) (cwS 1 hts gL_matches_L_refuses rfl rfl rfl (by decide +kernel) ⟨Nat.le_of_ble_eq_true rfl, Nat.le_of_ble_eq_true rfl⟩) (mw_preS hK hN hxK hxZ hxN hW) rfl rfl hl.1 rfl (lv_room (Nat.le_of_ble_eq_true rfl)) dL_matches_58 ⟨Nat.le_of_ble_eq_true rfl, Nat.le_of_ble_eq_true rfl⟩) hW (fun z st1 hp H locs hW => ?_)
  obtain ⟨e1, e2⟩ := hp
  rw [e2] at hW
  subst e1
  refine mk_if_eq (tgt := 235) hx hb dL_matches_61 (by decide) (by decide) (fun h => absurd h (by decide)) (fun _ => ?_)
  refine lv_aload_n hx hb dL_matches_64 rfl (lv_at hl 0 rfl) ?_
  refine mk_iconst hx hb (1) dL_matches_65 ?_
  refine mk_iconst hx hb (0) dL_matches_66 ?_
  refine mk_iconst hx hb (5) dL_matches_67 ?_
  refine mk_iconst hx hb (1) dL_matches_68 ?_
  refine mk_iconst hx hb (1) dL_matches_69 ?_
  refine mw_goIs (vx_runSW (As := [.ref (ad 0), .int (iI 1), .int (iI 0), .int (iI 5), .int (iI 1), .int (iI 1)]) (rest := []) ⟨hx, hb, hml, hown, hts⟩ (c_L_act_sell_no3 l cg D ad st 0 5 1 1 (c_X5_sell_noS_0 l cg D ad st hst bm0 hX 5 1 1 (by decide) (by decide) (by decide) (by decide +kernel) ⟨5, (by decide +kernel), (by decide +kernel)⟩)) (vx_cwSW 6 hts gL_matches_L_act rfl rfl rfl (by decide +kernel) ⟨Nat.le_of_ble_eq_true rfl, Nat.le_of_ble_eq_true rfl⟩) (mw_preS hK hN hxK hxZ hxN hW) rfl rfl hl.1 rfl (lv_room (Nat.le_of_ble_eq_true rfl)) dL_matches_70 ⟨Nat.le_of_ble_eq_true rfl, Nat.le_of_ble_eq_true rfl⟩) hW (fun z st1 hp H locs hW => ?_)
  obtain ⟨e1, e2⟩ := hp
  rw [e2] at hW
  subst e1
  refine mk_bipush hx hb (-93) (by decide +kernel) dL_matches_73 ?_
  refine mk_icmp_ne (tgt := 235) hx hb dL_matches_75 (by decide) (by decide) (by decide) (fun h => absurd h (by decide)) (fun _ => ?_)
  exact kk _ _ _ hW hX
set_option maxHeartbeats 4000000 in
set_option maxRecDepth 100000 in
theorem bm_s1 (F : LX p l s m args meth c cL_matches 1 wsL_matches cg D (fun q => s.heap.size ≤ q)) (hl : lv_has ls 1 [(0, .ref (ad 0))]) (hW : GW D vwCl 73 (celX cg) ad (fun q => s.heap.size ≤ q) s.heap st H locs) (hX : XI st bm0)
    (kk : ∀ (st : Nat → Nat → Int) (H : Heap) (locs : List Loc), GW D vwCl 73 (celX cg) ad (fun q => s.heap.size ≤ q) s.heap st H locs → XI st bm2 → W p l e (headSpec wsL_matches ({ frames := 11, cells := 572, slots := 6169, locals := 250 })).room s m args below meth c H locs 239 4171 Q (F0 m 187 ls [])) : W p l e (headSpec wsL_matches ({ frames := 11, cells := 572, slots := 6169, locals := 250 })).room s m args below meth c H locs 238 4165 Q (F0 m 78 ls []) := by
  obtain ⟨hx, hb, hml, hown, hts, hlocks, hst, hK, hN, hxK, hxZ, hxN⟩ := id F
  refine lv_aload_n hx hb dL_matches_78 rfl (lv_at hl 0 rfl) ?_
  refine mk_iconst hx hb (0) dL_matches_79 ?_
  refine mk_bipush hx hb (10) (by decide +kernel) dL_matches_80 ?_
  refine mk_bipush hx hb (100) (by decide +kernel) dL_matches_82 ?_
  refine mk_sipush hx hb (1000) (by decide +kernel) dL_matches_84 ?_
  refine mk_goI (va_runV (As := [.int (iI 0), .int (iI 10), .int (iI 100), .int (iI 1000)]) (rest := []) ⟨hx, hb, hml, hown, hts⟩ (c_X5_buy_0 l cg D ad st bm0 hX 10 100 1000 (by decide +kernel) (by decide) (by decide) (by decide)) (cwV 4 hts gL_matches_X5_buy rfl rfl rfl (by decide +kernel) ⟨Nat.le_of_ble_eq_true rfl, Nat.le_of_ble_eq_true rfl⟩) (mk_preV hK hN hW 0 (by decide) rfl rfl rfl) rfl rfl hl.1 rfl (lv_room (Nat.le_of_ble_eq_true rfl)) dL_matches_87 ⟨Nat.le_of_ble_eq_true rfl, Nat.le_of_ble_eq_true rfl⟩) hW (fun z st1 hp H locs hW => ?_)
  obtain ⟨e1, e2⟩ := hp
  have hX := e1.be bm1_eq
  obtain ⟨st, e3⟩ : ∃ q, q = st1 := ⟨_, rfl⟩
  rw [← e3] at hW hX
  refine mk_sayi (y := 0) (e2.trans (by decide +kernel)) ?_
  refine mk_if_ne (tgt := 235) hx hb dL_matches_90 (by decide) (by decide) (fun h => absurd h (by decide)) (fun _ => ?_)
  refine lv_aload_n hx hb dL_matches_93 rfl (lv_at hl 0 rfl) ?_
  refine mk_iconst hx hb (1) dL_matches_94 ?_
  refine mk_iconst hx hb (0) dL_matches_95 ?_
  refine mk_bipush hx hb (9) (by decide +kernel) dL_matches_96 ?_
  refine mk_iconst hx hb (1) dL_matches_98 ?_
  refine mk_iconst hx hb (1) dL_matches_99 ?_
  refine mw_goIs (vx_runSW (As := [.ref (ad 0), .int (iI 1), .int (iI 0), .int (iI 9), .int (iI 1), .int (iI 1)]) (rest := []) ⟨hx, hb, hml, hown, hts⟩ (c_L_act_sell_no3 l cg D ad st 0 9 1 1 (c_X5_sell_noS_0 l cg D ad st hst bm1 hX 9 1 1 (by decide) (by decide) (by decide) (by decide +kernel) ⟨9, (by decide +kernel), (by decide +kernel)⟩)) (vx_cwSW 6 hts gL_matches_L_act rfl rfl rfl (by decide +kernel) ⟨Nat.le_of_ble_eq_true rfl, Nat.le_of_ble_eq_true rfl⟩) (mw_preS hK hN hxK hxZ hxN hW) rfl rfl hl.1 rfl (lv_room (Nat.le_of_ble_eq_true rfl)) dL_matches_100 ⟨Nat.le_of_ble_eq_true rfl, Nat.le_of_ble_eq_true rfl⟩) hW (fun z st1 hp H locs hW => ?_)
  obtain ⟨e1, e2⟩ := hp
  rw [e2] at hW
  subst e1
  refine mk_bipush hx hb (-93) (by decide +kernel) dL_matches_103 ?_
  refine mk_icmp_ne (tgt := 235) hx hb dL_matches_105 (by decide) (by decide) (by decide) (fun h => absurd h (by decide)) (fun _ => ?_)
  refine lv_aload_n hx hb dL_matches_108 rfl (lv_at hl 0 rfl) ?_
  refine mk_iconst hx hb (0) dL_matches_109 ?_
  refine mk_bipush hx hb (20) (by decide +kernel) dL_matches_110 ?_
  refine mk_bipush hx hb (40) (by decide +kernel) dL_matches_112 ?_
  refine mk_sipush hx hb (600) (by decide +kernel) dL_matches_114 ?_
  refine mk_goI (va_runV (As := [.int (iI 0), .int (iI 20), .int (iI 40), .int (iI 600)]) (rest := []) ⟨hx, hb, hml, hown, hts⟩ (c_X5_sell_0 l cg D ad st bm1 hX 20 40 600 (by decide +kernel) (by decide) (by decide) (by decide) (ev_sp_ok hX (by decide) (by decide +kernel))) (cwV 4 hts gL_matches_X5_sell rfl rfl rfl (by decide +kernel) ⟨Nat.le_of_ble_eq_true rfl, Nat.le_of_ble_eq_true rfl⟩) (mk_preV hK hN hW 0 (by decide) rfl rfl rfl) rfl rfl hl.1 rfl (lv_room (Nat.le_of_ble_eq_true rfl)) dL_matches_117 ⟨Nat.le_of_ble_eq_true rfl, Nat.le_of_ble_eq_true rfl⟩) hW (fun z st1 hp H locs hW => ?_)
  obtain ⟨e1, e2⟩ := hp
  have hX := e1.be bm2_eq
  obtain ⟨st, e3⟩ : ∃ q, q = st1 := ⟨_, rfl⟩
  rw [← e3] at hW hX
  refine mk_sayi (y := 1) (e2.trans (by decide +kernel)) ?_
  refine mk_iconst hx hb (1) dL_matches_120 ?_
  refine mk_icmp_ne (tgt := 235) hx hb dL_matches_121 (by decide) (by decide) (by decide) (fun h => absurd h (by decide)) (fun _ => ?_)
  refine lv_aload_n hx hb dL_matches_124 rfl (lv_at hl 0 rfl) ?_
  refine mk_iconst hx hb (0) dL_matches_125 ?_
  refine mk_goI (va_runV (As := [.int (iI 0)]) (rest := []) ⟨hx, hb, hml, hown, hts⟩ (c_X5_matches_0 l cg D ad st bm2 hX) (cwV 1 hts gL_matches_X5_matches rfl rfl rfl (by decide +kernel) ⟨Nat.le_of_ble_eq_true rfl, Nat.le_of_ble_eq_true rfl⟩) (mk_preV hK hN hW 0 (by decide) rfl rfl rfl) rfl rfl hl.1 rfl (lv_room (Nat.le_of_ble_eq_true rfl)) dL_matches_126 ⟨Nat.le_of_ble_eq_true rfl, Nat.le_of_ble_eq_true rfl⟩) hW (fun z st1 hp H locs hW => ?_)
  obtain ⟨e1, e2⟩ := hp
  rw [e1] at hW
  refine mk_sayi (y := 1) ((ev_see hX (by decide) bm2_rf0).len e2 1 (by decide +kernel)) ?_
  refine mk_iconst hx hb (1) dL_matches_129 ?_
  refine mk_icmp_ne (tgt := 235) hx hb dL_matches_130 (by decide) (by decide) (by decide) (fun h => absurd h (by decide)) (fun _ => ?_)
  refine lv_aload_n hx hb dL_matches_133 rfl (lv_at hl 0 rfl) ?_
  refine mk_iconst hx hb (0) dL_matches_134 ?_
  refine mk_iconst hx hb (0) dL_matches_135 ?_
  refine mk_iconst hx hb (2) dL_matches_136 ?_
  refine mk_bipush hx hb (20) (by decide +kernel) dL_matches_137 ?_
  refine mk_iconst hx hb (-1) dL_matches_139 ?_
  refine mk_bipush hx hb (40) (by decide +kernel) dL_matches_140 ?_
  refine mk_sipush hx hb (400) (by decide +kernel) dL_matches_142 ?_
  refine mk_sipush hx hb (600) (by decide +kernel) dL_matches_145 ?_
  refine mk_goI (va_runS (As := [.ref (ad 0), .int (iI 0), .int (iI 0), .int (iI 2), .int (iI 20), .int (iI (-1)), .int (iI 40), .int (iI 400), .int (iI 600)]) (rest := []) ⟨hx, hb, hml, hown, hts⟩ (c_L_is_0 l cg D ad st bm2 hX 0 2 20 (-1) 40 400 600 ((ev_see hX (by decide) bm2_rf0).mt 0 rfl (by decide +kernel))) (cwS 9 hts gL_matches_L_is rfl rfl rfl (by decide +kernel) ⟨Nat.le_of_ble_eq_true rfl, Nat.le_of_ble_eq_true rfl⟩) (mk_preS hK hN hW) rfl rfl hl.1 rfl (lv_room (Nat.le_of_ble_eq_true rfl)) dL_matches_148 ⟨Nat.le_of_ble_eq_true rfl, Nat.le_of_ble_eq_true rfl⟩) hW (fun z st1 hp H locs hW => ?_)
  obtain ⟨e1, e2⟩ := hp
  rw [e2] at hW
  subst e1
  refine mk_if_eq (tgt := 235) hx hb dL_matches_151 (by decide) (by decide) (fun h => absurd h (by decide)) (fun _ => ?_)
  refine lv_aload_n hx hb dL_matches_154 rfl (lv_at hl 0 rfl) ?_
  refine mk_iconst hx hb (0) dL_matches_155 ?_
  refine mk_iconst hx hb (0) dL_matches_156 ?_
  refine mk_goI (va_runV (As := [.int (iI 0), .int (iI 0)]) (rest := []) ⟨hx, hb, hml, hown, hts⟩ (c_X5_gain_0 l cg D ad st bm2 hX 0 (by decide)) (cwV 2 hts gL_matches_X5_gain rfl rfl rfl (by decide +kernel) ⟨Nat.le_of_ble_eq_true rfl, Nat.le_of_ble_eq_true rfl⟩) (mk_preV hK hN hW 0 (by decide) rfl rfl rfl) rfl rfl hl.1 rfl (lv_room (Nat.le_of_ble_eq_true rfl)) dL_matches_157 ⟨Nat.le_of_ble_eq_true rfl, Nat.le_of_ble_eq_true rfl⟩) hW (fun z st1 hp H locs hW => ?_)
  obtain ⟨e1, e2⟩ := hp
  rw [e1] at hW
  refine mk_sayi (y := 200) ((ev_see hX (by decide) bm2_rf0).gain e2 200 (by decide +kernel)) ?_
  refine mk_sipush hx hb (200) (by decide +kernel) dL_matches_160 ?_
  refine mk_icmp_ne (tgt := 235) hx hb dL_matches_163 (by decide) (by decide) (by decide) (fun h => absurd h (by decide)) (fun _ => ?_)
  refine lv_aload_n hx hb dL_matches_166 rfl (lv_at hl 0 rfl) ?_
  refine mk_iconst hx hb (0) dL_matches_167 ?_
  refine mk_iconst hx hb (1) dL_matches_168 ?_
  refine mk_goI (va_runV (As := [.int (iI 0), .int (iI 1)]) (rest := []) ⟨hx, hb, hml, hown, hts⟩ (c_X5_gain_0 l cg D ad st bm2 hX 1 (by decide)) (cwV 2 hts gL_matches_X5_gain rfl rfl rfl (by decide +kernel) ⟨Nat.le_of_ble_eq_true rfl, Nat.le_of_ble_eq_true rfl⟩) (mk_preV hK hN hW 0 (by decide) rfl rfl rfl) rfl rfl hl.1 rfl (lv_room (Nat.le_of_ble_eq_true rfl)) dL_matches_169 ⟨Nat.le_of_ble_eq_true rfl, Nat.le_of_ble_eq_true rfl⟩) hW (fun z st1 hp H locs hW => ?_)
  obtain ⟨e1, e2⟩ := hp
  rw [e1] at hW
  refine mk_sayi (y := 0) ((ev_see hX (by decide) bm2_rf0).gain e2 0 (by decide +kernel)) ?_
  refine mk_if_ne (tgt := 235) hx hb dL_matches_172 (by decide) (by decide) (fun h => absurd h (by decide)) (fun _ => ?_)
  refine lv_aload_n hx hb dL_matches_175 rfl (lv_at hl 0 rfl) ?_
  refine mk_iconst hx hb (0) dL_matches_176 ?_
  refine mk_bipush hx hb (19) (by decide +kernel) dL_matches_177 ?_
  refine mk_goI (va_runV (As := [.int (iI 0), .int (iI 19)]) (rest := []) ⟨hx, hb, hml, hown, hts⟩ (c_X5_poolUnits_0 l cg D ad st bm2 hX 19 (by decide)) (cwV 2 hts gL_matches_X5_poolUnits rfl rfl rfl (by decide +kernel) ⟨Nat.le_of_ble_eq_true rfl, Nat.le_of_ble_eq_true rfl⟩) (mk_preV hK hN hW 0 (by decide) rfl rfl rfl) rfl rfl hl.1 rfl (lv_room (Nat.le_of_ble_eq_true rfl)) dL_matches_179 ⟨Nat.le_of_ble_eq_true rfl, Nat.le_of_ble_eq_true rfl⟩) hW (fun z st1 hp H locs hW => ?_)
  obtain ⟨e1, e2⟩ := hp
  rw [e1] at hW
  refine mk_sayi (y := 100) ((ev_see hX (by decide) bm2_rf0).pu e2 1 100 (by decide +kernel)) ?_
  refine mk_bipush hx hb (100) (by decide +kernel) dL_matches_182 ?_
  refine mk_icmp_ne (tgt := 235) hx hb dL_matches_184 (by decide) (by decide) (by decide) (fun h => absurd h (by decide)) (fun _ => ?_)
  exact kk _ _ _ hW hX
set_option maxHeartbeats 4000000 in
set_option maxRecDepth 100000 in
theorem bm_s2 (F : LX p l s m args meth c cL_matches 1 wsL_matches cg D (fun q => s.heap.size ≤ q)) (hl : lv_has ls 1 [(0, .ref (ad 0))]) (hW : GW D vwCl 73 (celX cg) ad (fun q => s.heap.size ≤ q) s.heap st H locs) (hX : XI st bm2)
    (kk : ∀ (st : Nat → Nat → Int) (H : Heap) (locs : List Loc), GW D vwCl 73 (celX cg) ad (fun q => s.heap.size ≤ q) s.heap st H locs → XI st bm3 → W p l e (headSpec wsL_matches ({ frames := 11, cells := 572, slots := 6169, locals := 250 })).room s m args below meth c H locs 239 4171 Q (F0 m 304 ls [])) : W p l e (headSpec wsL_matches ({ frames := 11, cells := 572, slots := 6169, locals := 250 })).room s m args below meth c H locs 239 4171 Q (F0 m 187 ls []) := by
  obtain ⟨hx, hb, hml, hown, hts, hlocks, hst, hK, hN, hxK, hxZ, hxN⟩ := id F
  refine lv_aload_n hx hb dL_matches_187 rfl (lv_at hl 0 rfl) ?_
  refine mk_iconst hx hb (0) dL_matches_188 ?_
  refine mk_bipush hx hb (20) (by decide +kernel) dL_matches_189 ?_
  refine mk_goI (va_runV (As := [.int (iI 0), .int (iI 20)]) (rest := []) ⟨hx, hb, hml, hown, hts⟩ (c_X5_poolUnits_0 l cg D ad st bm2 hX 20 (by decide)) (cwV 2 hts gL_matches_X5_poolUnits rfl rfl rfl (by decide +kernel) ⟨Nat.le_of_ble_eq_true rfl, Nat.le_of_ble_eq_true rfl⟩) (mk_preV hK hN hW 0 (by decide) rfl rfl rfl) rfl rfl hl.1 rfl (lv_room (Nat.le_of_ble_eq_true rfl)) dL_matches_191 ⟨Nat.le_of_ble_eq_true rfl, Nat.le_of_ble_eq_true rfl⟩) hW (fun z st1 hp H locs hW => ?_)
  obtain ⟨e1, e2⟩ := hp
  rw [e1] at hW
  refine mk_sayi (y := 60) ((ev_see hX (by decide) bm2_rf0).pu e2 2 60 (by decide +kernel)) ?_
  refine mk_bipush hx hb (60) (by decide +kernel) dL_matches_194 ?_
  refine mk_icmp_ne (tgt := 235) hx hb dL_matches_196 (by decide) (by decide) (by decide) (fun h => absurd h (by decide)) (fun _ => ?_)
  refine lv_aload_n hx hb dL_matches_199 rfl (lv_at hl 0 rfl) ?_
  refine mk_iconst hx hb (0) dL_matches_200 ?_
  refine mk_bipush hx hb (20) (by decide +kernel) dL_matches_201 ?_
  refine mk_goI (va_runV (As := [.int (iI 0), .int (iI 20)]) (rest := []) ⟨hx, hb, hml, hown, hts⟩ (c_X5_poolCost_0 l cg D ad st bm2 hX 20 (by decide)) (cwV 2 hts gL_matches_X5_poolCost rfl rfl rfl (by decide +kernel) ⟨Nat.le_of_ble_eq_true rfl, Nat.le_of_ble_eq_true rfl⟩) (mk_preV hK hN hW 0 (by decide) rfl rfl rfl) rfl rfl hl.1 rfl (lv_room (Nat.le_of_ble_eq_true rfl)) dL_matches_203 ⟨Nat.le_of_ble_eq_true rfl, Nat.le_of_ble_eq_true rfl⟩) hW (fun z st1 hp H locs hW => ?_)
  obtain ⟨e1, e2⟩ := hp
  rw [e1] at hW
  refine mk_sayi (y := 600) ((ev_see hX (by decide) bm2_rf0).pc e2 2 600 (by decide +kernel)) ?_
  refine mk_sipush hx hb (600) (by decide +kernel) dL_matches_206 ?_
  refine mk_icmp_ne (tgt := 235) hx hb dL_matches_209 (by decide) (by decide) (by decide) (fun h => absurd h (by decide)) (fun _ => ?_)
  refine lv_aload_n hx hb dL_matches_212 rfl (lv_at hl 0 rfl) ?_
  refine mk_iconst hx hb (0) dL_matches_213 ?_
  refine mk_bipush hx hb (9) (by decide +kernel) dL_matches_214 ?_
  refine mk_goI (va_runV (As := [.int (iI 0), .int (iI 9)]) (rest := []) ⟨hx, hb, hml, hown, hts⟩ (c_X5_holding_0 l cg D ad st bm2 hX 9 (by decide)) (cwV 2 hts gL_matches_X5_holding rfl rfl rfl (by decide +kernel) ⟨Nat.le_of_ble_eq_true rfl, Nat.le_of_ble_eq_true rfl⟩) (mk_preV hK hN hW 0 (by decide) rfl rfl rfl) rfl rfl hl.1 rfl (lv_room (Nat.le_of_ble_eq_true rfl)) dL_matches_216 ⟨Nat.le_of_ble_eq_true rfl, Nat.le_of_ble_eq_true rfl⟩) hW (fun z st1 hp H locs hW => ?_)
  obtain ⟨e1, e2⟩ := hp
  rw [e1] at hW
  refine mk_sayi (y := 0) (e2.trans (by decide +kernel)) ?_
  refine mk_if_ne (tgt := 235) hx hb dL_matches_219 (by decide) (by decide) (fun h => absurd h (by decide)) (fun _ => ?_)
  refine lv_aload_n hx hb dL_matches_222 rfl (lv_at hl 0 rfl) ?_
  refine mk_iconst hx hb (0) dL_matches_223 ?_
  refine mk_sipush hx hb (1824) (by decide +kernel) dL_matches_224 ?_
  refine mk_goI (va_runV (As := [.int (iI 0), .int (iI 1824)]) (rest := []) ⟨hx, hb, hml, hown, hts⟩ (c_X5_holding_0 l cg D ad st bm2 hX 1824 (by decide)) (cwV 2 hts gL_matches_X5_holding rfl rfl rfl (by decide +kernel) ⟨Nat.le_of_ble_eq_true rfl, Nat.le_of_ble_eq_true rfl⟩) (mk_preV hK hN hW 0 (by decide) rfl rfl rfl) rfl rfl hl.1 rfl (lv_room (Nat.le_of_ble_eq_true rfl)) dL_matches_227 ⟨Nat.le_of_ble_eq_true rfl, Nat.le_of_ble_eq_true rfl⟩) hW (fun z st1 hp H locs hW => ?_)
  obtain ⟨e1, e2⟩ := hp
  rw [e1] at hW
  refine mk_sayi (y := 60) (e2.trans (by decide +kernel)) ?_
  refine mk_bipush hx hb (60) (by decide +kernel) dL_matches_230 ?_
  refine mk_icmp_eq (tgt := 237) hx hb dL_matches_232 (by decide) (by decide) (by decide) (fun _ => ?_) (fun h => absurd h (by decide))
  refine lv_aload_n hx hb dL_matches_237 rfl (lv_at hl 0 rfl) ?_
  refine mk_iconst hx hb (0) dL_matches_238 ?_
  refine mk_bipush hx hb (25) (by decide +kernel) dL_matches_239 ?_
  refine mk_bipush hx hb (30) (by decide +kernel) dL_matches_241 ?_
  refine mk_sipush hx hb (450) (by decide +kernel) dL_matches_243 ?_
  refine mk_goI (va_runV (As := [.int (iI 0), .int (iI 25), .int (iI 30), .int (iI 450)]) (rest := []) ⟨hx, hb, hml, hown, hts⟩ (c_X5_buy_0 l cg D ad st bm2 hX 25 30 450 (by decide +kernel) (by decide) (by decide) (by decide)) (cwV 4 hts gL_matches_X5_buy rfl rfl rfl (by decide +kernel) ⟨Nat.le_of_ble_eq_true rfl, Nat.le_of_ble_eq_true rfl⟩) (mk_preV hK hN hW 0 (by decide) rfl rfl rfl) rfl rfl hl.1 rfl (lv_room (Nat.le_of_ble_eq_true rfl)) dL_matches_246 ⟨Nat.le_of_ble_eq_true rfl, Nat.le_of_ble_eq_true rfl⟩) hW (fun z st1 hp H locs hW => ?_)
  obtain ⟨e1, e2⟩ := hp
  have hX := e1.be bm3_eq
  obtain ⟨st, e3⟩ : ∃ q, q = st1 := ⟨_, rfl⟩
  rw [← e3] at hW hX
  refine mk_sayi (y := 2) (e2.trans (by decide +kernel)) ?_
  refine mk_iconst hx hb (2) dL_matches_249 ?_
  refine mk_icmp_ne (tgt := 475) hx hb dL_matches_250 (by decide) (by decide) (by decide) (fun h => absurd h (by decide)) (fun _ => ?_)
  refine lv_aload_n hx hb dL_matches_253 rfl (lv_at hl 0 rfl) ?_
  refine mk_iconst hx hb (0) dL_matches_254 ?_
  refine mk_goI (va_runV (As := [.int (iI 0)]) (rest := []) ⟨hx, hb, hml, hown, hts⟩ (c_X5_matches_0 l cg D ad st bm3 hX) (cwV 1 hts gL_matches_X5_matches rfl rfl rfl (by decide +kernel) ⟨Nat.le_of_ble_eq_true rfl, Nat.le_of_ble_eq_true rfl⟩) (mk_preV hK hN hW 0 (by decide) rfl rfl rfl) rfl rfl hl.1 rfl (lv_room (Nat.le_of_ble_eq_true rfl)) dL_matches_255 ⟨Nat.le_of_ble_eq_true rfl, Nat.le_of_ble_eq_true rfl⟩) hW (fun z st1 hp H locs hW => ?_)
  obtain ⟨e1, e2⟩ := hp
  rw [e1] at hW
  refine mk_sayi (y := 2) ((ev_see hX (by decide) bm3_rf0).len e2 2 (by decide +kernel)) ?_
  refine mk_iconst hx hb (2) dL_matches_258 ?_
  refine mk_icmp_ne (tgt := 475) hx hb dL_matches_259 (by decide) (by decide) (by decide) (fun h => absurd h (by decide)) (fun _ => ?_)
  refine lv_aload_n hx hb dL_matches_262 rfl (lv_at hl 0 rfl) ?_
  refine mk_iconst hx hb (0) dL_matches_263 ?_
  refine mk_iconst hx hb (0) dL_matches_264 ?_
  refine mk_iconst hx hb (1) dL_matches_265 ?_
  refine mk_bipush hx hb (20) (by decide +kernel) dL_matches_266 ?_
  refine mk_bipush hx hb (25) (by decide +kernel) dL_matches_268 ?_
  refine mk_bipush hx hb (30) (by decide +kernel) dL_matches_270 ?_
  refine mk_sipush hx hb (450) (by decide +kernel) dL_matches_272 ?_
  refine mk_sipush hx hb (450) (by decide +kernel) dL_matches_275 ?_
  refine mk_goI (va_runS (As := [.ref (ad 0), .int (iI 0), .int (iI 0), .int (iI 1), .int (iI 20), .int (iI 25), .int (iI 30), .int (iI 450), .int (iI 450)]) (rest := []) ⟨hx, hb, hml, hown, hts⟩ (c_L_is_0 l cg D ad st bm3 hX 0 1 20 25 30 450 450 ((ev_see hX (by decide) bm3_rf0).mt 0 rfl (by decide +kernel))) (cwS 9 hts gL_matches_L_is rfl rfl rfl (by decide +kernel) ⟨Nat.le_of_ble_eq_true rfl, Nat.le_of_ble_eq_true rfl⟩) (mk_preS hK hN hW) rfl rfl hl.1 rfl (lv_room (Nat.le_of_ble_eq_true rfl)) dL_matches_278 ⟨Nat.le_of_ble_eq_true rfl, Nat.le_of_ble_eq_true rfl⟩) hW (fun z st1 hp H locs hW => ?_)
  obtain ⟨e1, e2⟩ := hp
  rw [e2] at hW
  subst e1
  refine mk_if_eq (tgt := 475) hx hb dL_matches_281 (by decide) (by decide) (fun h => absurd h (by decide)) (fun _ => ?_)
  refine lv_aload_n hx hb dL_matches_284 rfl (lv_at hl 0 rfl) ?_
  refine mk_iconst hx hb (0) dL_matches_285 ?_
  refine mk_iconst hx hb (1) dL_matches_286 ?_
  refine mk_iconst hx hb (2) dL_matches_287 ?_
  refine mk_bipush hx hb (20) (by decide +kernel) dL_matches_288 ?_
  refine mk_iconst hx hb (-1) dL_matches_290 ?_
  refine mk_bipush hx hb (10) (by decide +kernel) dL_matches_291 ?_
  refine mk_bipush hx hb (100) (by decide +kernel) dL_matches_293 ?_
  refine mk_sipush hx hb (150) (by decide +kernel) dL_matches_295 ?_
  refine mk_goI (va_runS (As := [.ref (ad 0), .int (iI 0), .int (iI 1), .int (iI 2), .int (iI 20), .int (iI (-1)), .int (iI 10), .int (iI 100), .int (iI 150)]) (rest := []) ⟨hx, hb, hml, hown, hts⟩ (c_L_is_0 l cg D ad st bm3 hX 1 2 20 (-1) 10 100 150 ((ev_see hX (by decide) bm3_rf0).mt 1 rfl (by decide +kernel))) (cwS 9 hts gL_matches_L_is rfl rfl rfl (by decide +kernel) ⟨Nat.le_of_ble_eq_true rfl, Nat.le_of_ble_eq_true rfl⟩) (mk_preS hK hN hW) rfl rfl hl.1 rfl (lv_room (Nat.le_of_ble_eq_true rfl)) dL_matches_298 ⟨Nat.le_of_ble_eq_true rfl, Nat.le_of_ble_eq_true rfl⟩) hW (fun z st1 hp H locs hW => ?_)
  obtain ⟨e1, e2⟩ := hp
  rw [e2] at hW
  subst e1
  refine mk_if_eq (tgt := 475) hx hb dL_matches_301 (by decide) (by decide) (fun h => absurd h (by decide)) (fun _ => ?_)
  exact kk _ _ _ hW hX
set_option maxHeartbeats 4000000 in
set_option maxRecDepth 100000 in
theorem bm_s3 (F : LX p l s m args meth c cL_matches 1 wsL_matches cg D (fun q => s.heap.size ≤ q)) (hl : lv_has ls 1 [(0, .ref (ad 0))]) (hW : GW D vwCl 73 (celX cg) ad (fun q => s.heap.size ≤ q) s.heap st H locs) (hX : XI st bm3)
    (kk : ∀ (st : Nat → Nat → Int) (H : Heap) (locs : List Loc), GW D vwCl 73 (celX cg) ad (fun q => s.heap.size ≤ q) s.heap st H locs → XI st bm4 → W p l e (headSpec wsL_matches ({ frames := 11, cells := 572, slots := 6169, locals := 250 })).room s m args below meth c H locs 239 4171 Q (F0 m 399 ls [])) : W p l e (headSpec wsL_matches ({ frames := 11, cells := 572, slots := 6169, locals := 250 })).room s m args below meth c H locs 239 4171 Q (F0 m 304 ls []) := by
  obtain ⟨hx, hb, hml, hown, hts, hlocks, hst, hK, hN, hxK, hxZ, hxN⟩ := id F
  refine lv_aload_n hx hb dL_matches_304 rfl (lv_at hl 0 rfl) ?_
  refine mk_iconst hx hb (0) dL_matches_305 ?_
  refine mk_iconst hx hb (0) dL_matches_306 ?_
  refine mk_goI (va_runV (As := [.int (iI 0), .int (iI 0)]) (rest := []) ⟨hx, hb, hml, hown, hts⟩ (c_X5_gain_0 l cg D ad st bm3 hX 0 (by decide)) (cwV 2 hts gL_matches_X5_gain rfl rfl rfl (by decide +kernel) ⟨Nat.le_of_ble_eq_true rfl, Nat.le_of_ble_eq_true rfl⟩) (mk_preV hK hN hW 0 (by decide) rfl rfl rfl) rfl rfl hl.1 rfl (lv_room (Nat.le_of_ble_eq_true rfl)) dL_matches_307 ⟨Nat.le_of_ble_eq_true rfl, Nat.le_of_ble_eq_true rfl⟩) hW (fun z st1 hp H locs hW => ?_)
  obtain ⟨e1, e2⟩ := hp
  rw [e1] at hW
  refine mk_sayi (y := 50) ((ev_see hX (by decide) bm3_rf0).gain e2 50 (by decide +kernel)) ?_
  refine mk_bipush hx hb (50) (by decide +kernel) dL_matches_310 ?_
  refine mk_icmp_ne (tgt := 475) hx hb dL_matches_312 (by decide) (by decide) (by decide) (fun h => absurd h (by decide)) (fun _ => ?_)
  refine lv_aload_n hx hb dL_matches_315 rfl (lv_at hl 0 rfl) ?_
  refine mk_iconst hx hb (0) dL_matches_316 ?_
  refine mk_bipush hx hb (24) (by decide +kernel) dL_matches_317 ?_
  refine mk_goI (va_runV (As := [.int (iI 0), .int (iI 24)]) (rest := []) ⟨hx, hb, hml, hown, hts⟩ (c_X5_poolUnits_0 l cg D ad st bm3 hX 24 (by decide)) (cwV 2 hts gL_matches_X5_poolUnits rfl rfl rfl (by decide +kernel) ⟨Nat.le_of_ble_eq_true rfl, Nat.le_of_ble_eq_true rfl⟩) (mk_preV hK hN hW 0 (by decide) rfl rfl rfl) rfl rfl hl.1 rfl (lv_room (Nat.le_of_ble_eq_true rfl)) dL_matches_319 ⟨Nat.le_of_ble_eq_true rfl, Nat.le_of_ble_eq_true rfl⟩) hW (fun z st1 hp H locs hW => ?_)
  obtain ⟨e1, e2⟩ := hp
  rw [e1] at hW
  refine mk_sayi (y := 90) ((ev_see hX (by decide) bm3_rf0).pu e2 2 90 (by decide +kernel)) ?_
  refine mk_bipush hx hb (90) (by decide +kernel) dL_matches_322 ?_
  refine mk_icmp_ne (tgt := 475) hx hb dL_matches_324 (by decide) (by decide) (by decide) (fun h => absurd h (by decide)) (fun _ => ?_)
  refine lv_aload_n hx hb dL_matches_327 rfl (lv_at hl 0 rfl) ?_
  refine mk_iconst hx hb (0) dL_matches_328 ?_
  refine mk_bipush hx hb (24) (by decide +kernel) dL_matches_329 ?_
  refine mk_goI (va_runV (As := [.int (iI 0), .int (iI 24)]) (rest := []) ⟨hx, hb, hml, hown, hts⟩ (c_X5_holding_0 l cg D ad st bm3 hX 24 (by decide)) (cwV 2 hts gL_matches_X5_holding rfl rfl rfl (by decide +kernel) ⟨Nat.le_of_ble_eq_true rfl, Nat.le_of_ble_eq_true rfl⟩) (mk_preV hK hN hW 0 (by decide) rfl rfl rfl) rfl rfl hl.1 rfl (lv_room (Nat.le_of_ble_eq_true rfl)) dL_matches_331 ⟨Nat.le_of_ble_eq_true rfl, Nat.le_of_ble_eq_true rfl⟩) hW (fun z st1 hp H locs hW => ?_)
  obtain ⟨e1, e2⟩ := hp
  rw [e1] at hW
  refine mk_sayi (y := 60) (e2.trans (by decide +kernel)) ?_
  refine mk_bipush hx hb (60) (by decide +kernel) dL_matches_334 ?_
  refine mk_icmp_ne (tgt := 475) hx hb dL_matches_336 (by decide) (by decide) (by decide) (fun h => absurd h (by decide)) (fun _ => ?_)
  refine lv_aload_n hx hb dL_matches_339 rfl (lv_at hl 0 rfl) ?_
  refine mk_iconst hx hb (0) dL_matches_340 ?_
  refine mk_bipush hx hb (25) (by decide +kernel) dL_matches_341 ?_
  refine mk_goI (va_runV (As := [.int (iI 0), .int (iI 25)]) (rest := []) ⟨hx, hb, hml, hown, hts⟩ (c_X5_poolUnits_0 l cg D ad st bm3 hX 25 (by decide)) (cwV 2 hts gL_matches_X5_poolUnits rfl rfl rfl (by decide +kernel) ⟨Nat.le_of_ble_eq_true rfl, Nat.le_of_ble_eq_true rfl⟩) (mk_preV hK hN hW 0 (by decide) rfl rfl rfl) rfl rfl hl.1 rfl (lv_room (Nat.le_of_ble_eq_true rfl)) dL_matches_343 ⟨Nat.le_of_ble_eq_true rfl, Nat.le_of_ble_eq_true rfl⟩) hW (fun z st1 hp H locs hW => ?_)
  obtain ⟨e1, e2⟩ := hp
  rw [e1] at hW
  refine mk_sayi (y := 90) ((ev_see hX (by decide) bm3_rf0).pu e2 3 90 (by decide +kernel)) ?_
  refine mk_bipush hx hb (90) (by decide +kernel) dL_matches_346 ?_
  refine mk_icmp_ne (tgt := 475) hx hb dL_matches_348 (by decide) (by decide) (by decide) (fun h => absurd h (by decide)) (fun _ => ?_)
  refine lv_aload_n hx hb dL_matches_351 rfl (lv_at hl 0 rfl) ?_
  refine mk_iconst hx hb (0) dL_matches_352 ?_
  refine mk_bipush hx hb (25) (by decide +kernel) dL_matches_353 ?_
  refine mk_goI (va_runV (As := [.int (iI 0), .int (iI 25)]) (rest := []) ⟨hx, hb, hml, hown, hts⟩ (c_X5_poolCost_0 l cg D ad st bm3 hX 25 (by decide)) (cwV 2 hts gL_matches_X5_poolCost rfl rfl rfl (by decide +kernel) ⟨Nat.le_of_ble_eq_true rfl, Nat.le_of_ble_eq_true rfl⟩) (mk_preV hK hN hW 0 (by decide) rfl rfl rfl) rfl rfl hl.1 rfl (lv_room (Nat.le_of_ble_eq_true rfl)) dL_matches_355 ⟨Nat.le_of_ble_eq_true rfl, Nat.le_of_ble_eq_true rfl⟩) hW (fun z st1 hp H locs hW => ?_)
  obtain ⟨e1, e2⟩ := hp
  rw [e1] at hW
  refine mk_sayi (y := 900) ((ev_see hX (by decide) bm3_rf0).pc e2 3 900 (by decide +kernel)) ?_
  refine mk_sipush hx hb (900) (by decide +kernel) dL_matches_358 ?_
  refine mk_icmp_ne (tgt := 475) hx hb dL_matches_361 (by decide) (by decide) (by decide) (fun h => absurd h (by decide)) (fun _ => ?_)
  refine lv_aload_n hx hb dL_matches_364 rfl (lv_at hl 0 rfl) ?_
  refine mk_iconst hx hb (0) dL_matches_365 ?_
  refine mk_bipush hx hb (25) (by decide +kernel) dL_matches_366 ?_
  refine mk_goI (va_runV (As := [.int (iI 0), .int (iI 25)]) (rest := []) ⟨hx, hb, hml, hown, hts⟩ (c_X5_holding_0 l cg D ad st bm3 hX 25 (by decide)) (cwV 2 hts gL_matches_X5_holding rfl rfl rfl (by decide +kernel) ⟨Nat.le_of_ble_eq_true rfl, Nat.le_of_ble_eq_true rfl⟩) (mk_preV hK hN hW 0 (by decide) rfl rfl rfl) rfl rfl hl.1 rfl (lv_room (Nat.le_of_ble_eq_true rfl)) dL_matches_368 ⟨Nat.le_of_ble_eq_true rfl, Nat.le_of_ble_eq_true rfl⟩) hW (fun z st1 hp H locs hW => ?_)
  obtain ⟨e1, e2⟩ := hp
  rw [e1] at hW
  refine mk_sayi (y := 90) (e2.trans (by decide +kernel)) ?_
  refine mk_bipush hx hb (90) (by decide +kernel) dL_matches_371 ?_
  refine mk_icmp_ne (tgt := 475) hx hb dL_matches_373 (by decide) (by decide) (by decide) (fun h => absurd h (by decide)) (fun _ => ?_)
  refine lv_aload_n hx hb dL_matches_376 rfl (lv_at hl 0 rfl) ?_
  refine mk_iconst hx hb (0) dL_matches_377 ?_
  refine mk_bipush hx hb (20) (by decide +kernel) dL_matches_378 ?_
  refine mk_iconst hx hb (5) dL_matches_380 ?_
  refine mk_bipush hx hb (70) (by decide +kernel) dL_matches_381 ?_
  refine mk_goI (va_runV (As := [.int (iI 0), .int (iI 20), .int (iI 5), .int (iI 70)]) (rest := []) ⟨hx, hb, hml, hown, hts⟩ (c_X5_buy_0 l cg D ad st bm3 hX 20 5 70 (by decide +kernel) (by decide) (by decide) (by decide)) (cwV 4 hts gL_matches_X5_buy rfl rfl rfl (by decide +kernel) ⟨Nat.le_of_ble_eq_true rfl, Nat.le_of_ble_eq_true rfl⟩) (mk_preV hK hN hW 0 (by decide) rfl rfl rfl) rfl rfl hl.1 rfl (lv_room (Nat.le_of_ble_eq_true rfl)) dL_matches_383 ⟨Nat.le_of_ble_eq_true rfl, Nat.le_of_ble_eq_true rfl⟩) hW (fun z st1 hp H locs hW => ?_)
  obtain ⟨e1, e2⟩ := hp
  have hX := e1.be bm4_eq
  obtain ⟨st, e3⟩ : ∃ q, q = st1 := ⟨_, rfl⟩
  rw [← e3] at hW hX
  refine mk_sayi (y := 3) (e2.trans (by decide +kernel)) ?_
  refine mk_iconst hx hb (3) dL_matches_386 ?_
  refine mk_icmp_ne (tgt := 475) hx hb dL_matches_387 (by decide) (by decide) (by decide) (fun h => absurd h (by decide)) (fun _ => ?_)
  refine lv_aload_n hx hb dL_matches_390 rfl (lv_at hl 0 rfl) ?_
  refine mk_iconst hx hb (0) dL_matches_391 ?_
  refine mk_goI (va_runV (As := [.int (iI 0)]) (rest := []) ⟨hx, hb, hml, hown, hts⟩ (c_X5_matches_0 l cg D ad st bm4 hX) (cwV 1 hts gL_matches_X5_matches rfl rfl rfl (by decide +kernel) ⟨Nat.le_of_ble_eq_true rfl, Nat.le_of_ble_eq_true rfl⟩) (mk_preV hK hN hW 0 (by decide) rfl rfl rfl) rfl rfl hl.1 rfl (lv_room (Nat.le_of_ble_eq_true rfl)) dL_matches_392 ⟨Nat.le_of_ble_eq_true rfl, Nat.le_of_ble_eq_true rfl⟩) hW (fun z st1 hp H locs hW => ?_)
  obtain ⟨e1, e2⟩ := hp
  rw [e1] at hW
  refine mk_sayi (y := 3) ((ev_see hX (by decide) bm4_rf0).len e2 3 (by decide +kernel)) ?_
  refine mk_iconst hx hb (3) dL_matches_395 ?_
  refine mk_icmp_ne (tgt := 475) hx hb dL_matches_396 (by decide) (by decide) (by decide) (fun h => absurd h (by decide)) (fun _ => ?_)
  exact kk _ _ _ hW hX
set_option maxHeartbeats 4000000 in
set_option maxRecDepth 100000 in
theorem bm_s4 (F : LX p l s m args meth c cL_matches 1 wsL_matches cg D (fun q => s.heap.size ≤ q)) (hl : lv_has ls 1 [(0, .ref (ad 0))]) (hW : GW D vwCl 73 (celX cg) ad (fun q => s.heap.size ≤ q) s.heap st H locs) (hX : XI st bm4)
    (kk : ∀ (st : Nat → Nat → Int) (H : Heap) (locs : List Loc), GW D vwCl 73 (celX cg) ad (fun q => s.heap.size ≤ q) s.heap st H locs → XI st bm5 → W p l e (headSpec wsL_matches ({ frames := 11, cells := 572, slots := 6169, locals := 250 })).room s m args below meth c H locs 403 5155 Q (F0 m 517 ls [])) : W p l e (headSpec wsL_matches ({ frames := 11, cells := 572, slots := 6169, locals := 250 })).room s m args below meth c H locs 239 4171 Q (F0 m 399 ls []) := by
  obtain ⟨hx, hb, hml, hown, hts, hlocks, hst, hK, hN, hxK, hxZ, hxN⟩ := id F
  refine lv_aload_n hx hb dL_matches_399 rfl (lv_at hl 0 rfl) ?_
  refine mk_iconst hx hb (0) dL_matches_400 ?_
  refine mk_iconst hx hb (0) dL_matches_401 ?_
  refine mk_iconst hx hb (0) dL_matches_402 ?_
  refine mk_bipush hx hb (20) (by decide +kernel) dL_matches_403 ?_
  refine mk_bipush hx hb (20) (by decide +kernel) dL_matches_405 ?_
  refine mk_iconst hx hb (5) dL_matches_407 ?_
  refine mk_bipush hx hb (70) (by decide +kernel) dL_matches_408 ?_
  refine mk_bipush hx hb (75) (by decide +kernel) dL_matches_410 ?_
  refine mk_goI (va_runS (As := [.ref (ad 0), .int (iI 0), .int (iI 0), .int (iI 0), .int (iI 20), .int (iI 20), .int (iI 5), .int (iI 70), .int (iI 75)]) (rest := []) ⟨hx, hb, hml, hown, hts⟩ (c_L_is_0 l cg D ad st bm4 hX 0 0 20 20 5 70 75 ((ev_see hX (by decide) bm4_rf0).mt 0 rfl (by decide +kernel))) (cwS 9 hts gL_matches_L_is rfl rfl rfl (by decide +kernel) ⟨Nat.le_of_ble_eq_true rfl, Nat.le_of_ble_eq_true rfl⟩) (mk_preS hK hN hW) rfl rfl hl.1 rfl (lv_room (Nat.le_of_ble_eq_true rfl)) dL_matches_412 ⟨Nat.le_of_ble_eq_true rfl, Nat.le_of_ble_eq_true rfl⟩) hW (fun z st1 hp H locs hW => ?_)
  obtain ⟨e1, e2⟩ := hp
  rw [e2] at hW
  subst e1
  refine mk_if_eq (tgt := 475) hx hb dL_matches_415 (by decide) (by decide) (fun h => absurd h (by decide)) (fun _ => ?_)
  refine lv_aload_n hx hb dL_matches_418 rfl (lv_at hl 0 rfl) ?_
  refine mk_iconst hx hb (0) dL_matches_419 ?_
  refine mk_iconst hx hb (1) dL_matches_420 ?_
  refine mk_iconst hx hb (1) dL_matches_421 ?_
  refine mk_bipush hx hb (20) (by decide +kernel) dL_matches_422 ?_
  refine mk_bipush hx hb (25) (by decide +kernel) dL_matches_424 ?_
  refine mk_bipush hx hb (30) (by decide +kernel) dL_matches_426 ?_
  refine mk_sipush hx hb (450) (by decide +kernel) dL_matches_428 ?_
  refine mk_sipush hx hb (450) (by decide +kernel) dL_matches_431 ?_
  refine mk_goI (va_runS (As := [.ref (ad 0), .int (iI 0), .int (iI 1), .int (iI 1), .int (iI 20), .int (iI 25), .int (iI 30), .int (iI 450), .int (iI 450)]) (rest := []) ⟨hx, hb, hml, hown, hts⟩ (c_L_is_0 l cg D ad st bm4 hX 1 1 20 25 30 450 450 ((ev_see hX (by decide) bm4_rf0).mt 1 rfl (by decide +kernel))) (cwS 9 hts gL_matches_L_is rfl rfl rfl (by decide +kernel) ⟨Nat.le_of_ble_eq_true rfl, Nat.le_of_ble_eq_true rfl⟩) (mk_preS hK hN hW) rfl rfl hl.1 rfl (lv_room (Nat.le_of_ble_eq_true rfl)) dL_matches_434 ⟨Nat.le_of_ble_eq_true rfl, Nat.le_of_ble_eq_true rfl⟩) hW (fun z st1 hp H locs hW => ?_)
  obtain ⟨e1, e2⟩ := hp
  rw [e2] at hW
  subst e1
  refine mk_if_eq (tgt := 475) hx hb dL_matches_437 (by decide) (by decide) (fun h => absurd h (by decide)) (fun _ => ?_)
  refine lv_aload_n hx hb dL_matches_440 rfl (lv_at hl 0 rfl) ?_
  refine mk_iconst hx hb (0) dL_matches_441 ?_
  refine mk_iconst hx hb (2) dL_matches_442 ?_
  refine mk_iconst hx hb (2) dL_matches_443 ?_
  refine mk_bipush hx hb (20) (by decide +kernel) dL_matches_444 ?_
  refine mk_iconst hx hb (-1) dL_matches_446 ?_
  refine mk_iconst hx hb (5) dL_matches_447 ?_
  refine mk_bipush hx hb (50) (by decide +kernel) dL_matches_448 ?_
  refine mk_bipush hx hb (75) (by decide +kernel) dL_matches_450 ?_
  refine mk_goI (va_runS (As := [.ref (ad 0), .int (iI 0), .int (iI 2), .int (iI 2), .int (iI 20), .int (iI (-1)), .int (iI 5), .int (iI 50), .int (iI 75)]) (rest := []) ⟨hx, hb, hml, hown, hts⟩ (c_L_is_0 l cg D ad st bm4 hX 2 2 20 (-1) 5 50 75 ((ev_see hX (by decide) bm4_rf0).mt 2 rfl (by decide +kernel))) (cwS 9 hts gL_matches_L_is rfl rfl rfl (by decide +kernel) ⟨Nat.le_of_ble_eq_true rfl, Nat.le_of_ble_eq_true rfl⟩) (mk_preS hK hN hW) rfl rfl hl.1 rfl (lv_room (Nat.le_of_ble_eq_true rfl)) dL_matches_452 ⟨Nat.le_of_ble_eq_true rfl, Nat.le_of_ble_eq_true rfl⟩) hW (fun z st1 hp H locs hW => ?_)
  obtain ⟨e1, e2⟩ := hp
  rw [e2] at hW
  subst e1
  refine mk_if_eq (tgt := 475) hx hb dL_matches_455 (by decide) (by decide) (fun h => absurd h (by decide)) (fun _ => ?_)
  refine lv_aload_n hx hb dL_matches_458 rfl (lv_at hl 0 rfl) ?_
  refine mk_iconst hx hb (0) dL_matches_459 ?_
  refine mk_goI (va_runV (As := [.int (iI 0)]) (rest := []) ⟨hx, hb, hml, hown, hts⟩ (c_X5_net l cg D ad st bm4 hX 0 (by decide)) (cwV 1 hts gL_matches_X5_net rfl rfl rfl (by decide +kernel) ⟨Nat.le_of_ble_eq_true rfl, Nat.le_of_ble_eq_true rfl⟩) (mk_preV hK hN hW 0 (by decide) rfl rfl rfl) rfl rfl hl.1 rfl (lv_room (Nat.le_of_ble_eq_true rfl)) dL_matches_460 ⟨Nat.le_of_ble_eq_true rfl, Nat.le_of_ble_eq_true rfl⟩) hW (fun z st1 hp H locs hW => ?_)
  obtain ⟨e1, e2⟩ := hp
  rw [e1] at hW
  refine mk_sayi (y := 30) ((bm4_ye hX).net 0 (by decide) e2 30 (by decide +kernel)) ?_
  refine mk_bipush hx hb (30) (by decide +kernel) dL_matches_463 ?_
  refine mk_icmp_ne (tgt := 475) hx hb dL_matches_465 (by decide) (by decide) (by decide) (fun h => absurd h (by decide)) (fun _ => ?_)
  refine lv_aload_n hx hb dL_matches_468 rfl (lv_at hl 0 rfl) ?_
  refine mw_goIs (va_runS (As := [.ref (ad 0)]) (rest := []) ⟨hx, hb, hml, hown, hts⟩ (c_L_refuses l cg D ad st hst bm4 hX) (cwS 1 hts gL_matches_L_refuses rfl rfl rfl (by decide +kernel) ⟨Nat.le_of_ble_eq_true rfl, Nat.le_of_ble_eq_true rfl⟩) (mw_preS hK hN hxK hxZ hxN hW) rfl rfl hl.1 rfl (lv_room (Nat.le_of_ble_eq_true rfl)) dL_matches_469 ⟨Nat.le_of_ble_eq_true rfl, Nat.le_of_ble_eq_true rfl⟩) hW (fun z st1 hp H locs hW => ?_)
  obtain ⟨e1, e2⟩ := hp
  rw [e2] at hW
  subst e1
  refine mk_if_ne (tgt := 477) hx hb dL_matches_472 (by decide) (by decide) (fun _ => ?_) (fun h => absurd h (by decide))
  refine lv_aload_n hx hb dL_matches_477 rfl (lv_at hl 0 rfl) ?_
  refine mk_iconst hx hb (4) dL_matches_478 ?_
  refine mk_goI (va_runV (As := [.int (iI 4)]) (rest := []) ⟨hx, hb, hml, hown, hts⟩ (c_X5_setWindow l cg D ad st bm4 hX 4 (by decide)) (cwV 1 hts gL_matches_X5_setWindow rfl rfl rfl (by decide +kernel) ⟨Nat.le_of_ble_eq_true rfl, Nat.le_of_ble_eq_true rfl⟩) (mk_preV hK hN hW 0 (by decide) rfl rfl rfl) rfl rfl hl.1 rfl (lv_room (Nat.le_of_ble_eq_true rfl)) dL_matches_479 ⟨Nat.le_of_ble_eq_true rfl, Nat.le_of_ble_eq_true rfl⟩) hW (fun z st1 hp H locs hW => ?_)
  obtain ⟨e1, e2⟩ := hp
  have hX := e1.be bm5_eq
  obtain ⟨st, e3⟩ : ∃ q, q = st1 := ⟨_, rfl⟩
  rw [← e3] at hW hX
  refine mk_sayi (y := 30) (e2.trans (by decide +kernel)) ?_
  refine mk_bipush hx hb (30) (by decide +kernel) dL_matches_482 ?_
  refine mk_icmp_ne (tgt := 677) hx hb dL_matches_484 (by decide) (by decide) (by decide) (fun h => absurd h (by decide)) (fun _ => ?_)
  refine lv_aload_n hx hb dL_matches_487 rfl (lv_at hl 0 rfl) ?_
  refine mk_iconst hx hb (0) dL_matches_488 ?_
  refine mk_goI (va_runV (As := [.int (iI 0)]) (rest := []) ⟨hx, hb, hml, hown, hts⟩ (c_X5_matches_0 l cg D ad st bm5 hX) (cwV 1 hts gL_matches_X5_matches rfl rfl rfl (by decide +kernel) ⟨Nat.le_of_ble_eq_true rfl, Nat.le_of_ble_eq_true rfl⟩) (mk_preV hK hN hW 0 (by decide) rfl rfl rfl) rfl rfl hl.1 rfl (lv_room (Nat.le_of_ble_eq_true rfl)) dL_matches_489 ⟨Nat.le_of_ble_eq_true rfl, Nat.le_of_ble_eq_true rfl⟩) hW (fun z st1 hp H locs hW => ?_)
  obtain ⟨e1, e2⟩ := hp
  rw [e1] at hW
  refine mk_sayi (y := 2) ((ev_see hX (by decide) bm5_rf0).len e2 2 (by decide +kernel)) ?_
  refine mk_iconst hx hb (2) dL_matches_492 ?_
  refine mk_icmp_ne (tgt := 677) hx hb dL_matches_493 (by decide) (by decide) (by decide) (fun h => absurd h (by decide)) (fun _ => ?_)
  refine lv_aload_n hx hb dL_matches_496 rfl (lv_at hl 0 rfl) ?_
  refine mk_iconst hx hb (0) dL_matches_497 ?_
  refine mk_iconst hx hb (1) dL_matches_498 ?_
  refine mk_iconst hx hb (2) dL_matches_499 ?_
  refine mk_bipush hx hb (20) (by decide +kernel) dL_matches_500 ?_
  refine mk_iconst hx hb (-1) dL_matches_502 ?_
  refine mk_bipush hx hb (35) (by decide +kernel) dL_matches_503 ?_
  refine mk_sipush hx hb (350) (by decide +kernel) dL_matches_505 ?_
  refine mk_sipush hx hb (525) (by decide +kernel) dL_matches_508 ?_
  refine mk_goI (va_runS (As := [.ref (ad 0), .int (iI 0), .int (iI 1), .int (iI 2), .int (iI 20), .int (iI (-1)), .int (iI 35), .int (iI 350), .int (iI 525)]) (rest := []) ⟨hx, hb, hml, hown, hts⟩ (c_L_is_0 l cg D ad st bm5 hX 1 2 20 (-1) 35 350 525 ((ev_see hX (by decide) bm5_rf0).mt 1 rfl (by decide +kernel))) (cwS 9 hts gL_matches_L_is rfl rfl rfl (by decide +kernel) ⟨Nat.le_of_ble_eq_true rfl, Nat.le_of_ble_eq_true rfl⟩) (mk_preS hK hN hW) rfl rfl hl.1 rfl (lv_room (Nat.le_of_ble_eq_true rfl)) dL_matches_511 ⟨Nat.le_of_ble_eq_true rfl, Nat.le_of_ble_eq_true rfl⟩) hW (fun z st1 hp H locs hW => ?_)
  obtain ⟨e1, e2⟩ := hp
  rw [e2] at hW
  subst e1
  refine mk_if_eq (tgt := 677) hx hb dL_matches_514 (by decide) (by decide) (fun h => absurd h (by decide)) (fun _ => ?_)
  exact kk _ _ _ hW hX
set_option maxHeartbeats 4000000 in
set_option maxRecDepth 100000 in
theorem bm_s5 (F : LX p l s m args meth c cL_matches 1 wsL_matches cg D (fun q => s.heap.size ≤ q)) (hl : lv_has ls 1 [(0, .ref (ad 0))]) (hW : GW D vwCl 73 (celX cg) ad (fun q => s.heap.size ≤ q) s.heap st H locs) (hX : XI st bm5)
    (kk : ∀ (st : Nat → Nat → Int) (H : Heap) (locs : List Loc), GW D vwCl 73 (celX cg) ad (fun q => s.heap.size ≤ q) s.heap st H locs → XI st bm6 → W p l e (headSpec wsL_matches ({ frames := 11, cells := 572, slots := 6169, locals := 250 })).room s m args below meth c H locs 404 5161 Q (F0 m 606 ls [])) : W p l e (headSpec wsL_matches ({ frames := 11, cells := 572, slots := 6169, locals := 250 })).room s m args below meth c H locs 403 5155 Q (F0 m 517 ls []) := by
  obtain ⟨hx, hb, hml, hown, hts, hlocks, hst, hK, hN, hxK, hxZ, hxN⟩ := id F
  refine lv_aload_n hx hb dL_matches_517 rfl (lv_at hl 0 rfl) ?_
  refine mk_iconst hx hb (0) dL_matches_518 ?_
  refine mk_iconst hx hb (0) dL_matches_519 ?_
  refine mk_goI (va_runV (As := [.int (iI 0), .int (iI 0)]) (rest := []) ⟨hx, hb, hml, hown, hts⟩ (c_X5_gain_0 l cg D ad st bm5 hX 0 (by decide)) (cwV 2 hts gL_matches_X5_gain rfl rfl rfl (by decide +kernel) ⟨Nat.le_of_ble_eq_true rfl, Nat.le_of_ble_eq_true rfl⟩) (mk_preV hK hN hW 0 (by decide) rfl rfl rfl) rfl rfl hl.1 rfl (lv_room (Nat.le_of_ble_eq_true rfl)) dL_matches_520 ⟨Nat.le_of_ble_eq_true rfl, Nat.le_of_ble_eq_true rfl⟩) hW (fun z st1 hp H locs hW => ?_)
  obtain ⟨e1, e2⟩ := hp
  rw [e1] at hW
  refine mk_sayi (y := 180) ((ev_see hX (by decide) bm5_rf0).gain e2 180 (by decide +kernel)) ?_
  refine mk_sipush hx hb (180) (by decide +kernel) dL_matches_523 ?_
  refine mk_icmp_ne (tgt := 677) hx hb dL_matches_526 (by decide) (by decide) (by decide) (fun h => absurd h (by decide)) (fun _ => ?_)
  refine lv_aload_n hx hb dL_matches_529 rfl (lv_at hl 0 rfl) ?_
  refine mk_iconst hx hb (0) dL_matches_530 ?_
  refine mk_bipush hx hb (20) (by decide +kernel) dL_matches_531 ?_
  refine mk_goI (va_runV (As := [.int (iI 0), .int (iI 20)]) (rest := []) ⟨hx, hb, hml, hown, hts⟩ (c_X5_poolUnits_0 l cg D ad st bm5 hX 20 (by decide)) (cwV 2 hts gL_matches_X5_poolUnits rfl rfl rfl (by decide +kernel) ⟨Nat.le_of_ble_eq_true rfl, Nat.le_of_ble_eq_true rfl⟩) (mk_preV hK hN hW 0 (by decide) rfl rfl rfl) rfl rfl hl.1 rfl (lv_room (Nat.le_of_ble_eq_true rfl)) dL_matches_533 ⟨Nat.le_of_ble_eq_true rfl, Nat.le_of_ble_eq_true rfl⟩) hW (fun z st1 hp H locs hW => ?_)
  obtain ⟨e1, e2⟩ := hp
  rw [e1] at hW
  refine mk_sayi (y := 65) ((ev_see hX (by decide) bm5_rf0).pu e2 2 65 (by decide +kernel)) ?_
  refine mk_bipush hx hb (65) (by decide +kernel) dL_matches_536 ?_
  refine mk_icmp_ne (tgt := 677) hx hb dL_matches_538 (by decide) (by decide) (by decide) (fun h => absurd h (by decide)) (fun _ => ?_)
  refine lv_aload_n hx hb dL_matches_541 rfl (lv_at hl 0 rfl) ?_
  refine mk_iconst hx hb (0) dL_matches_542 ?_
  refine mk_bipush hx hb (25) (by decide +kernel) dL_matches_543 ?_
  refine mk_goI (va_runV (As := [.int (iI 0), .int (iI 25)]) (rest := []) ⟨hx, hb, hml, hown, hts⟩ (c_X5_poolUnits_0 l cg D ad st bm5 hX 25 (by decide)) (cwV 2 hts gL_matches_X5_poolUnits rfl rfl rfl (by decide +kernel) ⟨Nat.le_of_ble_eq_true rfl, Nat.le_of_ble_eq_true rfl⟩) (mk_preV hK hN hW 0 (by decide) rfl rfl rfl) rfl rfl hl.1 rfl (lv_room (Nat.le_of_ble_eq_true rfl)) dL_matches_545 ⟨Nat.le_of_ble_eq_true rfl, Nat.le_of_ble_eq_true rfl⟩) hW (fun z st1 hp H locs hW => ?_)
  obtain ⟨e1, e2⟩ := hp
  rw [e1] at hW
  refine mk_sayi (y := 95) ((ev_see hX (by decide) bm5_rf0).pu e2 3 95 (by decide +kernel)) ?_
  refine mk_bipush hx hb (95) (by decide +kernel) dL_matches_548 ?_
  refine mk_icmp_ne (tgt := 677) hx hb dL_matches_550 (by decide) (by decide) (by decide) (fun h => absurd h (by decide)) (fun _ => ?_)
  refine lv_aload_n hx hb dL_matches_553 rfl (lv_at hl 0 rfl) ?_
  refine mk_iconst hx hb (0) dL_matches_554 ?_
  refine mk_bipush hx hb (25) (by decide +kernel) dL_matches_555 ?_
  refine mk_goI (va_runV (As := [.int (iI 0), .int (iI 25)]) (rest := []) ⟨hx, hb, hml, hown, hts⟩ (c_X5_poolCost_0 l cg D ad st bm5 hX 25 (by decide)) (cwV 2 hts gL_matches_X5_poolCost rfl rfl rfl (by decide +kernel) ⟨Nat.le_of_ble_eq_true rfl, Nat.le_of_ble_eq_true rfl⟩) (mk_preV hK hN hW 0 (by decide) rfl rfl rfl) rfl rfl hl.1 rfl (lv_room (Nat.le_of_ble_eq_true rfl)) dL_matches_557 ⟨Nat.le_of_ble_eq_true rfl, Nat.le_of_ble_eq_true rfl⟩) hW (fun z st1 hp H locs hW => ?_)
  obtain ⟨e1, e2⟩ := hp
  rw [e1] at hW
  refine mk_sayi (y := 1100) ((ev_see hX (by decide) bm5_rf0).pc e2 3 1100 (by decide +kernel)) ?_
  refine mk_sipush hx hb (1100) (by decide +kernel) dL_matches_560 ?_
  refine mk_icmp_ne (tgt := 677) hx hb dL_matches_563 (by decide) (by decide) (by decide) (fun h => absurd h (by decide)) (fun _ => ?_)
  refine lv_aload_n hx hb dL_matches_566 rfl (lv_at hl 0 rfl) ?_
  refine mk_iconst hx hb (5) dL_matches_567 ?_
  refine mk_goI (va_runV (As := [.int (iI 5)]) (rest := []) ⟨hx, hb, hml, hown, hts⟩ (c_X5_setWindow l cg D ad st bm5 hX 5 (by decide)) (cwV 1 hts gL_matches_X5_setWindow rfl rfl rfl (by decide +kernel) ⟨Nat.le_of_ble_eq_true rfl, Nat.le_of_ble_eq_true rfl⟩) (mk_preV hK hN hW 0 (by decide) rfl rfl rfl) rfl rfl hl.1 rfl (lv_room (Nat.le_of_ble_eq_true rfl)) dL_matches_568 ⟨Nat.le_of_ble_eq_true rfl, Nat.le_of_ble_eq_true rfl⟩) hW (fun z st1 hp H locs hW => ?_)
  obtain ⟨e1, e2⟩ := hp
  have hX := e1.be bm6_eq
  obtain ⟨st, e3⟩ : ∃ q, q = st1 := ⟨_, rfl⟩
  rw [← e3] at hW hX
  refine mk_sayi (y := 4) (e2.trans (by decide +kernel)) ?_
  refine mk_iconst hx hb (4) dL_matches_571 ?_
  refine mk_icmp_ne (tgt := 677) hx hb dL_matches_572 (by decide) (by decide) (by decide) (fun h => absurd h (by decide)) (fun _ => ?_)
  refine lv_aload_n hx hb dL_matches_575 rfl (lv_at hl 0 rfl) ?_
  refine mk_iconst hx hb (0) dL_matches_576 ?_
  refine mk_goI (va_runV (As := [.int (iI 0)]) (rest := []) ⟨hx, hb, hml, hown, hts⟩ (c_X5_matches_0 l cg D ad st bm6 hX) (cwV 1 hts gL_matches_X5_matches rfl rfl rfl (by decide +kernel) ⟨Nat.le_of_ble_eq_true rfl, Nat.le_of_ble_eq_true rfl⟩) (mk_preV hK hN hW 0 (by decide) rfl rfl rfl) rfl rfl hl.1 rfl (lv_room (Nat.le_of_ble_eq_true rfl)) dL_matches_577 ⟨Nat.le_of_ble_eq_true rfl, Nat.le_of_ble_eq_true rfl⟩) hW (fun z st1 hp H locs hW => ?_)
  obtain ⟨e1, e2⟩ := hp
  rw [e1] at hW
  refine mk_sayi (y := 3) ((ev_see hX (by decide) bm6_rf0).len e2 3 (by decide +kernel)) ?_
  refine mk_iconst hx hb (3) dL_matches_580 ?_
  refine mk_icmp_ne (tgt := 677) hx hb dL_matches_581 (by decide) (by decide) (by decide) (fun h => absurd h (by decide)) (fun _ => ?_)
  refine lv_aload_n hx hb dL_matches_584 rfl (lv_at hl 0 rfl) ?_
  refine mk_iconst hx hb (0) dL_matches_585 ?_
  refine mw_goIs (vx_runSW (As := [.ref (ad 0), .int (iI 0)]) (rest := []) ⟨hx, hb, hml, hown, hts⟩ (c_L_cancel_cancel_no3 l cg D ad st 0 (c_X5_cancel_noS_0 l cg D ad st hst bm6 hX 0 (by decide +kernel) (by decide +kernel) (by decide +kernel) (by decide +kernel) ⟨20, (by decide +kernel), (by decide +kernel)⟩)) (vx_cwSW 2 hts gL_matches_L_cancel rfl rfl rfl (by decide +kernel) ⟨Nat.le_of_ble_eq_true rfl, Nat.le_of_ble_eq_true rfl⟩) (mw_preS hK hN hxK hxZ hxN hW) rfl rfl hl.1 rfl (lv_room (Nat.le_of_ble_eq_true rfl)) dL_matches_586 ⟨Nat.le_of_ble_eq_true rfl, Nat.le_of_ble_eq_true rfl⟩) hW (fun z st1 hp H locs hW => ?_)
  obtain ⟨e1, e2⟩ := hp
  rw [e2] at hW
  subst e1
  refine mk_bipush hx hb (-93) (by decide +kernel) dL_matches_589 ?_
  refine mk_icmp_ne (tgt := 677) hx hb dL_matches_591 (by decide) (by decide) (by decide) (fun h => absurd h (by decide)) (fun _ => ?_)
  refine lv_aload_n hx hb dL_matches_594 rfl (lv_at hl 0 rfl) ?_
  refine mk_iconst hx hb (0) dL_matches_595 ?_
  refine mk_bipush hx hb (10) (by decide +kernel) dL_matches_596 ?_
  refine mk_goI (va_runV (As := [.int (iI 0), .int (iI 10)]) (rest := []) ⟨hx, hb, hml, hown, hts⟩ (c_X5_holding_0 l cg D ad st bm6 hX 10 (by decide)) (cwV 2 hts gL_matches_X5_holding rfl rfl rfl (by decide +kernel) ⟨Nat.le_of_ble_eq_true rfl, Nat.le_of_ble_eq_true rfl⟩) (mk_preV hK hN hW 0 (by decide) rfl rfl rfl) rfl rfl hl.1 rfl (lv_room (Nat.le_of_ble_eq_true rfl)) dL_matches_598 ⟨Nat.le_of_ble_eq_true rfl, Nat.le_of_ble_eq_true rfl⟩) hW (fun z st1 hp H locs hW => ?_)
  obtain ⟨e1, e2⟩ := hp
  rw [e1] at hW
  refine mk_sayi (y := 100) (e2.trans (by decide +kernel)) ?_
  refine mk_bipush hx hb (100) (by decide +kernel) dL_matches_601 ?_
  refine mk_icmp_ne (tgt := 677) hx hb dL_matches_603 (by decide) (by decide) (by decide) (fun h => absurd h (by decide)) (fun _ => ?_)
  exact kk _ _ _ hW hX
set_option maxHeartbeats 4000000 in
set_option maxRecDepth 100000 in
theorem bm_s6 (F : LX p l s m args meth c cL_matches 1 wsL_matches cg D (fun q => s.heap.size ≤ q)) (hl : lv_has ls 1 [(0, .ref (ad 0))]) (hW : GW D vwCl 73 (celX cg) ad (fun q => s.heap.size ≤ q) s.heap st H locs) (hX : XI st bm6)
    (kk : ∀ (st : Nat → Nat → Int) (H : Heap) (locs : List Loc), GW D vwCl 73 (celX cg) ad (fun q => s.heap.size ≤ q) s.heap st H locs → XI st bm8 → W p l e (headSpec wsL_matches ({ frames := 11, cells := 572, slots := 6169, locals := 250 })).room s m args below meth c H locs 407 5179 Q (F0 m 687 ls [])) : W p l e (headSpec wsL_matches ({ frames := 11, cells := 572, slots := 6169, locals := 250 })).room s m args below meth c H locs 404 5161 Q (F0 m 606 ls []) := by
  obtain ⟨hx, hb, hml, hown, hts, hlocks, hst, hK, hN, hxK, hxZ, hxN⟩ := id F
  refine lv_aload_n hx hb dL_matches_606 rfl (lv_at hl 0 rfl) ?_
  refine mk_iconst hx hb (2) dL_matches_607 ?_
  refine mw_goIs (vx_runSW (As := [.ref (ad 0), .int (iI 2)]) (rest := []) ⟨hx, hb, hml, hown, hts⟩ (c_L_cancel_cancel_ok l cg D ad st 2 _ (c_X5_cancel_0 l cg D ad st bm6 hX 2 (by decide +kernel) (by decide +kernel) (by decide +kernel) (fun _ => ev_sp_ok hX (by decide) (by decide +kernel)))) (vx_cwSW 2 hts gL_matches_L_cancel rfl rfl rfl (by decide +kernel) ⟨Nat.le_of_ble_eq_true rfl, Nat.le_of_ble_eq_true rfl⟩) (mw_preS hK hN hxK hxZ hxN hW) rfl rfl hl.1 rfl (lv_room (Nat.le_of_ble_eq_true rfl)) dL_matches_608 ⟨Nat.le_of_ble_eq_true rfl, Nat.le_of_ble_eq_true rfl⟩) hW (fun z st1 hp H locs hW => ?_)
  obtain ⟨e1, e2⟩ := hp
  subst e1
  have hX := e2.be bm7_eq
  obtain ⟨st, e3⟩ : ∃ q, q = st1 := ⟨_, rfl⟩
  rw [← e3] at hW hX
  refine mk_if_ne (tgt := 677) hx hb dL_matches_611 (by decide) (by decide) (fun h => absurd h (by decide)) (fun _ => ?_)
  refine lv_aload_n hx hb dL_matches_614 rfl (lv_at hl 0 rfl) ?_
  refine mk_iconst hx hb (2) dL_matches_615 ?_
  refine mw_goIs (vx_runSW (As := [.ref (ad 0), .int (iI 2)]) (rest := []) ⟨hx, hb, hml, hown, hts⟩ (c_L_cancel_cancel_no3 l cg D ad st 2 (c_X5_cancel_noG l cg D ad st hst bm7 hX 2 (by decide +kernel) (by decide +kernel))) (vx_cwSW 2 hts gL_matches_L_cancel rfl rfl rfl (by decide +kernel) ⟨Nat.le_of_ble_eq_true rfl, Nat.le_of_ble_eq_true rfl⟩) (mw_preS hK hN hxK hxZ hxN hW) rfl rfl hl.1 rfl (lv_room (Nat.le_of_ble_eq_true rfl)) dL_matches_616 ⟨Nat.le_of_ble_eq_true rfl, Nat.le_of_ble_eq_true rfl⟩) hW (fun z st1 hp H locs hW => ?_)
  obtain ⟨e1, e2⟩ := hp
  rw [e2] at hW
  subst e1
  refine mk_bipush hx hb (-93) (by decide +kernel) dL_matches_619 ?_
  refine mk_icmp_ne (tgt := 677) hx hb dL_matches_621 (by decide) (by decide) (by decide) (fun h => absurd h (by decide)) (fun _ => ?_)
  refine lv_aload_n hx hb dL_matches_624 rfl (lv_at hl 0 rfl) ?_
  refine mk_iconst hx hb (0) dL_matches_625 ?_
  refine mk_goI (va_runV (As := [.int (iI 0)]) (rest := []) ⟨hx, hb, hml, hown, hts⟩ (c_X5_matches_0 l cg D ad st bm7 hX) (cwV 1 hts gL_matches_X5_matches rfl rfl rfl (by decide +kernel) ⟨Nat.le_of_ble_eq_true rfl, Nat.le_of_ble_eq_true rfl⟩) (mk_preV hK hN hW 0 (by decide) rfl rfl rfl) rfl rfl hl.1 rfl (lv_room (Nat.le_of_ble_eq_true rfl)) dL_matches_626 ⟨Nat.le_of_ble_eq_true rfl, Nat.le_of_ble_eq_true rfl⟩) hW (fun z st1 hp H locs hW => ?_)
  obtain ⟨e1, e2⟩ := hp
  rw [e1] at hW
  refine mk_sayi (y := 2) ((ev_see hX (by decide) bm7_rf0).len e2 2 (by decide +kernel)) ?_
  refine mk_iconst hx hb (2) dL_matches_629 ?_
  refine mk_icmp_ne (tgt := 677) hx hb dL_matches_630 (by decide) (by decide) (by decide) (fun h => absurd h (by decide)) (fun _ => ?_)
  refine lv_aload_n hx hb dL_matches_633 rfl (lv_at hl 0 rfl) ?_
  refine mk_iconst hx hb (0) dL_matches_634 ?_
  refine mk_goI (va_runV (As := [.int (iI 0)]) (rest := []) ⟨hx, hb, hml, hown, hts⟩ (c_X5_costIn_0 l cg D ad st bm7 hX) (cwV 1 hts gL_matches_X5_costIn rfl rfl rfl (by decide +kernel) ⟨Nat.le_of_ble_eq_true rfl, Nat.le_of_ble_eq_true rfl⟩) (mk_preV hK hN hW 0 (by decide) rfl rfl rfl) rfl rfl hl.1 rfl (lv_room (Nat.le_of_ble_eq_true rfl)) dL_matches_635 ⟨Nat.le_of_ble_eq_true rfl, Nat.le_of_ble_eq_true rfl⟩) hW (fun z st1 hp H locs hW => ?_)
  obtain ⟨e1, e2⟩ := hp
  rw [e1] at hW
  refine mk_sayi (y := 1070) (e2.trans (by decide +kernel)) ?_
  refine mk_sipush hx hb (1070) (by decide +kernel) dL_matches_638 ?_
  refine mk_icmp_ne (tgt := 677) hx hb dL_matches_641 (by decide) (by decide) (by decide) (fun h => absurd h (by decide)) (fun _ => ?_)
  refine lv_aload_n hx hb dL_matches_644 rfl (lv_at hl 0 rfl) ?_
  refine mk_iconst hx hb (0) dL_matches_645 ?_
  refine mk_goI (va_runV (As := [.int (iI 0)]) (rest := []) ⟨hx, hb, hml, hown, hts⟩ (c_X5_costMatched_0 l cg D ad st bm7 hX) (cwV 1 hts gL_matches_X5_costMatched rfl rfl rfl (by decide +kernel) ⟨Nat.le_of_ble_eq_true rfl, Nat.le_of_ble_eq_true rfl⟩) (mk_preV hK hN hW 0 (by decide) rfl rfl rfl) rfl rfl hl.1 rfl (lv_room (Nat.le_of_ble_eq_true rfl)) dL_matches_646 ⟨Nat.le_of_ble_eq_true rfl, Nat.le_of_ble_eq_true rfl⟩) hW (fun z st1 hp H locs hW => ?_)
  obtain ⟨e1, e2⟩ := hp
  rw [e1] at hW
  refine mk_sayi (y := 420) ((ev_see hX (by decide) bm7_rf0).cm e2 420 (by decide +kernel)) ?_
  refine mk_sipush hx hb (420) (by decide +kernel) dL_matches_649 ?_
  refine mk_icmp_ne (tgt := 677) hx hb dL_matches_652 (by decide) (by decide) (by decide) (fun h => absurd h (by decide)) (fun _ => ?_)
  refine lv_aload_n hx hb dL_matches_655 rfl (lv_at hl 0 rfl) ?_
  refine mk_iconst hx hb (0) dL_matches_656 ?_
  refine mk_sipush hx hb (1824) (by decide +kernel) dL_matches_657 ?_
  refine mk_goI (va_runV (As := [.int (iI 0), .int (iI 1824)]) (rest := []) ⟨hx, hb, hml, hown, hts⟩ (c_X5_poolCost_0 l cg D ad st bm7 hX 1824 (by decide)) (cwV 2 hts gL_matches_X5_poolCost rfl rfl rfl (by decide +kernel) ⟨Nat.le_of_ble_eq_true rfl, Nat.le_of_ble_eq_true rfl⟩) (mk_preV hK hN hW 0 (by decide) rfl rfl rfl) rfl rfl hl.1 rfl (lv_room (Nat.le_of_ble_eq_true rfl)) dL_matches_660 ⟨Nat.le_of_ble_eq_true rfl, Nat.le_of_ble_eq_true rfl⟩) hW (fun z st1 hp H locs hW => ?_)
  obtain ⟨e1, e2⟩ := hp
  rw [e1] at hW
  refine mk_sayi (y := 650) ((ev_see hX (by decide) bm7_rf0).pc e2 2 650 (by decide +kernel)) ?_
  refine mk_sipush hx hb (650) (by decide +kernel) dL_matches_663 ?_
  refine mk_icmp_ne (tgt := 677) hx hb dL_matches_666 (by decide) (by decide) (by decide) (fun h => absurd h (by decide)) (fun _ => ?_)
  refine lv_aload_n hx hb dL_matches_669 rfl (lv_at hl 0 rfl) ?_
  refine mk_goI (va_runV (As := []) (rest := []) ⟨hx, hb, hml, hown, hts⟩ (c_X5_trades l cg D ad st bm7 hX) (cwV 0 hts gL_matches_X5_trades rfl rfl rfl (by decide +kernel) ⟨Nat.le_of_ble_eq_true rfl, Nat.le_of_ble_eq_true rfl⟩) (mk_preV hK hN hW 0 (by decide) rfl rfl rfl) rfl rfl hl.1 rfl (lv_room (Nat.le_of_ble_eq_true rfl)) dL_matches_670 ⟨Nat.le_of_ble_eq_true rfl, Nat.le_of_ble_eq_true rfl⟩) hW (fun z st1 hp H locs hW => ?_)
  obtain ⟨e1, e2⟩ := hp
  rw [e1] at hW
  refine mk_sayi (y := 4) (e2.trans (by decide +kernel)) ?_
  refine mk_iconst hx hb (4) dL_matches_673 ?_
  refine mk_icmp_eq (tgt := 679) hx hb dL_matches_674 (by decide) (by decide) (by decide) (fun _ => ?_) (fun h => absurd h (by decide))
  refine lv_aload_n hx hb dL_matches_679 rfl (lv_at hl 0 rfl) ?_
  refine mk_iconst hx hb (1) dL_matches_680 ?_
  refine mw_goIs (vx_runSW (As := [.ref (ad 0), .int (iI 1)]) (rest := []) ⟨hx, hb, hml, hown, hts⟩ (c_L_cancel_cancel_ok l cg D ad st 1 _ (c_X5_cancel_0 l cg D ad st bm7 hX 1 (by decide +kernel) (by decide +kernel) (by decide +kernel) (fun h => absurd h (by decide +kernel)))) (vx_cwSW 2 hts gL_matches_L_cancel rfl rfl rfl (by decide +kernel) ⟨Nat.le_of_ble_eq_true rfl, Nat.le_of_ble_eq_true rfl⟩) (mw_preS hK hN hxK hxZ hxN hW) rfl rfl hl.1 rfl (lv_room (Nat.le_of_ble_eq_true rfl)) dL_matches_681 ⟨Nat.le_of_ble_eq_true rfl, Nat.le_of_ble_eq_true rfl⟩) hW (fun z st1 hp H locs hW => ?_)
  obtain ⟨e1, e2⟩ := hp
  subst e1
  have hX := e2.be bm8_eq
  obtain ⟨st, e3⟩ : ∃ q, q = st1 := ⟨_, rfl⟩
  rw [← e3] at hW hX
  refine mk_if_ne (tgt := 738) hx hb dL_matches_684 (by decide) (by decide) (fun h => absurd h (by decide)) (fun _ => ?_)
  exact kk _ _ _ hW hX
set_option maxHeartbeats 4000000 in
set_option maxRecDepth 100000 in
theorem bm_s7 (F : LX p l s m args meth c cL_matches 1 wsL_matches cg D (fun q => s.heap.size ≤ q)) (hl : lv_has ls 1 [(0, .ref (ad 0))]) (hW : GW D vwCl 73 (celX cg) ad (fun q => s.heap.size ≤ q) s.heap st H locs) (hX : XI st bm8)
    (kk : ∀ (st : Nat → Nat → Int) (H : Heap) (locs : List Loc), GW D vwCl 73 (celX cg) ad (fun q => s.heap.size ≤ q) s.heap st H locs → XI st bm9 → W p l e (headSpec wsL_matches ({ frames := 11, cells := 572, slots := 6169, locals := 250 })).room s m args below meth c H locs 572 6169 Q (F0 m 734 ls [])) : W p l e (headSpec wsL_matches ({ frames := 11, cells := 572, slots := 6169, locals := 250 })).room s m args below meth c H locs 407 5179 Q (F0 m 687 ls []) := by
  obtain ⟨hx, hb, hml, hown, hts, hlocks, hst, hK, hN, hxK, hxZ, hxN⟩ := id F
  refine lv_aload_n hx hb dL_matches_687 rfl (lv_at hl 0 rfl) ?_
  refine mk_iconst hx hb (0) dL_matches_688 ?_
  refine mk_goI (va_runV (As := [.int (iI 0)]) (rest := []) ⟨hx, hb, hml, hown, hts⟩ (c_X5_matches_0 l cg D ad st bm8 hX) (cwV 1 hts gL_matches_X5_matches rfl rfl rfl (by decide +kernel) ⟨Nat.le_of_ble_eq_true rfl, Nat.le_of_ble_eq_true rfl⟩) (mk_preV hK hN hW 0 (by decide) rfl rfl rfl) rfl rfl hl.1 rfl (lv_room (Nat.le_of_ble_eq_true rfl)) dL_matches_689 ⟨Nat.le_of_ble_eq_true rfl, Nat.le_of_ble_eq_true rfl⟩) hW (fun z st1 hp H locs hW => ?_)
  obtain ⟨e1, e2⟩ := hp
  rw [e1] at hW
  refine mk_sayi (y := 0) ((ev_see hX (by decide) bm8_rf0).len e2 0 (by decide +kernel)) ?_
  refine mk_if_ne (tgt := 738) hx hb dL_matches_692 (by decide) (by decide) (fun h => absurd h (by decide)) (fun _ => ?_)
  refine lv_aload_n hx hb dL_matches_695 rfl (lv_at hl 0 rfl) ?_
  refine mk_iconst hx hb (0) dL_matches_696 ?_
  refine mw_goIs (vx_runSW (As := [.ref (ad 0), .int (iI 0)]) (rest := []) ⟨hx, hb, hml, hown, hts⟩ (c_L_cancel_cancel_ok l cg D ad st 0 _ (c_X5_cancel_0 l cg D ad st bm8 hX 0 (by decide +kernel) (by decide +kernel) (by decide +kernel) (fun _ => ev_sp_ok hX (by decide) (by decide +kernel)))) (vx_cwSW 2 hts gL_matches_L_cancel rfl rfl rfl (by decide +kernel) ⟨Nat.le_of_ble_eq_true rfl, Nat.le_of_ble_eq_true rfl⟩) (mw_preS hK hN hxK hxZ hxN hW) rfl rfl hl.1 rfl (lv_room (Nat.le_of_ble_eq_true rfl)) dL_matches_697 ⟨Nat.le_of_ble_eq_true rfl, Nat.le_of_ble_eq_true rfl⟩) hW (fun z st1 hp H locs hW => ?_)
  obtain ⟨e1, e2⟩ := hp
  subst e1
  have hX := e2.be bm9_eq
  obtain ⟨st, e3⟩ : ∃ q, q = st1 := ⟨_, rfl⟩
  rw [← e3] at hW hX
  refine mk_if_ne (tgt := 738) hx hb dL_matches_700 (by decide) (by decide) (fun h => absurd h (by decide)) (fun _ => ?_)
  refine lv_aload_n hx hb dL_matches_703 rfl (lv_at hl 0 rfl) ?_
  refine mk_iconst hx hb (0) dL_matches_704 ?_
  refine mk_sipush hx hb (1000) (by decide +kernel) dL_matches_705 ?_
  refine mk_goI (va_runV (As := [.int (iI 0), .int (iI 1000)]) (rest := []) ⟨hx, hb, hml, hown, hts⟩ (c_X5_holding_0 l cg D ad st bm9 hX 1000 (by decide)) (cwV 2 hts gL_matches_X5_holding rfl rfl rfl (by decide +kernel) ⟨Nat.le_of_ble_eq_true rfl, Nat.le_of_ble_eq_true rfl⟩) (mk_preV hK hN hW 0 (by decide) rfl rfl rfl) rfl rfl hl.1 rfl (lv_room (Nat.le_of_ble_eq_true rfl)) dL_matches_708 ⟨Nat.le_of_ble_eq_true rfl, Nat.le_of_ble_eq_true rfl⟩) hW (fun z st1 hp H locs hW => ?_)
  obtain ⟨e1, e2⟩ := hp
  rw [e1] at hW
  refine mk_sayi (y := 5) (e2.trans (by decide +kernel)) ?_
  refine mk_iconst hx hb (5) dL_matches_711 ?_
  refine mk_icmp_ne (tgt := 738) hx hb dL_matches_712 (by decide) (by decide) (by decide) (fun h => absurd h (by decide)) (fun _ => ?_)
  refine lv_aload_n hx hb dL_matches_715 rfl (lv_at hl 0 rfl) ?_
  refine mk_iconst hx hb (0) dL_matches_716 ?_
  refine mk_bipush hx hb (20) (by decide +kernel) dL_matches_717 ?_
  refine mk_goI (va_runV (As := [.int (iI 0), .int (iI 20)]) (rest := []) ⟨hx, hb, hml, hown, hts⟩ (c_X5_poolCost_0 l cg D ad st bm9 hX 20 (by decide)) (cwV 2 hts gL_matches_X5_poolCost rfl rfl rfl (by decide +kernel) ⟨Nat.le_of_ble_eq_true rfl, Nat.le_of_ble_eq_true rfl⟩) (mk_preV hK hN hW 0 (by decide) rfl rfl rfl) rfl rfl hl.1 rfl (lv_room (Nat.le_of_ble_eq_true rfl)) dL_matches_719 ⟨Nat.le_of_ble_eq_true rfl, Nat.le_of_ble_eq_true rfl⟩) hW (fun z st1 hp H locs hW => ?_)
  obtain ⟨e1, e2⟩ := hp
  rw [e1] at hW
  refine mk_sayi (y := 70) ((ev_see hX (by decide) bm9_rf0).pc e2 1 70 (by decide +kernel)) ?_
  refine mk_bipush hx hb (70) (by decide +kernel) dL_matches_722 ?_
  refine mk_icmp_ne (tgt := 738) hx hb dL_matches_724 (by decide) (by decide) (by decide) (fun h => absurd h (by decide)) (fun _ => ?_)
  refine lv_aload_n hx hb dL_matches_727 rfl (lv_at hl 0 rfl) ?_
  refine mw_goIs (va_runS (As := [.ref (ad 0)]) (rest := []) ⟨hx, hb, hml, hown, hts⟩ (c_L_refuses l cg D ad st hst bm9 hX) (cwS 1 hts gL_matches_L_refuses rfl rfl rfl (by decide +kernel) ⟨Nat.le_of_ble_eq_true rfl, Nat.le_of_ble_eq_true rfl⟩) (mw_preS hK hN hxK hxZ hxN hW) rfl rfl hl.1 rfl (lv_room (Nat.le_of_ble_eq_true rfl)) dL_matches_728 ⟨Nat.le_of_ble_eq_true rfl, Nat.le_of_ble_eq_true rfl⟩) hW (fun z st1 hp H locs hW => ?_)
  obtain ⟨e1, e2⟩ := hp
  rw [e2] at hW
  subst e1
  refine mk_if_eq (tgt := 738) hx hb dL_matches_731 (by decide) (by decide) (fun h => absurd h (by decide)) (fun _ => ?_)
  exact kk _ _ _ hW hX
end SG_matches
