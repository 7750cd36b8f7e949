-- splits, in pieces
section SG_splits
variable {p : Program} {l : Launch} {e : Env} {s : State} {m : MethodId} {args : Array Value} {below : List Frame} {meth : Method} {c : Code} {H : Heap} {locs : List Loc} {Q : State → Prop} {ls : Array Slot} {D : va_G} {cg : Nat → ClassId} {ad : Nat → Nat} {st : Nat → Nat → Int}
set_option maxHeartbeats 4000000 in
set_option maxRecDepth 100000 in
theorem bs_s0 (F : LX p l s m args meth c cL_splits 1 wsL_splits cg D (fun q => s.heap.size ≤ q)) (hl : lv_has ls 1 [(0, .ref (ad 0))]) (hW : GW D vwCl 73 (celX cg) ad (fun q => s.heap.size ≤ q) s.heap st H locs) (hX : XI st bs0)
    (kk : ∀ (st : Nat → Nat → Int) (H : Heap) (locs : List Loc), GW D vwCl 73 (celX cg) ad (fun q => s.heap.size ≤ q) s.heap st H locs → XI st bs3 → W p l e (headSpec wsL_splits ({ frames := 11, cells := 242, slots := 4189, locals := 250 })).room s m args below meth c H locs 73 3175 Q (F0 m 126 ls [])) : W p l e (headSpec wsL_splits ({ frames := 11, cells := 242, slots := 4189, locals := 250 })).room s m args below meth c H locs 73 3175 Q (F0 m 8 ls []) := by
  obtain ⟨hx, hb, hml, hown, hts, hlocks, hst, hK, hN, hxK, hxZ, hxN⟩ := id F
  refine lv_aload_n hx hb dL_splits_8 rfl (lv_at hl 0 rfl) ?_
  refine mk_iconst hx hb (1) dL_splits_9 ?_
  refine mk_bipush hx hb (100) (by decide +kernel) dL_splits_10 ?_
  refine mk_bipush hx hb (10) (by decide +kernel) dL_splits_12 ?_
  refine mk_sipush hx hb (1000) (by decide +kernel) dL_splits_14 ?_
  refine mk_goI (va_runV (As := [.int (iI 1), .int (iI 100), .int (iI 10), .int (iI 1000)]) (rest := []) ⟨hx, hb, hml, hown, hts⟩ (c_X5_buy_1 l cg D ad st bs0 hX 100 10 1000 (by decide +kernel) (by decide) (by decide) (by decide)) (cwV 4 hts gL_splits_X5_buy rfl rfl rfl (by decide +kernel) ⟨Nat.le_of_ble_eq_true rfl, Nat.le_of_ble_eq_true rfl⟩) (mk_preV hK hN hW 0 (by decide) rfl rfl rfl) rfl rfl hl.1 rfl (lv_room (Nat.le_of_ble_eq_true rfl)) dL_splits_17 ⟨Nat.le_of_ble_eq_true rfl, Nat.le_of_ble_eq_true rfl⟩) hW (fun z st1 hp H locs hW => ?_)
  obtain ⟨e1, e2⟩ := hp
  have hX := e1.be bs1_eq
  obtain ⟨st, e3⟩ : ∃ q, q = st1 := ⟨_, rfl⟩
  rw [← e3] at hW hX
  refine mk_sayi (y := 0) (e2.trans (by decide +kernel)) ?_
  refine mk_if_ne (tgt := 391) hx hb dL_splits_20 (by decide) (by decide) (fun h => absurd h (by decide)) (fun _ => ?_)
  refine lv_aload_n hx hb dL_splits_23 rfl (lv_at hl 0 rfl) ?_
  refine mk_iconst hx hb (1) dL_splits_24 ?_
  refine mk_sipush hx hb (150) (by decide +kernel) dL_splits_25 ?_
  refine mk_iconst hx hb (3) dL_splits_28 ?_
  refine mk_goI (va_runV (As := [.int (iI 1), .int (iI 150), .int (iI 3)]) (rest := []) ⟨hx, hb, hml, hown, hts⟩ (c_X5_split_1 l cg D ad st bs1 hX 150 3 (by decide) (by decide) (by decide +kernel) (by decide +kernel)) (cwV 3 hts gL_splits_X5_split rfl rfl rfl (by decide +kernel) ⟨Nat.le_of_ble_eq_true rfl, Nat.le_of_ble_eq_true rfl⟩) (mk_preV hK hN hW 0 (by decide) rfl rfl rfl) rfl rfl hl.1 rfl (lv_room (Nat.le_of_ble_eq_true rfl)) dL_splits_29 ⟨Nat.le_of_ble_eq_true rfl, Nat.le_of_ble_eq_true rfl⟩) hW (fun z st1 hp H locs hW => ?_)
  obtain ⟨e1, e2⟩ := hp
  have hX := e1.be bs2_eq
  obtain ⟨st, e3⟩ : ∃ q, q = st1 := ⟨_, rfl⟩
  rw [← e3] at hW hX
  refine mk_sayi (y := 1) (e2.trans (by decide +kernel)) ?_
  refine mk_iconst hx hb (1) dL_splits_32 ?_
  refine mk_icmp_ne (tgt := 391) hx hb dL_splits_33 (by decide) (by decide) (by decide) (fun h => absurd h (by decide)) (fun _ => ?_)
  refine lv_aload_n hx hb dL_splits_36 rfl (lv_at hl 0 rfl) ?_
  refine mk_iconst hx hb (1) dL_splits_37 ?_
  refine mk_sipush hx hb (200) (by decide +kernel) dL_splits_38 ?_
  refine mk_bipush hx hb (15) (by decide +kernel) dL_splits_41 ?_
  refine mk_sipush hx hb (900) (by decide +kernel) dL_splits_43 ?_
  refine mk_goI (va_runV (As := [.int (iI 1), .int (iI 200), .int (iI 15), .int (iI 900)]) (rest := []) ⟨hx, hb, hml, hown, hts⟩ (c_X5_sell_1 l cg D ad st bs2 hX 200 15 900 (by decide +kernel) (by decide) (by decide) (by decide) (ev_sp_ok hX (by decide) (by decide +kernel))) (cwV 4 hts gL_splits_X5_sell rfl rfl rfl (by decide +kernel) ⟨Nat.le_of_ble_eq_true rfl, Nat.le_of_ble_eq_true rfl⟩) (mk_preV hK hN hW 0 (by decide) rfl rfl rfl) rfl rfl hl.1 rfl (lv_room (Nat.le_of_ble_eq_true rfl)) dL_splits_46 ⟨Nat.le_of_ble_eq_true rfl, Nat.le_of_ble_eq_true rfl⟩) hW (fun z st1 hp H locs hW => ?_)
  obtain ⟨e1, e2⟩ := hp
  have hX := e1.be bs3_eq
  obtain ⟨st, e3⟩ : ∃ q, q = st1 := ⟨_, rfl⟩
  rw [← e3] at hW hX
  refine mk_sayi (y := 1) (e2.trans (by decide +kernel)) ?_
  refine mk_iconst hx hb (1) dL_splits_49 ?_
  refine mk_icmp_ne (tgt := 391) hx hb dL_splits_50 (by decide) (by decide) (by decide) (fun h => absurd h (by decide)) (fun _ => ?_)
  refine lv_aload_n hx hb dL_splits_53 rfl (lv_at hl 0 rfl) ?_
  refine mk_iconst hx hb (1) dL_splits_54 ?_
  refine mk_iconst hx hb (0) dL_splits_55 ?_
  refine mk_iconst hx hb (2) dL_splits_56 ?_
  refine mk_sipush hx hb (200) (by decide +kernel) dL_splits_57 ?_
  refine mk_iconst hx hb (-1) dL_splits_60 ?_
  refine mk_bipush hx hb (15) (by decide +kernel) dL_splits_61 ?_
  refine mk_sipush hx hb (500) (by decide +kernel) dL_splits_63 ?_
  refine mk_sipush hx hb (900) (by decide +kernel) dL_splits_66 ?_
  refine mk_goI (va_runS (As := [.ref (ad 0), .int (iI 1), .int (iI 0), .int (iI 2), .int (iI 200), .int (iI (-1)), .int (iI 15), .int (iI 500), .int (iI 900)]) (rest := []) ⟨hx, hb, hml, hown, hts⟩ (c_L_is_1 l cg D ad st bs3 hX 0 2 200 (-1) 15 500 900 ((ev_see hX (by decide) bs3_rf1).mt 0 rfl (by decide +kernel))) (cwS 9 hts gL_splits_L_is rfl rfl rfl (by decide +kernel) ⟨Nat.le_of_ble_eq_true rfl, Nat.le_of_ble_eq_true rfl⟩) (mk_preS hK hN hW) rfl rfl hl.1 rfl (lv_room (Nat.le_of_ble_eq_true rfl)) dL_splits_69 ⟨Nat.le_of_ble_eq_true rfl, Nat.le_of_ble_eq_true rfl⟩) hW (fun z st1 hp H locs hW => ?_)
  obtain ⟨e1, e2⟩ := hp
  rw [e2] at hW
  subst e1
  refine mk_if_eq (tgt := 391) hx hb dL_splits_72 (by decide) (by decide) (fun h => absurd h (by decide)) (fun _ => ?_)
  refine lv_aload_n hx hb dL_splits_75 rfl (lv_at hl 0 rfl) ?_
  refine mk_iconst hx hb (1) dL_splits_76 ?_
  refine mk_sipush hx hb (149) (by decide +kernel) dL_splits_77 ?_
  refine mk_goI (va_runV (As := [.int (iI 1), .int (iI 149)]) (rest := []) ⟨hx, hb, hml, hown, hts⟩ (c_X5_holding_1 l cg D ad st bs3 hX 149 (by decide)) (cwV 2 hts gL_splits_X5_holding rfl rfl rfl (by decide +kernel) ⟨Nat.le_of_ble_eq_true rfl, Nat.le_of_ble_eq_true rfl⟩) (mk_preV hK hN hW 0 (by decide) rfl rfl rfl) rfl rfl hl.1 rfl (lv_room (Nat.le_of_ble_eq_true rfl)) dL_splits_80 ⟨Nat.le_of_ble_eq_true rfl, Nat.le_of_ble_eq_true rfl⟩) hW (fun z st1 hp H locs hW => ?_)
  obtain ⟨e1, e2⟩ := hp
  rw [e1] at hW
  refine mk_sayi (y := 10) (e2.trans (by decide +kernel)) ?_
  refine mk_bipush hx hb (10) (by decide +kernel) dL_splits_83 ?_
  refine mk_icmp_ne (tgt := 391) hx hb dL_splits_85 (by decide) (by decide) (by decide) (fun h => absurd h (by decide)) (fun _ => ?_)
  refine lv_aload_n hx hb dL_splits_88 rfl (lv_at hl 0 rfl) ?_
  refine mk_iconst hx hb (1) dL_splits_89 ?_
  refine mk_sipush hx hb (150) (by decide +kernel) dL_splits_90 ?_
  refine mk_goI (va_runV (As := [.int (iI 1), .int (iI 150)]) (rest := []) ⟨hx, hb, hml, hown, hts⟩ (c_X5_holding_1 l cg D ad st bs3 hX 150 (by decide)) (cwV 2 hts gL_splits_X5_holding rfl rfl rfl (by decide +kernel) ⟨Nat.le_of_ble_eq_true rfl, Nat.le_of_ble_eq_true rfl⟩) (mk_preV hK hN hW 0 (by decide) rfl rfl rfl) rfl rfl hl.1 rfl (lv_room (Nat.le_of_ble_eq_true rfl)) dL_splits_93 ⟨Nat.le_of_ble_eq_true rfl, Nat.le_of_ble_eq_true rfl⟩) hW (fun z st1 hp H locs hW => ?_)
  obtain ⟨e1, e2⟩ := hp
  rw [e1] at hW
  refine mk_sayi (y := 30) (e2.trans (by decide +kernel)) ?_
  refine mk_bipush hx hb (30) (by decide +kernel) dL_splits_96 ?_
  refine mk_icmp_ne (tgt := 391) hx hb dL_splits_98 (by decide) (by decide) (by decide) (fun h => absurd h (by decide)) (fun _ => ?_)
  refine lv_aload_n hx hb dL_splits_101 rfl (lv_at hl 0 rfl) ?_
  refine mk_iconst hx hb (1) dL_splits_102 ?_
  refine mk_sipush hx hb (200) (by decide +kernel) dL_splits_103 ?_
  refine mk_goI (va_runV (As := [.int (iI 1), .int (iI 200)]) (rest := []) ⟨hx, hb, hml, hown, hts⟩ (c_X5_holding_1 l cg D ad st bs3 hX 200 (by decide)) (cwV 2 hts gL_splits_X5_holding rfl rfl rfl (by decide +kernel) ⟨Nat.le_of_ble_eq_true rfl, Nat.le_of_ble_eq_true rfl⟩) (mk_preV hK hN hW 0 (by decide) rfl rfl rfl) rfl rfl hl.1 rfl (lv_room (Nat.le_of_ble_eq_true rfl)) dL_splits_106 ⟨Nat.le_of_ble_eq_true rfl, Nat.le_of_ble_eq_true rfl⟩) hW (fun z st1 hp H locs hW => ?_)
  obtain ⟨e1, e2⟩ := hp
  rw [e1] at hW
  refine mk_sayi (y := 15) (e2.trans (by decide +kernel)) ?_
  refine mk_bipush hx hb (15) (by decide +kernel) dL_splits_109 ?_
  refine mk_icmp_ne (tgt := 391) hx hb dL_splits_111 (by decide) (by decide) (by decide) (fun h => absurd h (by decide)) (fun _ => ?_)
  refine lv_aload_n hx hb dL_splits_114 rfl (lv_at hl 0 rfl) ?_
  refine mk_iconst hx hb (1) dL_splits_115 ?_
  refine mk_bipush hx hb (100) (by decide +kernel) dL_splits_116 ?_
  refine mk_goI (va_runV (As := [.int (iI 1), .int (iI 100)]) (rest := []) ⟨hx, hb, hml, hown, hts⟩ (c_X5_poolUnits_1 l cg D ad st bs3 hX 100 (by decide)) (cwV 2 hts gL_splits_X5_poolUnits rfl rfl rfl (by decide +kernel) ⟨Nat.le_of_ble_eq_true rfl, Nat.le_of_ble_eq_true rfl⟩) (mk_preV hK hN hW 0 (by decide) rfl rfl rfl) rfl rfl hl.1 rfl (lv_room (Nat.le_of_ble_eq_true rfl)) dL_splits_118 ⟨Nat.le_of_ble_eq_true rfl, Nat.le_of_ble_eq_true rfl⟩) hW (fun z st1 hp H locs hW => ?_)
  obtain ⟨e1, e2⟩ := hp
  rw [e1] at hW
  refine mk_sayi (y := 30) ((ev_see hX (by decide) bs3_rf1).pu e2 1 30 (by decide +kernel)) ?_
  refine mk_bipush hx hb (30) (by decide +kernel) dL_splits_121 ?_
  refine mk_icmp_ne (tgt := 391) hx hb dL_splits_123 (by decide) (by decide) (by decide) (fun h => absurd h (by decide)) (fun _ => ?_)
  exact kk _ _ _ hW hX
set_option maxHeartbeats 4000000 in
set_option maxRecDepth 100000 in
theorem bs_s1 (F : LX p l s m args meth c cL_splits 1 wsL_splits cg D (fun q => s.heap.size ≤ q)) (hl : lv_has ls 1 [(0, .ref (ad 0))]) (hW : GW D vwCl 73 (celX cg) ad (fun q => s.heap.size ≤ q) s.heap st H locs) (hX : XI st bs3)
    (kk : ∀ (st : Nat → Nat → Int) (H : Heap) (locs : List Loc), GW D vwCl 73 (celX cg) ad (fun q => s.heap.size ≤ q) s.heap st H locs → XI st bs5 → W p l e (headSpec wsL_splits ({ frames := 11, cells := 242, slots := 4189, locals := 250 })).room s m args below meth c H locs 74 3181 Q (F0 m 244 ls [])) : W p l e (headSpec wsL_splits ({ frames := 11, cells := 242, slots := 4189, locals := 250 })).room s m args below meth c H locs 73 3175 Q (F0 m 126 ls []) := by
  obtain ⟨hx, hb, hml, hown, hts, hlocks, hst, hK, hN, hxK, hxZ, hxN⟩ := id F
  refine lv_aload_n hx hb dL_splits_126 rfl (lv_at hl 0 rfl) ?_
  refine mk_iconst hx hb (1) dL_splits_127 ?_
  refine mk_sipush hx hb (300) (by decide +kernel) dL_splits_128 ?_
  refine mk_bipush hx hb (7) (by decide +kernel) dL_splits_131 ?_
  refine mk_bipush hx hb (100) (by decide +kernel) dL_splits_133 ?_
  refine mk_goI (va_runV (As := [.int (iI 1), .int (iI 300), .int (iI 7), .int (iI 100)]) (rest := []) ⟨hx, hb, hml, hown, hts⟩ (c_X5_buy_1 l cg D ad st bs3 hX 300 7 100 (by decide +kernel) (by decide) (by decide) (by decide)) (cwV 4 hts gL_splits_X5_buy rfl rfl rfl (by decide +kernel) ⟨Nat.le_of_ble_eq_true rfl, Nat.le_of_ble_eq_true rfl⟩) (mk_preV hK hN hW 0 (by decide) rfl rfl rfl) rfl rfl hl.1 rfl (lv_room (Nat.le_of_ble_eq_true rfl)) dL_splits_135 ⟨Nat.le_of_ble_eq_true rfl, Nat.le_of_ble_eq_true rfl⟩) hW (fun z st1 hp H locs hW => ?_)
  obtain ⟨e1, e2⟩ := hp
  have hX := e1.be bs4_eq
  obtain ⟨st, e3⟩ : ∃ q, q = st1 := ⟨_, rfl⟩
  rw [← e3] at hW hX
  refine mk_sayi (y := 2) (e2.trans (by decide +kernel)) ?_
  refine mk_iconst hx hb (2) dL_splits_138 ?_
  refine mk_icmp_ne (tgt := 391) hx hb dL_splits_139 (by decide) (by decide) (by decide) (fun h => absurd h (by decide)) (fun _ => ?_)
  refine lv_aload_n hx hb dL_splits_142 rfl (lv_at hl 0 rfl) ?_
  refine mk_iconst hx hb (1) dL_splits_143 ?_
  refine mk_sipush hx hb (300) (by decide +kernel) dL_splits_144 ?_
  refine mk_iconst hx hb (2) dL_splits_147 ?_
  refine mk_goI (va_runV (As := [.int (iI 1), .int (iI 300), .int (iI 2)]) (rest := []) ⟨hx, hb, hml, hown, hts⟩ (c_X5_split_1 l cg D ad st bs4 hX 300 2 (by decide) (by decide) (by decide +kernel) (by decide +kernel)) (cwV 3 hts gL_splits_X5_split rfl rfl rfl (by decide +kernel) ⟨Nat.le_of_ble_eq_true rfl, Nat.le_of_ble_eq_true rfl⟩) (mk_preV hK hN hW 0 (by decide) rfl rfl rfl) rfl rfl hl.1 rfl (lv_room (Nat.le_of_ble_eq_true rfl)) dL_splits_148 ⟨Nat.le_of_ble_eq_true rfl, Nat.le_of_ble_eq_true rfl⟩) hW (fun z st1 hp H locs hW => ?_)
  obtain ⟨e1, e2⟩ := hp
  have hX := e1.be bs5_eq
  obtain ⟨st, e3⟩ : ∃ q, q = st1 := ⟨_, rfl⟩
  rw [← e3] at hW hX
  refine mk_sayi (y := 2) (e2.trans (by decide +kernel)) ?_
  refine mk_iconst hx hb (2) dL_splits_151 ?_
  refine mk_icmp_ne (tgt := 391) hx hb dL_splits_152 (by decide) (by decide) (by decide) (fun h => absurd h (by decide)) (fun _ => ?_)
  refine lv_aload_n hx hb dL_splits_155 rfl (lv_at hl 0 rfl) ?_
  refine mk_iconst hx hb (2) dL_splits_156 ?_
  refine mk_iconst hx hb (1) dL_splits_157 ?_
  refine mk_sipush hx hb (300) (by decide +kernel) dL_splits_158 ?_
  refine mk_iconst hx hb (5) dL_splits_161 ?_
  refine mk_iconst hx hb (0) dL_splits_162 ?_
  refine mw_goIs (vx_runSW (As := [.ref (ad 0), .int (iI 2), .int (iI 1), .int (iI 300), .int (iI 5), .int (iI 0)]) (rest := []) ⟨hx, hb, hml, hown, hts⟩ (c_L_act_split_no3 l cg D ad st 1 300 5 0 (c_X5_split_noS_1 l cg D ad st hst bs5 hX 300 5 (by decide) (by decide) (Or.inr ⟨1, (by decide +kernel), (by decide +kernel)⟩))) (vx_cwSW 6 hts gL_splits_L_act rfl rfl rfl (by decide +kernel) ⟨Nat.le_of_ble_eq_true rfl, Nat.le_of_ble_eq_true rfl⟩) (mw_preS hK hN hxK hxZ hxN hW) rfl rfl hl.1 rfl (lv_room (Nat.le_of_ble_eq_true rfl)) dL_splits_163 ⟨Nat.le_of_ble_eq_true rfl, Nat.le_of_ble_eq_true rfl⟩) hW (fun z st1 hp H locs hW => ?_)
  obtain ⟨e1, e2⟩ := hp
  rw [e2] at hW
  subst e1
  refine mk_bipush hx hb (-93) (by decide +kernel) dL_splits_166 ?_
  refine mk_icmp_ne (tgt := 391) hx hb dL_splits_168 (by decide) (by decide) (by decide) (fun h => absurd h (by decide)) (fun _ => ?_)
  refine lv_aload_n hx hb dL_splits_171 rfl (lv_at hl 0 rfl) ?_
  refine mk_iconst hx hb (1) dL_splits_172 ?_
  refine mk_sipush hx hb (299) (by decide +kernel) dL_splits_173 ?_
  refine mk_goI (va_runV (As := [.int (iI 1), .int (iI 299)]) (rest := []) ⟨hx, hb, hml, hown, hts⟩ (c_X5_holding_1 l cg D ad st bs5 hX 299 (by decide)) (cwV 2 hts gL_splits_X5_holding rfl rfl rfl (by decide +kernel) ⟨Nat.le_of_ble_eq_true rfl, Nat.le_of_ble_eq_true rfl⟩) (mk_preV hK hN hW 0 (by decide) rfl rfl rfl) rfl rfl hl.1 rfl (lv_room (Nat.le_of_ble_eq_true rfl)) dL_splits_176 ⟨Nat.le_of_ble_eq_true rfl, Nat.le_of_ble_eq_true rfl⟩) hW (fun z st1 hp H locs hW => ?_)
  obtain ⟨e1, e2⟩ := hp
  rw [e1] at hW
  refine mk_sayi (y := 15) (e2.trans (by decide +kernel)) ?_
  refine mk_bipush hx hb (15) (by decide +kernel) dL_splits_179 ?_
  refine mk_icmp_ne (tgt := 391) hx hb dL_splits_181 (by decide) (by decide) (by decide) (fun h => absurd h (by decide)) (fun _ => ?_)
  refine lv_aload_n hx hb dL_splits_184 rfl (lv_at hl 0 rfl) ?_
  refine mk_iconst hx hb (1) dL_splits_185 ?_
  refine mk_sipush hx hb (300) (by decide +kernel) dL_splits_186 ?_
  refine mk_goI (va_runV (As := [.int (iI 1), .int (iI 300)]) (rest := []) ⟨hx, hb, hml, hown, hts⟩ (c_X5_holding_1 l cg D ad st bs5 hX 300 (by decide)) (cwV 2 hts gL_splits_X5_holding rfl rfl rfl (by decide +kernel) ⟨Nat.le_of_ble_eq_true rfl, Nat.le_of_ble_eq_true rfl⟩) (mk_preV hK hN hW 0 (by decide) rfl rfl rfl) rfl rfl hl.1 rfl (lv_room (Nat.le_of_ble_eq_true rfl)) dL_splits_189 ⟨Nat.le_of_ble_eq_true rfl, Nat.le_of_ble_eq_true rfl⟩) hW (fun z st1 hp H locs hW => ?_)
  obtain ⟨e1, e2⟩ := hp
  rw [e1] at hW
  refine mk_sayi (y := 37) (e2.trans (by decide +kernel)) ?_
  refine mk_bipush hx hb (37) (by decide +kernel) dL_splits_192 ?_
  refine mk_icmp_ne (tgt := 391) hx hb dL_splits_194 (by decide) (by decide) (by decide) (fun h => absurd h (by decide)) (fun _ => ?_)
  refine lv_aload_n hx hb dL_splits_197 rfl (lv_at hl 0 rfl) ?_
  refine mk_iconst hx hb (1) dL_splits_198 ?_
  refine mk_bipush hx hb (100) (by decide +kernel) dL_splits_199 ?_
  refine mk_goI (va_runV (As := [.int (iI 1), .int (iI 100)]) (rest := []) ⟨hx, hb, hml, hown, hts⟩ (c_X5_poolUnits_1 l cg D ad st bs5 hX 100 (by decide)) (cwV 2 hts gL_splits_X5_poolUnits rfl rfl rfl (by decide +kernel) ⟨Nat.le_of_ble_eq_true rfl, Nat.le_of_ble_eq_true rfl⟩) (mk_preV hK hN hW 0 (by decide) rfl rfl rfl) rfl rfl hl.1 rfl (lv_room (Nat.le_of_ble_eq_true rfl)) dL_splits_201 ⟨Nat.le_of_ble_eq_true rfl, Nat.le_of_ble_eq_true rfl⟩) hW (fun z st1 hp H locs hW => ?_)
  obtain ⟨e1, e2⟩ := hp
  rw [e1] at hW
  refine mk_sayi (y := 60) ((ev_see hX (by decide) bs5_rf1).pu e2 1 60 (by decide +kernel)) ?_
  refine mk_bipush hx hb (60) (by decide +kernel) dL_splits_204 ?_
  refine mk_icmp_ne (tgt := 391) hx hb dL_splits_206 (by decide) (by decide) (by decide) (fun h => absurd h (by decide)) (fun _ => ?_)
  refine lv_aload_n hx hb dL_splits_209 rfl (lv_at hl 0 rfl) ?_
  refine mk_iconst hx hb (1) dL_splits_210 ?_
  refine mk_iconst hx hb (0) dL_splits_211 ?_
  refine mk_iconst hx hb (2) dL_splits_212 ?_
  refine mk_sipush hx hb (200) (by decide +kernel) dL_splits_213 ?_
  refine mk_iconst hx hb (-1) dL_splits_216 ?_
  refine mk_bipush hx hb (30) (by decide +kernel) dL_splits_217 ?_
  refine mk_sipush hx hb (500) (by decide +kernel) dL_splits_219 ?_
  refine mk_sipush hx hb (900) (by decide +kernel) dL_splits_222 ?_
  refine mk_goI (va_runS (As := [.ref (ad 0), .int (iI 1), .int (iI 0), .int (iI 2), .int (iI 200), .int (iI (-1)), .int (iI 30), .int (iI 500), .int (iI 900)]) (rest := []) ⟨hx, hb, hml, hown, hts⟩ (c_L_is_1 l cg D ad st bs5 hX 0 2 200 (-1) 30 500 900 ((ev_see hX (by decide) bs5_rf1).mt 0 rfl (by decide +kernel))) (cwS 9 hts gL_splits_L_is rfl rfl rfl (by decide +kernel) ⟨Nat.le_of_ble_eq_true rfl, Nat.le_of_ble_eq_true rfl⟩) (mk_preS hK hN hW) rfl rfl hl.1 rfl (lv_room (Nat.le_of_ble_eq_true rfl)) dL_splits_225 ⟨Nat.le_of_ble_eq_true rfl, Nat.le_of_ble_eq_true rfl⟩) hW (fun z st1 hp H locs hW => ?_)
  obtain ⟨e1, e2⟩ := hp
  rw [e2] at hW
  subst e1
  refine mk_if_eq (tgt := 391) hx hb dL_splits_228 (by decide) (by decide) (fun h => absurd h (by decide)) (fun _ => ?_)
  refine lv_aload_n hx hb dL_splits_231 rfl (lv_at hl 0 rfl) ?_
  refine mk_iconst hx hb (1) dL_splits_232 ?_
  refine mk_sipush hx hb (300) (by decide +kernel) dL_splits_233 ?_
  refine mk_goI (va_runV (As := [.int (iI 1), .int (iI 300)]) (rest := []) ⟨hx, hb, hml, hown, hts⟩ (c_X5_poolUnits_1 l cg D ad st bs5 hX 300 (by decide)) (cwV 2 hts gL_splits_X5_poolUnits rfl rfl rfl (by decide +kernel) ⟨Nat.le_of_ble_eq_true rfl, Nat.le_of_ble_eq_true rfl⟩) (mk_preV hK hN hW 0 (by decide) rfl rfl rfl) rfl rfl hl.1 rfl (lv_room (Nat.le_of_ble_eq_true rfl)) dL_splits_236 ⟨Nat.le_of_ble_eq_true rfl, Nat.le_of_ble_eq_true rfl⟩) hW (fun z st1 hp H locs hW => ?_)
  obtain ⟨e1, e2⟩ := hp
  rw [e1] at hW
  refine mk_sayi (y := 37) ((ev_see hX (by decide) bs5_rf1).pu e2 3 37 (by decide +kernel)) ?_
  refine mk_bipush hx hb (37) (by decide +kernel) dL_splits_239 ?_
  refine mk_icmp_ne (tgt := 391) hx hb dL_splits_241 (by decide) (by decide) (by decide) (fun h => absurd h (by decide)) (fun _ => ?_)
  exact kk _ _ _ hW hX
set_option maxHeartbeats 4000000 in
set_option maxRecDepth 100000 in
theorem bs_s2 (F : LX p l s m args meth c cL_splits 1 wsL_splits cg D (fun q => s.heap.size ≤ q)) (hl : lv_has ls 1 [(0, .ref (ad 0))]) (hW : GW D vwCl 73 (celX cg) ad (fun q => s.heap.size ≤ q) s.heap st H locs) (hX : XI st bs5)
    (kk : ∀ (st : Nat → Nat → Int) (H : Heap) (locs : List Loc), GW D vwCl 73 (celX cg) ad (fun q => s.heap.size ≤ q) s.heap st H locs → XI st bs7 → W p l e (headSpec wsL_splits ({ frames := 11, cells := 242, slots := 4189, locals := 250 })).room s m args below meth c H locs 77 3199 Q (F0 m 356 ls [])) : W p l e (headSpec wsL_splits ({ frames := 11, cells := 242, slots := 4189, locals := 250 })).room s m args below meth c H locs 74 3181 Q (F0 m 244 ls []) := by
  obtain ⟨hx, hb, hml, hown, hts, hlocks, hst, hK, hN, hxK, hxZ, hxN⟩ := id F
  refine lv_aload_n hx hb dL_splits_244 rfl (lv_at hl 0 rfl) ?_
  refine mk_iconst hx hb (1) dL_splits_245 ?_
  refine mk_sipush hx hb (300) (by decide +kernel) dL_splits_246 ?_
  refine mk_goI (va_runV (As := [.int (iI 1), .int (iI 300)]) (rest := []) ⟨hx, hb, hml, hown, hts⟩ (c_X5_poolCost_1 l cg D ad st bs5 hX 300 (by decide)) (cwV 2 hts gL_splits_X5_poolCost rfl rfl rfl (by decide +kernel) ⟨Nat.le_of_ble_eq_true rfl, Nat.le_of_ble_eq_true rfl⟩) (mk_preV hK hN hW 0 (by decide) rfl rfl rfl) rfl rfl hl.1 rfl (lv_room (Nat.le_of_ble_eq_true rfl)) dL_splits_249 ⟨Nat.le_of_ble_eq_true rfl, Nat.le_of_ble_eq_true rfl⟩) hW (fun z st1 hp H locs hW => ?_)
  obtain ⟨e1, e2⟩ := hp
  rw [e1] at hW
  refine mk_sayi (y := 600) ((ev_see hX (by decide) bs5_rf1).pc e2 3 600 (by decide +kernel)) ?_
  refine mk_sipush hx hb (600) (by decide +kernel) dL_splits_252 ?_
  refine mk_icmp_ne (tgt := 391) hx hb dL_splits_255 (by decide) (by decide) (by decide) (fun h => absurd h (by decide)) (fun _ => ?_)
  refine lv_aload_n hx hb dL_splits_258 rfl (lv_at hl 0 rfl) ?_
  refine mk_iconst hx hb (1) dL_splits_259 ?_
  refine mk_iconst hx hb (1) dL_splits_260 ?_
  refine mk_sipush hx hb (300) (by decide +kernel) dL_splits_261 ?_
  refine mk_bipush hx hb (38) (by decide +kernel) dL_splits_264 ?_
  refine mk_iconst hx hb (0) dL_splits_266 ?_
  refine mw_goIs (vx_runSW (As := [.ref (ad 0), .int (iI 1), .int (iI 1), .int (iI 300), .int (iI 38), .int (iI 0)]) (rest := []) ⟨hx, hb, hml, hown, hts⟩ (c_L_act_sell_no3 l cg D ad st 1 300 38 0 (c_X5_sell_noS_1 l cg D ad st hst bs5 hX 300 38 0 (by decide) (by decide) (by decide) (by decide +kernel) ⟨300, (by decide +kernel), (by decide +kernel)⟩)) (vx_cwSW 6 hts gL_splits_L_act rfl rfl rfl (by decide +kernel) ⟨Nat.le_of_ble_eq_true rfl, Nat.le_of_ble_eq_true rfl⟩) (mw_preS hK hN hxK hxZ hxN hW) rfl rfl hl.1 rfl (lv_room (Nat.le_of_ble_eq_true rfl)) dL_splits_267 ⟨Nat.le_of_ble_eq_true rfl, Nat.le_of_ble_eq_true rfl⟩) hW (fun z st1 hp H locs hW => ?_)
  obtain ⟨e1, e2⟩ := hp
  rw [e2] at hW
  subst e1
  refine mk_bipush hx hb (-93) (by decide +kernel) dL_splits_270 ?_
  refine mk_icmp_ne (tgt := 391) hx hb dL_splits_272 (by decide) (by decide) (by decide) (fun h => absurd h (by decide)) (fun _ => ?_)
  refine lv_aload_n hx hb dL_splits_275 rfl (lv_at hl 0 rfl) ?_
  refine mk_iconst hx hb (1) dL_splits_276 ?_
  refine mk_iconst hx hb (1) dL_splits_277 ?_
  refine mk_sipush hx hb (149) (by decide +kernel) dL_splits_278 ?_
  refine mk_bipush hx hb (8) (by decide +kernel) dL_splits_281 ?_
  refine mk_iconst hx hb (0) dL_splits_283 ?_
  refine mw_goIs (vx_runSW (As := [.ref (ad 0), .int (iI 1), .int (iI 1), .int (iI 149), .int (iI 8), .int (iI 0)]) (rest := []) ⟨hx, hb, hml, hown, hts⟩ (c_L_act_sell_no3 l cg D ad st 1 149 8 0 (c_X5_sell_noS_1 l cg D ad st hst bs5 hX 149 8 0 (by decide) (by decide) (by decide) (by decide +kernel) ⟨200, (by decide +kernel), (by decide +kernel)⟩)) (vx_cwSW 6 hts gL_splits_L_act rfl rfl rfl (by decide +kernel) ⟨Nat.le_of_ble_eq_true rfl, Nat.le_of_ble_eq_true rfl⟩) (mw_preS hK hN hxK hxZ hxN hW) rfl rfl hl.1 rfl (lv_room (Nat.le_of_ble_eq_true rfl)) dL_splits_284 ⟨Nat.le_of_ble_eq_true rfl, Nat.le_of_ble_eq_true rfl⟩) hW (fun z st1 hp H locs hW => ?_)
  obtain ⟨e1, e2⟩ := hp
  rw [e2] at hW
  subst e1
  refine mk_bipush hx hb (-93) (by decide +kernel) dL_splits_287 ?_
  refine mk_icmp_ne (tgt := 391) hx hb dL_splits_289 (by decide) (by decide) (by decide) (fun h => absurd h (by decide)) (fun _ => ?_)
  refine lv_aload_n hx hb dL_splits_292 rfl (lv_at hl 0 rfl) ?_
  refine mk_iconst hx hb (1) dL_splits_293 ?_
  refine mk_iconst hx hb (0) dL_splits_294 ?_
  refine mk_iconst hx hb (5) dL_splits_295 ?_
  refine mk_goI (va_runV (As := [.int (iI 1), .int (iI 0), .int (iI 5)]) (rest := []) ⟨hx, hb, hml, hown, hts⟩ (c_X5_split_1 l cg D ad st bs5 hX 0 5 (by decide) (by decide) (by decide +kernel) (by decide +kernel)) (cwV 3 hts gL_splits_X5_split rfl rfl rfl (by decide +kernel) ⟨Nat.le_of_ble_eq_true rfl, Nat.le_of_ble_eq_true rfl⟩) (mk_preV hK hN hW 0 (by decide) rfl rfl rfl) rfl rfl hl.1 rfl (lv_room (Nat.le_of_ble_eq_true rfl)) dL_splits_296 ⟨Nat.le_of_ble_eq_true rfl, Nat.le_of_ble_eq_true rfl⟩) hW (fun z st1 hp H locs hW => ?_)
  obtain ⟨e1, e2⟩ := hp
  have hX := e1.be bs6_eq
  obtain ⟨st, e3⟩ : ∃ q, q = st1 := ⟨_, rfl⟩
  rw [← e3] at hW hX
  refine mk_sayi (y := 3) (e2.trans (by decide +kernel)) ?_
  refine mk_iconst hx hb (3) dL_splits_299 ?_
  refine mk_icmp_ne (tgt := 391) hx hb dL_splits_300 (by decide) (by decide) (by decide) (fun h => absurd h (by decide)) (fun _ => ?_)
  refine lv_aload_n hx hb dL_splits_303 rfl (lv_at hl 0 rfl) ?_
  refine mk_iconst hx hb (1) dL_splits_304 ?_
  refine mk_sipush hx hb (300) (by decide +kernel) dL_splits_305 ?_
  refine mk_goI (va_runV (As := [.int (iI 1), .int (iI 300)]) (rest := []) ⟨hx, hb, hml, hown, hts⟩ (c_X5_poolUnits_1 l cg D ad st bs6 hX 300 (by decide)) (cwV 2 hts gL_splits_X5_poolUnits rfl rfl rfl (by decide +kernel) ⟨Nat.le_of_ble_eq_true rfl, Nat.le_of_ble_eq_true rfl⟩) (mk_preV hK hN hW 0 (by decide) rfl rfl rfl) rfl rfl hl.1 rfl (lv_room (Nat.le_of_ble_eq_true rfl)) dL_splits_308 ⟨Nat.le_of_ble_eq_true rfl, Nat.le_of_ble_eq_true rfl⟩) hW (fun z st1 hp H locs hW => ?_)
  obtain ⟨e1, e2⟩ := hp
  rw [e1] at hW
  refine mk_sayi (y := 37) ((ev_see hX (by decide) bs6_rf1).pu e2 3 37 (by decide +kernel)) ?_
  refine mk_bipush hx hb (37) (by decide +kernel) dL_splits_311 ?_
  refine mk_icmp_ne (tgt := 391) hx hb dL_splits_313 (by decide) (by decide) (by decide) (fun h => absurd h (by decide)) (fun _ => ?_)
  refine lv_aload_n hx hb dL_splits_316 rfl (lv_at hl 0 rfl) ?_
  refine mk_iconst hx hb (1) dL_splits_317 ?_
  refine mk_sipush hx hb (1824) (by decide +kernel) dL_splits_318 ?_
  refine mk_iconst hx hb (4) dL_splits_321 ?_
  refine mk_goI (va_runV (As := [.int (iI 1), .int (iI 1824), .int (iI 4)]) (rest := []) ⟨hx, hb, hml, hown, hts⟩ (c_X5_split_1 l cg D ad st bs6 hX 1824 4 (by decide) (by decide) (by decide +kernel) (by decide +kernel)) (cwV 3 hts gL_splits_X5_split rfl rfl rfl (by decide +kernel) ⟨Nat.le_of_ble_eq_true rfl, Nat.le_of_ble_eq_true rfl⟩) (mk_preV hK hN hW 0 (by decide) rfl rfl rfl) rfl rfl hl.1 rfl (lv_room (Nat.le_of_ble_eq_true rfl)) dL_splits_322 ⟨Nat.le_of_ble_eq_true rfl, Nat.le_of_ble_eq_true rfl⟩) hW (fun z st1 hp H locs hW => ?_)
  obtain ⟨e1, e2⟩ := hp
  have hX := e1.be bs7_eq
  obtain ⟨st, e3⟩ : ∃ q, q = st1 := ⟨_, rfl⟩
  rw [← e3] at hW hX
  refine mk_sayi (y := 4) (e2.trans (by decide +kernel)) ?_
  refine mk_iconst hx hb (4) dL_splits_325 ?_
  refine mk_icmp_ne (tgt := 391) hx hb dL_splits_326 (by decide) (by decide) (by decide) (fun h => absurd h (by decide)) (fun _ => ?_)
  refine lv_aload_n hx hb dL_splits_329 rfl (lv_at hl 0 rfl) ?_
  refine mk_iconst hx hb (2) dL_splits_330 ?_
  refine mk_iconst hx hb (1) dL_splits_331 ?_
  refine mk_iconst hx hb (5) dL_splits_332 ?_
  refine mk_iconst hx hb (2) dL_splits_333 ?_
  refine mk_iconst hx hb (0) dL_splits_334 ?_
  refine mw_goIs (vx_runSW (As := [.ref (ad 0), .int (iI 2), .int (iI 1), .int (iI 5), .int (iI 2), .int (iI 0)]) (rest := []) ⟨hx, hb, hml, hown, hts⟩ (c_L_act_split_no3 l cg D ad st 1 5 2 0 (c_X5_split_noS_1 l cg D ad st hst bs7 hX 5 2 (by decide) (by decide) (Or.inl (by decide +kernel)))) (vx_cwSW 6 hts gL_splits_L_act rfl rfl rfl (by decide +kernel) ⟨Nat.le_of_ble_eq_true rfl, Nat.le_of_ble_eq_true rfl⟩) (mw_preS hK hN hxK hxZ hxN hW) rfl rfl hl.1 rfl (lv_room (Nat.le_of_ble_eq_true rfl)) dL_splits_335 ⟨Nat.le_of_ble_eq_true rfl, Nat.le_of_ble_eq_true rfl⟩) hW (fun z st1 hp H locs hW => ?_)
  obtain ⟨e1, e2⟩ := hp
  rw [e2] at hW
  subst e1
  refine mk_bipush hx hb (-93) (by decide +kernel) dL_splits_338 ?_
  refine mk_icmp_ne (tgt := 391) hx hb dL_splits_340 (by decide) (by decide) (by decide) (fun h => absurd h (by decide)) (fun _ => ?_)
  refine lv_aload_n hx hb dL_splits_343 rfl (lv_at hl 0 rfl) ?_
  refine mk_iconst hx hb (1) dL_splits_344 ?_
  refine mk_sipush hx hb (1823) (by decide +kernel) dL_splits_345 ?_
  refine mk_goI (va_runV (As := [.int (iI 1), .int (iI 1823)]) (rest := []) ⟨hx, hb, hml, hown, hts⟩ (c_X5_holding_1 l cg D ad st bs7 hX 1823 (by decide)) (cwV 2 hts gL_splits_X5_holding rfl rfl rfl (by decide +kernel) ⟨Nat.le_of_ble_eq_true rfl, Nat.le_of_ble_eq_true rfl⟩) (mk_preV hK hN hW 0 (by decide) rfl rfl rfl) rfl rfl hl.1 rfl (lv_room (Nat.le_of_ble_eq_true rfl)) dL_splits_348 ⟨Nat.le_of_ble_eq_true rfl, Nat.le_of_ble_eq_true rfl⟩) hW (fun z st1 hp H locs hW => ?_)
  obtain ⟨e1, e2⟩ := hp
  rw [e1] at hW
  refine mk_sayi (y := 37) (e2.trans (by decide +kernel)) ?_
  refine mk_bipush hx hb (37) (by decide +kernel) dL_splits_351 ?_
  refine mk_icmp_ne (tgt := 391) hx hb dL_splits_353 (by decide) (by decide) (by decide) (fun h => absurd h (by decide)) (fun _ => ?_)
  exact kk _ _ _ hW hX
set_option maxHeartbeats 4000000 in
set_option maxRecDepth 100000 in
theorem bs_s3 (F : LX p l s m args meth c cL_splits 1 wsL_splits cg D (fun q => s.heap.size ≤ q)) (hl : lv_has ls 1 [(0, .ref (ad 0))]) (hW : GW D vwCl 73 (celX cg) ad (fun q => s.heap.size ≤ q) s.heap st H locs) (hX : XI st bs7)
    (kk : ∀ (st : Nat → Nat → Int) (H : Heap) (locs : List Loc), GW D vwCl 73 (celX cg) ad (fun q => s.heap.size ≤ q) s.heap st H locs → XI st bs11 → W p l e (headSpec wsL_splits ({ frames := 11, cells := 242, slots := 4189, locals := 250 })).room s m args below meth c H locs 241 4183 Q (F0 m 467 ls [])) : W p l e (headSpec wsL_splits ({ frames := 11, cells := 242, slots := 4189, locals := 250 })).room s m args below meth c H locs 77 3199 Q (F0 m 356 ls []) := by
  obtain ⟨hx, hb, hml, hown, hts, hlocks, hst, hK, hN, hxK, hxZ, hxN⟩ := id F
  refine lv_aload_n hx hb dL_splits_356 rfl (lv_at hl 0 rfl) ?_
  refine mk_iconst hx hb (1) dL_splits_357 ?_
  refine mk_sipush hx hb (1824) (by decide +kernel) dL_splits_358 ?_
  refine mk_goI (va_runV (As := [.int (iI 1), .int (iI 1824)]) (rest := []) ⟨hx, hb, hml, hown, hts⟩ (c_X5_holding_1 l cg D ad st bs7 hX 1824 (by decide)) (cwV 2 hts gL_splits_X5_holding rfl rfl rfl (by decide +kernel) ⟨Nat.le_of_ble_eq_true rfl, Nat.le_of_ble_eq_true rfl⟩) (mk_preV hK hN hW 0 (by decide) rfl rfl rfl) rfl rfl hl.1 rfl (lv_room (Nat.le_of_ble_eq_true rfl)) dL_splits_361 ⟨Nat.le_of_ble_eq_true rfl, Nat.le_of_ble_eq_true rfl⟩) hW (fun z st1 hp H locs hW => ?_)
  obtain ⟨e1, e2⟩ := hp
  rw [e1] at hW
  refine mk_sayi (y := 148) (e2.trans (by decide +kernel)) ?_
  refine mk_sipush hx hb (148) (by decide +kernel) dL_splits_364 ?_
  refine mk_icmp_ne (tgt := 391) hx hb dL_splits_367 (by decide) (by decide) (by decide) (fun h => absurd h (by decide)) (fun _ => ?_)
  refine lv_aload_n hx hb dL_splits_370 rfl (lv_at hl 0 rfl) ?_
  refine mk_iconst hx hb (1) dL_splits_371 ?_
  refine mk_sipush hx hb (300) (by decide +kernel) dL_splits_372 ?_
  refine mk_goI (va_runV (As := [.int (iI 1), .int (iI 300)]) (rest := []) ⟨hx, hb, hml, hown, hts⟩ (c_X5_poolUnits_1 l cg D ad st bs7 hX 300 (by decide)) (cwV 2 hts gL_splits_X5_poolUnits rfl rfl rfl (by decide +kernel) ⟨Nat.le_of_ble_eq_true rfl, Nat.le_of_ble_eq_true rfl⟩) (mk_preV hK hN hW 0 (by decide) rfl rfl rfl) rfl rfl hl.1 rfl (lv_room (Nat.le_of_ble_eq_true rfl)) dL_splits_375 ⟨Nat.le_of_ble_eq_true rfl, Nat.le_of_ble_eq_true rfl⟩) hW (fun z st1 hp H locs hW => ?_)
  obtain ⟨e1, e2⟩ := hp
  rw [e1] at hW
  refine mk_sayi (y := 148) ((ev_see hX (by decide) bs7_rf1).pu e2 3 148 (by decide +kernel)) ?_
  refine mk_sipush hx hb (148) (by decide +kernel) dL_splits_378 ?_
  refine mk_icmp_ne (tgt := 391) hx hb dL_splits_381 (by decide) (by decide) (by decide) (fun h => absurd h (by decide)) (fun _ => ?_)
  refine lv_aload_n hx hb dL_splits_384 rfl (lv_at hl 0 rfl) ?_
  refine mw_goIs (va_runS (As := [.ref (ad 0)]) (rest := []) ⟨hx, hb, hml, hown, hts⟩ (c_L_refuses l cg D ad st hst bs7 hX) (cwS 1 hts gL_splits_L_refuses rfl rfl rfl (by decide +kernel) ⟨Nat.le_of_ble_eq_true rfl, Nat.le_of_ble_eq_true rfl⟩) (mw_preS hK hN hxK hxZ hxN hW) rfl rfl hl.1 rfl (lv_room (Nat.le_of_ble_eq_true rfl)) dL_splits_385 ⟨Nat.le_of_ble_eq_true rfl, Nat.le_of_ble_eq_true rfl⟩) hW (fun z st1 hp H locs hW => ?_)
  obtain ⟨e1, e2⟩ := hp
  rw [e2] at hW
  subst e1
  refine mk_if_ne (tgt := 393) hx hb dL_splits_388 (by decide) (by decide) (fun _ => ?_) (fun h => absurd h (by decide))
  refine lv_aload_n hx hb dL_splits_393 rfl (lv_at hl 0 rfl) ?_
  refine mk_iconst hx hb (2) dL_splits_394 ?_
  refine mk_iconst hx hb (0) dL_splits_395 ?_
  refine mk_iconst hx hb (3) dL_splits_396 ?_
  refine mk_bipush hx hb (100) (by decide +kernel) dL_splits_397 ?_
  refine mk_goI (va_runV (As := [.int (iI 2), .int (iI 0), .int (iI 3), .int (iI 100)]) (rest := []) ⟨hx, hb, hml, hown, hts⟩ (c_X5_buy_2 l cg D ad st bs7 hX 0 3 100 (by decide +kernel) (by decide) (by decide) (by decide)) (cwV 4 hts gL_splits_X5_buy rfl rfl rfl (by decide +kernel) ⟨Nat.le_of_ble_eq_true rfl, Nat.le_of_ble_eq_true rfl⟩) (mk_preV hK hN hW 0 (by decide) rfl rfl rfl) rfl rfl hl.1 rfl (lv_room (Nat.le_of_ble_eq_true rfl)) dL_splits_399 ⟨Nat.le_of_ble_eq_true rfl, Nat.le_of_ble_eq_true rfl⟩) hW (fun z st1 hp H locs hW => ?_)
  obtain ⟨e1, e2⟩ := hp
  have hX := e1.be bs8_eq
  obtain ⟨st, e3⟩ : ∃ q, q = st1 := ⟨_, rfl⟩
  rw [← e3] at hW hX
  refine mk_sayi (y := 3) (e2.trans (by decide +kernel)) ?_
  refine mk_iconst hx hb (3) dL_splits_402 ?_
  refine mk_icmp_ne (tgt := 711) hx hb dL_splits_403 (by decide) (by decide) (by decide) (fun h => absurd h (by decide)) (fun _ => ?_)
  refine lv_aload_n hx hb dL_splits_406 rfl (lv_at hl 0 rfl) ?_
  refine mk_iconst hx hb (2) dL_splits_407 ?_
  refine mk_bipush hx hb (40) (by decide +kernel) dL_splits_408 ?_
  refine mk_iconst hx hb (1) dL_splits_410 ?_
  refine mk_bipush hx hb (10) (by decide +kernel) dL_splits_411 ?_
  refine mk_goI (va_runV (As := [.int (iI 2), .int (iI 40), .int (iI 1), .int (iI 10)]) (rest := []) ⟨hx, hb, hml, hown, hts⟩ (c_X5_sell_2 l cg D ad st bs8 hX 40 1 10 (by decide +kernel) (by decide) (by decide) (by decide) (ev_sp_ok hX (by decide) (by decide +kernel))) (cwV 4 hts gL_splits_X5_sell rfl rfl rfl (by decide +kernel) ⟨Nat.le_of_ble_eq_true rfl, Nat.le_of_ble_eq_true rfl⟩) (mk_preV hK hN hW 0 (by decide) rfl rfl rfl) rfl rfl hl.1 rfl (lv_room (Nat.le_of_ble_eq_true rfl)) dL_splits_413 ⟨Nat.le_of_ble_eq_true rfl, Nat.le_of_ble_eq_true rfl⟩) hW (fun z st1 hp H locs hW => ?_)
  obtain ⟨e1, e2⟩ := hp
  have hX := e1.be bs9_eq
  obtain ⟨st, e3⟩ : ∃ q, q = st1 := ⟨_, rfl⟩
  rw [← e3] at hW hX
  refine mk_sayi (y := 4) (e2.trans (by decide +kernel)) ?_
  refine mk_iconst hx hb (4) dL_splits_416 ?_
  refine mk_icmp_ne (tgt := 711) hx hb dL_splits_417 (by decide) (by decide) (by decide) (fun h => absurd h (by decide)) (fun _ => ?_)
  refine lv_aload_n hx hb dL_splits_420 rfl (lv_at hl 0 rfl) ?_
  refine mk_iconst hx hb (2) dL_splits_421 ?_
  refine mk_bipush hx hb (41) (by decide +kernel) dL_splits_422 ?_
  refine mk_iconst hx hb (1) dL_splits_424 ?_
  refine mk_bipush hx hb (10) (by decide +kernel) dL_splits_425 ?_
  refine mk_goI (va_runV (As := [.int (iI 2), .int (iI 41), .int (iI 1), .int (iI 10)]) (rest := []) ⟨hx, hb, hml, hown, hts⟩ (c_X5_sell_2 l cg D ad st bs9 hX 41 1 10 (by decide +kernel) (by decide) (by decide) (by decide) (ev_sp_ok hX (by decide) (by decide +kernel))) (cwV 4 hts gL_splits_X5_sell rfl rfl rfl (by decide +kernel) ⟨Nat.le_of_ble_eq_true rfl, Nat.le_of_ble_eq_true rfl⟩) (mk_preV hK hN hW 0 (by decide) rfl rfl rfl) rfl rfl hl.1 rfl (lv_room (Nat.le_of_ble_eq_true rfl)) dL_splits_427 ⟨Nat.le_of_ble_eq_true rfl, Nat.le_of_ble_eq_true rfl⟩) hW (fun z st1 hp H locs hW => ?_)
  obtain ⟨e1, e2⟩ := hp
  have hX := e1.be bs10_eq
  obtain ⟨st, e3⟩ : ∃ q, q = st1 := ⟨_, rfl⟩
  rw [← e3] at hW hX
  refine mk_sayi (y := 5) (e2.trans (by decide +kernel)) ?_
  refine mk_iconst hx hb (5) dL_splits_430 ?_
  refine mk_icmp_ne (tgt := 711) hx hb dL_splits_431 (by decide) (by decide) (by decide) (fun h => absurd h (by decide)) (fun _ => ?_)
  refine lv_aload_n hx hb dL_splits_434 rfl (lv_at hl 0 rfl) ?_
  refine mk_iconst hx hb (2) dL_splits_435 ?_
  refine mk_bipush hx hb (42) (by decide +kernel) dL_splits_436 ?_
  refine mk_iconst hx hb (1) dL_splits_438 ?_
  refine mk_bipush hx hb (10) (by decide +kernel) dL_splits_439 ?_
  refine mk_goI (va_runV (As := [.int (iI 2), .int (iI 42), .int (iI 1), .int (iI 10)]) (rest := []) ⟨hx, hb, hml, hown, hts⟩ (c_X5_sell_2 l cg D ad st bs10 hX 42 1 10 (by decide +kernel) (by decide) (by decide) (by decide) (ev_sp_ok hX (by decide) (by decide +kernel))) (cwV 4 hts gL_splits_X5_sell rfl rfl rfl (by decide +kernel) ⟨Nat.le_of_ble_eq_true rfl, Nat.le_of_ble_eq_true rfl⟩) (mk_preV hK hN hW 0 (by decide) rfl rfl rfl) rfl rfl hl.1 rfl (lv_room (Nat.le_of_ble_eq_true rfl)) dL_splits_441 ⟨Nat.le_of_ble_eq_true rfl, Nat.le_of_ble_eq_true rfl⟩) hW (fun z st1 hp H locs hW => ?_)
  obtain ⟨e1, e2⟩ := hp
  have hX := e1.be bs11_eq
  obtain ⟨st, e3⟩ : ∃ q, q = st1 := ⟨_, rfl⟩
  rw [← e3] at hW hX
  refine mk_sayi (y := 6) (e2.trans (by decide +kernel)) ?_
  refine mk_bipush hx hb (6) (by decide +kernel) dL_splits_444 ?_
  refine mk_icmp_ne (tgt := 711) hx hb dL_splits_446 (by decide) (by decide) (by decide) (fun h => absurd h (by decide)) (fun _ => ?_)
  refine lv_aload_n hx hb dL_splits_449 rfl (lv_at hl 0 rfl) ?_
  refine mk_iconst hx hb (2) dL_splits_450 ?_
  refine mk_iconst hx hb (0) dL_splits_451 ?_
  refine mk_iconst hx hb (2) dL_splits_452 ?_
  refine mk_bipush hx hb (40) (by decide +kernel) dL_splits_453 ?_
  refine mk_iconst hx hb (-1) dL_splits_455 ?_
  refine mk_iconst hx hb (1) dL_splits_456 ?_
  refine mk_bipush hx hb (33) (by decide +kernel) dL_splits_457 ?_
  refine mk_bipush hx hb (10) (by decide +kernel) dL_splits_459 ?_
  refine mk_goI (va_runS (As := [.ref (ad 0), .int (iI 2), .int (iI 0), .int (iI 2), .int (iI 40), .int (iI (-1)), .int (iI 1), .int (iI 33), .int (iI 10)]) (rest := []) ⟨hx, hb, hml, hown, hts⟩ (c_L_is_2 l cg D ad st bs11 hX 0 2 40 (-1) 1 33 10 ((ev_see hX (by decide) bs11_rf2).mt 0 rfl (by decide +kernel))) (cwS 9 hts gL_splits_L_is rfl rfl rfl (by decide +kernel) ⟨Nat.le_of_ble_eq_true rfl, Nat.le_of_ble_eq_true rfl⟩) (mk_preS hK hN hW) rfl rfl hl.1 rfl (lv_room (Nat.le_of_ble_eq_true rfl)) dL_splits_461 ⟨Nat.le_of_ble_eq_true rfl, Nat.le_of_ble_eq_true rfl⟩) hW (fun z st1 hp H locs hW => ?_)
  obtain ⟨e1, e2⟩ := hp
  rw [e2] at hW
  subst e1
  refine mk_if_eq (tgt := 711) hx hb dL_splits_464 (by decide) (by decide) (fun h => absurd h (by decide)) (fun _ => ?_)
  exact kk _ _ _ hW hX
set_option maxHeartbeats 4000000 in
set_option maxRecDepth 100000 in
theorem bs_s4 (F : LX p l s m args meth c cL_splits 1 wsL_splits cg D (fun q => s.heap.size ≤ q)) (hl : lv_has ls 1 [(0, .ref (ad 0))]) (hW : GW D vwCl 73 (celX cg) ad (fun q => s.heap.size ≤ q) s.heap st H locs) (hX : XI st bs11)
    (kk : ∀ (st : Nat → Nat → Int) (H : Heap) (locs : List Loc), GW D vwCl 73 (celX cg) ad (fun q => s.heap.size ≤ q) s.heap st H locs → XI st bs12 → W p l e (headSpec wsL_splits ({ frames := 11, cells := 242, slots := 4189, locals := 250 })).room s m args below meth c H locs 241 4183 Q (F0 m 596 ls [])) : W p l e (headSpec wsL_splits ({ frames := 11, cells := 242, slots := 4189, locals := 250 })).room s m args below meth c H locs 241 4183 Q (F0 m 467 ls []) := by
  obtain ⟨hx, hb, hml, hown, hts, hlocks, hst, hK, hN, hxK, hxZ, hxN⟩ := id F
  refine lv_aload_n hx hb dL_splits_467 rfl (lv_at hl 0 rfl) ?_
  refine mk_iconst hx hb (2) dL_splits_468 ?_
  refine mk_iconst hx hb (1) dL_splits_469 ?_
  refine mk_iconst hx hb (2) dL_splits_470 ?_
  refine mk_bipush hx hb (41) (by decide +kernel) dL_splits_471 ?_
  refine mk_iconst hx hb (-1) dL_splits_473 ?_
  refine mk_iconst hx hb (1) dL_splits_474 ?_
  refine mk_bipush hx hb (33) (by decide +kernel) dL_splits_475 ?_
  refine mk_bipush hx hb (10) (by decide +kernel) dL_splits_477 ?_
  refine mk_goI (va_runS (As := [.ref (ad 0), .int (iI 2), .int (iI 1), .int (iI 2), .int (iI 41), .int (iI (-1)), .int (iI 1), .int (iI 33), .int (iI 10)]) (rest := []) ⟨hx, hb, hml, hown, hts⟩ (c_L_is_2 l cg D ad st bs11 hX 1 2 41 (-1) 1 33 10 ((ev_see hX (by decide) bs11_rf2).mt 1 rfl (by decide +kernel))) (cwS 9 hts gL_splits_L_is rfl rfl rfl (by decide +kernel) ⟨Nat.le_of_ble_eq_true rfl, Nat.le_of_ble_eq_true rfl⟩) (mk_preS hK hN hW) rfl rfl hl.1 rfl (lv_room (Nat.le_of_ble_eq_true rfl)) dL_splits_479 ⟨Nat.le_of_ble_eq_true rfl, Nat.le_of_ble_eq_true rfl⟩) hW (fun z st1 hp H locs hW => ?_)
  obtain ⟨e1, e2⟩ := hp
  rw [e2] at hW
  subst e1
  refine mk_if_eq (tgt := 711) hx hb dL_splits_482 (by decide) (by decide) (fun h => absurd h (by decide)) (fun _ => ?_)
  refine lv_aload_n hx hb dL_splits_485 rfl (lv_at hl 0 rfl) ?_
  refine mk_iconst hx hb (2) dL_splits_486 ?_
  refine mk_iconst hx hb (2) dL_splits_487 ?_
  refine mk_iconst hx hb (2) dL_splits_488 ?_
  refine mk_bipush hx hb (42) (by decide +kernel) dL_splits_489 ?_
  refine mk_iconst hx hb (-1) dL_splits_491 ?_
  refine mk_iconst hx hb (1) dL_splits_492 ?_
  refine mk_bipush hx hb (34) (by decide +kernel) dL_splits_493 ?_
  refine mk_bipush hx hb (10) (by decide +kernel) dL_splits_495 ?_
  refine mk_goI (va_runS (As := [.ref (ad 0), .int (iI 2), .int (iI 2), .int (iI 2), .int (iI 42), .int (iI (-1)), .int (iI 1), .int (iI 34), .int (iI 10)]) (rest := []) ⟨hx, hb, hml, hown, hts⟩ (c_L_is_2 l cg D ad st bs11 hX 2 2 42 (-1) 1 34 10 ((ev_see hX (by decide) bs11_rf2).mt 2 rfl (by decide +kernel))) (cwS 9 hts gL_splits_L_is rfl rfl rfl (by decide +kernel) ⟨Nat.le_of_ble_eq_true rfl, Nat.le_of_ble_eq_true rfl⟩) (mk_preS hK hN hW) rfl rfl hl.1 rfl (lv_room (Nat.le_of_ble_eq_true rfl)) dL_splits_497 ⟨Nat.le_of_ble_eq_true rfl, Nat.le_of_ble_eq_true rfl⟩) hW (fun z st1 hp H locs hW => ?_)
  obtain ⟨e1, e2⟩ := hp
  rw [e2] at hW
  subst e1
  refine mk_if_eq (tgt := 711) hx hb dL_splits_500 (by decide) (by decide) (fun h => absurd h (by decide)) (fun _ => ?_)
  refine lv_aload_n hx hb dL_splits_503 rfl (lv_at hl 0 rfl) ?_
  refine mk_iconst hx hb (2) dL_splits_504 ?_
  refine mk_bipush hx hb (43) (by decide +kernel) dL_splits_505 ?_
  refine mk_bipush hx hb (7) (by decide +kernel) dL_splits_507 ?_
  refine mk_bipush hx hb (100) (by decide +kernel) dL_splits_509 ?_
  refine mk_goI (va_runV (As := [.int (iI 2), .int (iI 43), .int (iI 7), .int (iI 100)]) (rest := []) ⟨hx, hb, hml, hown, hts⟩ (c_X5_buy_2 l cg D ad st bs11 hX 43 7 100 (by decide +kernel) (by decide) (by decide) (by decide)) (cwV 4 hts gL_splits_X5_buy rfl rfl rfl (by decide +kernel) ⟨Nat.le_of_ble_eq_true rfl, Nat.le_of_ble_eq_true rfl⟩) (mk_preV hK hN hW 0 (by decide) rfl rfl rfl) rfl rfl hl.1 rfl (lv_room (Nat.le_of_ble_eq_true rfl)) dL_splits_511 ⟨Nat.le_of_ble_eq_true rfl, Nat.le_of_ble_eq_true rfl⟩) hW (fun z st1 hp H locs hW => ?_)
  obtain ⟨e1, e2⟩ := hp
  have hX := e1.be bs12_eq
  obtain ⟨st, e3⟩ : ∃ q, q = st1 := ⟨_, rfl⟩
  rw [← e3] at hW hX
  refine mk_sayi (y := 7) (e2.trans (by decide +kernel)) ?_
  refine mk_bipush hx hb (7) (by decide +kernel) dL_splits_514 ?_
  refine mk_icmp_ne (tgt := 711) hx hb dL_splits_516 (by decide) (by decide) (by decide) (fun h => absurd h (by decide)) (fun _ => ?_)
  refine lv_aload_n hx hb dL_splits_519 rfl (lv_at hl 0 rfl) ?_
  refine mk_iconst hx hb (2) dL_splits_520 ?_
  refine mk_goI (va_runV (As := [.int (iI 2)]) (rest := []) ⟨hx, hb, hml, hown, hts⟩ (c_X5_matches_2 l cg D ad st bs12 hX) (cwV 1 hts gL_splits_X5_matches rfl rfl rfl (by decide +kernel) ⟨Nat.le_of_ble_eq_true rfl, Nat.le_of_ble_eq_true rfl⟩) (mk_preV hK hN hW 0 (by decide) rfl rfl rfl) rfl rfl hl.1 rfl (lv_room (Nat.le_of_ble_eq_true rfl)) dL_splits_521 ⟨Nat.le_of_ble_eq_true rfl, Nat.le_of_ble_eq_true rfl⟩) hW (fun z st1 hp H locs hW => ?_)
  obtain ⟨e1, e2⟩ := hp
  rw [e1] at hW
  refine mk_sayi (y := 3) ((ev_see hX (by decide) bs12_rf2).len e2 3 (by decide +kernel)) ?_
  refine mk_iconst hx hb (3) dL_splits_524 ?_
  refine mk_icmp_ne (tgt := 711) hx hb dL_splits_525 (by decide) (by decide) (by decide) (fun h => absurd h (by decide)) (fun _ => ?_)
  refine lv_aload_n hx hb dL_splits_528 rfl (lv_at hl 0 rfl) ?_
  refine mk_iconst hx hb (2) dL_splits_529 ?_
  refine mk_iconst hx hb (0) dL_splits_530 ?_
  refine mk_iconst hx hb (1) dL_splits_531 ?_
  refine mk_bipush hx hb (40) (by decide +kernel) dL_splits_532 ?_
  refine mk_bipush hx hb (43) (by decide +kernel) dL_splits_534 ?_
  refine mk_iconst hx hb (1) dL_splits_536 ?_
  refine mk_bipush hx hb (14) (by decide +kernel) dL_splits_537 ?_
  refine mk_bipush hx hb (10) (by decide +kernel) dL_splits_539 ?_
  refine mk_goI (va_runS (As := [.ref (ad 0), .int (iI 2), .int (iI 0), .int (iI 1), .int (iI 40), .int (iI 43), .int (iI 1), .int (iI 14), .int (iI 10)]) (rest := []) ⟨hx, hb, hml, hown, hts⟩ (c_L_is_2 l cg D ad st bs12 hX 0 1 40 43 1 14 10 ((ev_see hX (by decide) bs12_rf2).mt 0 rfl (by decide +kernel))) (cwS 9 hts gL_splits_L_is rfl rfl rfl (by decide +kernel) ⟨Nat.le_of_ble_eq_true rfl, Nat.le_of_ble_eq_true rfl⟩) (mk_preS hK hN hW) rfl rfl hl.1 rfl (lv_room (Nat.le_of_ble_eq_true rfl)) dL_splits_541 ⟨Nat.le_of_ble_eq_true rfl, Nat.le_of_ble_eq_true rfl⟩) hW (fun z st1 hp H locs hW => ?_)
  obtain ⟨e1, e2⟩ := hp
  rw [e2] at hW
  subst e1
  refine mk_if_eq (tgt := 711) hx hb dL_splits_544 (by decide) (by decide) (fun h => absurd h (by decide)) (fun _ => ?_)
  refine lv_aload_n hx hb dL_splits_547 rfl (lv_at hl 0 rfl) ?_
  refine mk_iconst hx hb (2) dL_splits_548 ?_
  refine mk_iconst hx hb (1) dL_splits_549 ?_
  refine mk_iconst hx hb (1) dL_splits_550 ?_
  refine mk_bipush hx hb (41) (by decide +kernel) dL_splits_551 ?_
  refine mk_bipush hx hb (43) (by decide +kernel) dL_splits_553 ?_
  refine mk_iconst hx hb (1) dL_splits_555 ?_
  refine mk_bipush hx hb (14) (by decide +kernel) dL_splits_556 ?_
  refine mk_bipush hx hb (10) (by decide +kernel) dL_splits_558 ?_
  refine mk_goI (va_runS (As := [.ref (ad 0), .int (iI 2), .int (iI 1), .int (iI 1), .int (iI 41), .int (iI 43), .int (iI 1), .int (iI 14), .int (iI 10)]) (rest := []) ⟨hx, hb, hml, hown, hts⟩ (c_L_is_2 l cg D ad st bs12 hX 1 1 41 43 1 14 10 ((ev_see hX (by decide) bs12_rf2).mt 1 rfl (by decide +kernel))) (cwS 9 hts gL_splits_L_is rfl rfl rfl (by decide +kernel) ⟨Nat.le_of_ble_eq_true rfl, Nat.le_of_ble_eq_true rfl⟩) (mk_preS hK hN hW) rfl rfl hl.1 rfl (lv_room (Nat.le_of_ble_eq_true rfl)) dL_splits_560 ⟨Nat.le_of_ble_eq_true rfl, Nat.le_of_ble_eq_true rfl⟩) hW (fun z st1 hp H locs hW => ?_)
  obtain ⟨e1, e2⟩ := hp
  rw [e2] at hW
  subst e1
  refine mk_if_eq (tgt := 711) hx hb dL_splits_563 (by decide) (by decide) (fun h => absurd h (by decide)) (fun _ => ?_)
  refine lv_aload_n hx hb dL_splits_566 rfl (lv_at hl 0 rfl) ?_
  refine mk_iconst hx hb (2) dL_splits_567 ?_
  refine mk_iconst hx hb (2) dL_splits_568 ?_
  refine mk_iconst hx hb (1) dL_splits_569 ?_
  refine mk_bipush hx hb (42) (by decide +kernel) dL_splits_570 ?_
  refine mk_bipush hx hb (43) (by decide +kernel) dL_splits_572 ?_
  refine mk_iconst hx hb (1) dL_splits_574 ?_
  refine mk_bipush hx hb (14) (by decide +kernel) dL_splits_575 ?_
  refine mk_bipush hx hb (10) (by decide +kernel) dL_splits_577 ?_
  refine mk_goI (va_runS (As := [.ref (ad 0), .int (iI 2), .int (iI 2), .int (iI 1), .int (iI 42), .int (iI 43), .int (iI 1), .int (iI 14), .int (iI 10)]) (rest := []) ⟨hx, hb, hml, hown, hts⟩ (c_L_is_2 l cg D ad st bs12 hX 2 1 42 43 1 14 10 ((ev_see hX (by decide) bs12_rf2).mt 2 rfl (by decide +kernel))) (cwS 9 hts gL_splits_L_is rfl rfl rfl (by decide +kernel) ⟨Nat.le_of_ble_eq_true rfl, Nat.le_of_ble_eq_true rfl⟩) (mk_preS hK hN hW) rfl rfl hl.1 rfl (lv_room (Nat.le_of_ble_eq_true rfl)) dL_splits_579 ⟨Nat.le_of_ble_eq_true rfl, Nat.le_of_ble_eq_true rfl⟩) hW (fun z st1 hp H locs hW => ?_)
  obtain ⟨e1, e2⟩ := hp
  rw [e2] at hW
  subst e1
  refine mk_if_eq (tgt := 711) hx hb dL_splits_582 (by decide) (by decide) (fun h => absurd h (by decide)) (fun _ => ?_)
  refine lv_aload_n hx hb dL_splits_585 rfl (lv_at hl 0 rfl) ?_
  refine mk_iconst hx hb (2) dL_splits_586 ?_
  refine mk_bipush hx hb (42) (by decide +kernel) dL_splits_587 ?_
  refine mk_goI (va_runV (As := [.int (iI 2), .int (iI 42)]) (rest := []) ⟨hx, hb, hml, hown, hts⟩ (c_X5_poolUnits_2 l cg D ad st bs12 hX 42 (by decide)) (cwV 2 hts gL_splits_X5_poolUnits rfl rfl rfl (by decide +kernel) ⟨Nat.le_of_ble_eq_true rfl, Nat.le_of_ble_eq_true rfl⟩) (mk_preV hK hN hW 0 (by decide) rfl rfl rfl) rfl rfl hl.1 rfl (lv_room (Nat.le_of_ble_eq_true rfl)) dL_splits_589 ⟨Nat.le_of_ble_eq_true rfl, Nat.le_of_ble_eq_true rfl⟩) hW (fun z st1 hp H locs hW => ?_)
  obtain ⟨e1, e2⟩ := hp
  rw [e1] at hW
  refine mk_sayi (y := 3) ((ev_see hX (by decide) bs12_rf2).pu e2 4 3 (by decide +kernel)) ?_
  refine mk_iconst hx hb (3) dL_splits_592 ?_
  refine mk_icmp_ne (tgt := 711) hx hb dL_splits_593 (by decide) (by decide) (by decide) (fun h => absurd h (by decide)) (fun _ => ?_)
  exact kk _ _ _ hW hX
set_option maxHeartbeats 4000000 in
set_option maxRecDepth 100000 in
theorem bs_s5 (F : LX p l s m args meth c cL_splits 1 wsL_splits cg D (fun q => s.heap.size ≤ q)) (hl : lv_has ls 1 [(0, .ref (ad 0))]) (hW : GW D vwCl 73 (celX cg) ad (fun q => s.heap.size ≤ q) s.heap st H locs) (hX : XI st bs12)
    (kk : ∀ (st : Nat → Nat → Int) (H : Heap) (locs : List Loc), GW D vwCl 73 (celX cg) ad (fun q => s.heap.size ≤ q) s.heap st H locs → XI st bs14 → W p l e (headSpec wsL_splits ({ frames := 11, cells := 242, slots := 4189, locals := 250 })).room s m args below meth c H locs 242 4189 Q (F0 m 713 ls [])) : W p l e (headSpec wsL_splits ({ frames := 11, cells := 242, slots := 4189, locals := 250 })).room s m args below meth c H locs 241 4183 Q (F0 m 596 ls []) := by
  obtain ⟨hx, hb, hml, hown, hts, hlocks, hst, hK, hN, hxK, hxZ, hxN⟩ := id F
  refine lv_aload_n hx hb dL_splits_596 rfl (lv_at hl 0 rfl) ?_
  refine mk_iconst hx hb (2) dL_splits_597 ?_
  refine mk_bipush hx hb (43) (by decide +kernel) dL_splits_598 ?_
  refine mk_goI (va_runV (As := [.int (iI 2), .int (iI 43)]) (rest := []) ⟨hx, hb, hml, hown, hts⟩ (c_X5_poolUnits_2 l cg D ad st bs12 hX 43 (by decide)) (cwV 2 hts gL_splits_X5_poolUnits rfl rfl rfl (by decide +kernel) ⟨Nat.le_of_ble_eq_true rfl, Nat.le_of_ble_eq_true rfl⟩) (mk_preV hK hN hW 0 (by decide) rfl rfl rfl) rfl rfl hl.1 rfl (lv_room (Nat.le_of_ble_eq_true rfl)) dL_splits_600 ⟨Nat.le_of_ble_eq_true rfl, Nat.le_of_ble_eq_true rfl⟩) hW (fun z st1 hp H locs hW => ?_)
  obtain ⟨e1, e2⟩ := hp
  rw [e1] at hW
  refine mk_sayi (y := 7) ((ev_see hX (by decide) bs12_rf2).pu e2 5 7 (by decide +kernel)) ?_
  refine mk_bipush hx hb (7) (by decide +kernel) dL_splits_603 ?_
  refine mk_icmp_ne (tgt := 711) hx hb dL_splits_605 (by decide) (by decide) (by decide) (fun h => absurd h (by decide)) (fun _ => ?_)
  refine lv_aload_n hx hb dL_splits_608 rfl (lv_at hl 0 rfl) ?_
  refine mk_iconst hx hb (2) dL_splits_609 ?_
  refine mk_bipush hx hb (43) (by decide +kernel) dL_splits_610 ?_
  refine mk_goI (va_runV (As := [.int (iI 2), .int (iI 43)]) (rest := []) ⟨hx, hb, hml, hown, hts⟩ (c_X5_poolCost_2 l cg D ad st bs12 hX 43 (by decide)) (cwV 2 hts gL_splits_X5_poolCost rfl rfl rfl (by decide +kernel) ⟨Nat.le_of_ble_eq_true rfl, Nat.le_of_ble_eq_true rfl⟩) (mk_preV hK hN hW 0 (by decide) rfl rfl rfl) rfl rfl hl.1 rfl (lv_room (Nat.le_of_ble_eq_true rfl)) dL_splits_612 ⟨Nat.le_of_ble_eq_true rfl, Nat.le_of_ble_eq_true rfl⟩) hW (fun z st1 hp H locs hW => ?_)
  obtain ⟨e1, e2⟩ := hp
  rw [e1] at hW
  refine mk_sayi (y := 158) ((ev_see hX (by decide) bs12_rf2).pc e2 5 158 (by decide +kernel)) ?_
  refine mk_sipush hx hb (158) (by decide +kernel) dL_splits_615 ?_
  refine mk_icmp_ne (tgt := 711) hx hb dL_splits_618 (by decide) (by decide) (by decide) (fun h => absurd h (by decide)) (fun _ => ?_)
  refine lv_aload_n hx hb dL_splits_621 rfl (lv_at hl 0 rfl) ?_
  refine mk_iconst hx hb (1) dL_splits_622 ?_
  refine mk_iconst hx hb (2) dL_splits_623 ?_
  refine mk_bipush hx hb (40) (by decide +kernel) dL_splits_624 ?_
  refine mk_iconst hx hb (2) dL_splits_626 ?_
  refine mk_iconst hx hb (5) dL_splits_627 ?_
  refine mw_goIs (vx_runSW (As := [.ref (ad 0), .int (iI 1), .int (iI 2), .int (iI 40), .int (iI 2), .int (iI 5)]) (rest := []) ⟨hx, hb, hml, hown, hts⟩ (c_L_act_sell_no3 l cg D ad st 2 40 2 5 (c_X5_sell_noS_2 l cg D ad st hst bs12 hX 40 2 5 (by decide) (by decide) (by decide) (by decide +kernel) ⟨41, (by decide +kernel), (by decide +kernel)⟩)) (vx_cwSW 6 hts gL_splits_L_act rfl rfl rfl (by decide +kernel) ⟨Nat.le_of_ble_eq_true rfl, Nat.le_of_ble_eq_true rfl⟩) (mw_preS hK hN hxK hxZ hxN hW) rfl rfl hl.1 rfl (lv_room (Nat.le_of_ble_eq_true rfl)) dL_splits_628 ⟨Nat.le_of_ble_eq_true rfl, Nat.le_of_ble_eq_true rfl⟩) hW (fun z st1 hp H locs hW => ?_)
  obtain ⟨e1, e2⟩ := hp
  rw [e2] at hW
  subst e1
  refine mk_bipush hx hb (-93) (by decide +kernel) dL_splits_631 ?_
  refine mk_icmp_ne (tgt := 711) hx hb dL_splits_633 (by decide) (by decide) (by decide) (fun h => absurd h (by decide)) (fun _ => ?_)
  refine lv_aload_n hx hb dL_splits_636 rfl (lv_at hl 0 rfl) ?_
  refine mk_iconst hx hb (2) dL_splits_637 ?_
  refine mk_bipush hx hb (10) (by decide +kernel) dL_splits_638 ?_
  refine mk_iconst hx hb (2) dL_splits_640 ?_
  refine mk_iconst hx hb (0) dL_splits_641 ?_
  refine mk_goI (va_runV (As := [.int (iI 2), .int (iI 10), .int (iI 2), .int (iI 0)]) (rest := []) ⟨hx, hb, hml, hown, hts⟩ (c_X5_buy_2 l cg D ad st bs12 hX 10 2 0 (by decide +kernel) (by decide) (by decide) (by decide)) (cwV 4 hts gL_splits_X5_buy rfl rfl rfl (by decide +kernel) ⟨Nat.le_of_ble_eq_true rfl, Nat.le_of_ble_eq_true rfl⟩) (mk_preV hK hN hW 0 (by decide) rfl rfl rfl) rfl rfl hl.1 rfl (lv_room (Nat.le_of_ble_eq_true rfl)) dL_splits_642 ⟨Nat.le_of_ble_eq_true rfl, Nat.le_of_ble_eq_true rfl⟩) hW (fun z st1 hp H locs hW => ?_)
  obtain ⟨e1, e2⟩ := hp
  have hX := e1.be bs13_eq
  obtain ⟨st, e3⟩ : ∃ q, q = st1 := ⟨_, rfl⟩
  rw [← e3] at hW hX
  refine mk_sayi (y := 8) (e2.trans (by decide +kernel)) ?_
  refine mk_bipush hx hb (8) (by decide +kernel) dL_splits_645 ?_
  refine mk_icmp_ne (tgt := 711) hx hb dL_splits_647 (by decide) (by decide) (by decide) (fun h => absurd h (by decide)) (fun _ => ?_)
  refine lv_aload_n hx hb dL_splits_650 rfl (lv_at hl 0 rfl) ?_
  refine mk_iconst hx hb (2) dL_splits_651 ?_
  refine mk_bipush hx hb (40) (by decide +kernel) dL_splits_652 ?_
  refine mk_iconst hx hb (2) dL_splits_654 ?_
  refine mk_iconst hx hb (5) dL_splits_655 ?_
  refine mk_goI (va_runV (As := [.int (iI 2), .int (iI 40), .int (iI 2), .int (iI 5)]) (rest := []) ⟨hx, hb, hml, hown, hts⟩ (c_X5_sell_2 l cg D ad st bs13 hX 40 2 5 (by decide +kernel) (by decide) (by decide) (by decide) (ev_sp_ok hX (by decide) (by decide +kernel))) (cwV 4 hts gL_splits_X5_sell rfl rfl rfl (by decide +kernel) ⟨Nat.le_of_ble_eq_true rfl, Nat.le_of_ble_eq_true rfl⟩) (mk_preV hK hN hW 0 (by decide) rfl rfl rfl) rfl rfl hl.1 rfl (lv_room (Nat.le_of_ble_eq_true rfl)) dL_splits_656 ⟨Nat.le_of_ble_eq_true rfl, Nat.le_of_ble_eq_true rfl⟩) hW (fun z st1 hp H locs hW => ?_)
  obtain ⟨e1, e2⟩ := hp
  have hX := e1.be bs14_eq
  obtain ⟨st, e3⟩ : ∃ q, q = st1 := ⟨_, rfl⟩
  rw [← e3] at hW hX
  refine mk_sayi (y := 9) (e2.trans (by decide +kernel)) ?_
  refine mk_bipush hx hb (9) (by decide +kernel) dL_splits_659 ?_
  refine mk_icmp_ne (tgt := 711) hx hb dL_splits_661 (by decide) (by decide) (by decide) (fun h => absurd h (by decide)) (fun _ => ?_)
  refine lv_aload_n hx hb dL_splits_664 rfl (lv_at hl 0 rfl) ?_
  refine mk_iconst hx hb (2) dL_splits_665 ?_
  refine mk_goI (va_runV (As := [.int (iI 2)]) (rest := []) ⟨hx, hb, hml, hown, hts⟩ (c_X5_matches_2 l cg D ad st bs14 hX) (cwV 1 hts gL_splits_X5_matches rfl rfl rfl (by decide +kernel) ⟨Nat.le_of_ble_eq_true rfl, Nat.le_of_ble_eq_true rfl⟩) (mk_preV hK hN hW 0 (by decide) rfl rfl rfl) rfl rfl hl.1 rfl (lv_room (Nat.le_of_ble_eq_true rfl)) dL_splits_666 ⟨Nat.le_of_ble_eq_true rfl, Nat.le_of_ble_eq_true rfl⟩) hW (fun z st1 hp H locs hW => ?_)
  obtain ⟨e1, e2⟩ := hp
  rw [e1] at hW
  refine mk_sayi (y := 3) ((ev_see hX (by decide) bs14_rf2).len e2 3 (by decide +kernel)) ?_
  refine mk_iconst hx hb (3) dL_splits_669 ?_
  refine mk_icmp_ne (tgt := 711) hx hb dL_splits_670 (by decide) (by decide) (by decide) (fun h => absurd h (by decide)) (fun _ => ?_)
  refine lv_aload_n hx hb dL_splits_673 rfl (lv_at hl 0 rfl) ?_
  refine mk_iconst hx hb (2) dL_splits_674 ?_
  refine mk_iconst hx hb (0) dL_splits_675 ?_
  refine mk_iconst hx hb (1) dL_splits_676 ?_
  refine mk_bipush hx hb (40) (by decide +kernel) dL_splits_677 ?_
  refine mk_bipush hx hb (43) (by decide +kernel) dL_splits_679 ?_
  refine mk_iconst hx hb (3) dL_splits_681 ?_
  refine mk_bipush hx hb (42) (by decide +kernel) dL_splits_682 ?_
  refine mk_bipush hx hb (15) (by decide +kernel) dL_splits_684 ?_
  refine mk_goI (va_runS (As := [.ref (ad 0), .int (iI 2), .int (iI 0), .int (iI 1), .int (iI 40), .int (iI 43), .int (iI 3), .int (iI 42), .int (iI 15)]) (rest := []) ⟨hx, hb, hml, hown, hts⟩ (c_L_is_2 l cg D ad st bs14 hX 0 1 40 43 3 42 15 ((ev_see hX (by decide) bs14_rf2).mt 0 rfl (by decide +kernel))) (cwS 9 hts gL_splits_L_is rfl rfl rfl (by decide +kernel) ⟨Nat.le_of_ble_eq_true rfl, Nat.le_of_ble_eq_true rfl⟩) (mk_preS hK hN hW) rfl rfl hl.1 rfl (lv_room (Nat.le_of_ble_eq_true rfl)) dL_splits_686 ⟨Nat.le_of_ble_eq_true rfl, Nat.le_of_ble_eq_true rfl⟩) hW (fun z st1 hp H locs hW => ?_)
  obtain ⟨e1, e2⟩ := hp
  rw [e2] at hW
  subst e1
  refine mk_if_eq (tgt := 711) hx hb dL_splits_689 (by decide) (by decide) (fun h => absurd h (by decide)) (fun _ => ?_)
  refine lv_aload_n hx hb dL_splits_692 rfl (lv_at hl 0 rfl) ?_
  refine mk_iconst hx hb (2) dL_splits_693 ?_
  refine mk_iconst hx hb (1) dL_splits_694 ?_
  refine mk_iconst hx hb (1) dL_splits_695 ?_
  refine mk_bipush hx hb (41) (by decide +kernel) dL_splits_696 ?_
  refine mk_bipush hx hb (43) (by decide +kernel) dL_splits_698 ?_
  refine mk_iconst hx hb (1) dL_splits_700 ?_
  refine mk_bipush hx hb (15) (by decide +kernel) dL_splits_701 ?_
  refine mk_bipush hx hb (10) (by decide +kernel) dL_splits_703 ?_
  refine mk_goI (va_runS (As := [.ref (ad 0), .int (iI 2), .int (iI 1), .int (iI 1), .int (iI 41), .int (iI 43), .int (iI 1), .int (iI 15), .int (iI 10)]) (rest := []) ⟨hx, hb, hml, hown, hts⟩ (c_L_is_2 l cg D ad st bs14 hX 1 1 41 43 1 15 10 ((ev_see hX (by decide) bs14_rf2).mt 1 rfl (by decide +kernel))) (cwS 9 hts gL_splits_L_is rfl rfl rfl (by decide +kernel) ⟨Nat.le_of_ble_eq_true rfl, Nat.le_of_ble_eq_true rfl⟩) (mk_preS hK hN hW) rfl rfl hl.1 rfl (lv_room (Nat.le_of_ble_eq_true rfl)) dL_splits_705 ⟨Nat.le_of_ble_eq_true rfl, Nat.le_of_ble_eq_true rfl⟩) hW (fun z st1 hp H locs hW => ?_)
  obtain ⟨e1, e2⟩ := hp
  rw [e2] at hW
  subst e1
  refine mk_if_ne (tgt := 713) hx hb dL_splits_708 (by decide) (by decide) (fun _ => ?_) (fun h => absurd h (by decide))
  exact kk _ _ _ hW hX
set_option maxHeartbeats 4000000 in
set_option maxRecDepth 100000 in
theorem bs_s6 (F : LX p l s m args meth c cL_splits 1 wsL_splits cg D (fun q => s.heap.size ≤ q)) (hl : lv_has ls 1 [(0, .ref (ad 0))]) (hW : GW D vwCl 73 (celX cg) ad (fun q => s.heap.size ≤ q) s.heap st H locs) (hX : XI st bs14)
    (kk : ∀ (st : Nat → Nat → Int) (H : Heap) (locs : List Loc), GW D vwCl 73 (celX cg) ad (fun q => s.heap.size ≤ q) s.heap st H locs → XI st bs14 → W p l e (headSpec wsL_splits ({ frames := 11, cells := 242, slots := 4189, locals := 250 })).room s m args below meth c H locs 242 4189 Q (F0 m 744 ls [])) : W p l e (headSpec wsL_splits ({ frames := 11, cells := 242, slots := 4189, locals := 250 })).room s m args below meth c H locs 242 4189 Q (F0 m 713 ls []) := by
  obtain ⟨hx, hb, hml, hown, hts, hlocks, hst, hK, hN, hxK, hxZ, hxN⟩ := id F
  refine lv_aload_n hx hb dL_splits_713 rfl (lv_at hl 0 rfl) ?_
  refine mk_iconst hx hb (2) dL_splits_714 ?_
  refine mk_goI (va_runV (As := [.int (iI 2)]) (rest := []) ⟨hx, hb, hml, hown, hts⟩ (c_X5_costIn_2 l cg D ad st bs14 hX) (cwV 1 hts gL_splits_X5_costIn rfl rfl rfl (by decide +kernel) ⟨Nat.le_of_ble_eq_true rfl, Nat.le_of_ble_eq_true rfl⟩) (mk_preV hK hN hW 0 (by decide) rfl rfl rfl) rfl rfl hl.1 rfl (lv_room (Nat.le_of_ble_eq_true rfl)) dL_splits_715 ⟨Nat.le_of_ble_eq_true rfl, Nat.le_of_ble_eq_true rfl⟩) hW (fun z st1 hp H locs hW => ?_)
  obtain ⟨e1, e2⟩ := hp
  rw [e1] at hW
  refine mk_sayi (y := 200) (e2.trans (by decide +kernel)) ?_
  refine mk_sipush hx hb (200) (by decide +kernel) dL_splits_718 ?_
  refine mk_icmp_ne (tgt := 748) hx hb dL_splits_721 (by decide) (by decide) (by decide) (fun h => absurd h (by decide)) (fun _ => ?_)
  refine lv_aload_n hx hb dL_splits_724 rfl (lv_at hl 0 rfl) ?_
  refine mk_iconst hx hb (2) dL_splits_725 ?_
  refine mk_goI (va_runV (As := [.int (iI 2)]) (rest := []) ⟨hx, hb, hml, hown, hts⟩ (c_X5_costMatched_2 l cg D ad st bs14 hX) (cwV 1 hts gL_splits_X5_costMatched rfl rfl rfl (by decide +kernel) ⟨Nat.le_of_ble_eq_true rfl, Nat.le_of_ble_eq_true rfl⟩) (mk_preV hK hN hW 0 (by decide) rfl rfl rfl) rfl rfl hl.1 rfl (lv_room (Nat.le_of_ble_eq_true rfl)) dL_splits_726 ⟨Nat.le_of_ble_eq_true rfl, Nat.le_of_ble_eq_true rfl⟩) hW (fun z st1 hp H locs hW => ?_)
  obtain ⟨e1, e2⟩ := hp
  rw [e1] at hW
  refine mk_sayi (y := 71) ((ev_see hX (by decide) bs14_rf2).cm e2 71 (by decide +kernel)) ?_
  refine lv_aload_n hx hb dL_splits_729 rfl (lv_at hl 0 rfl) ?_
  refine mk_iconst hx hb (2) dL_splits_730 ?_
  refine mk_sipush hx hb (1824) (by decide +kernel) dL_splits_731 ?_
  refine mk_goI (va_runV (As := [.int (iI 2), .int (iI 1824)]) (rest := [.int (iI 71)]) ⟨hx, hb, hml, hown, hts⟩ (c_X5_poolCost_2 l cg D ad st bs14 hX 1824 (by decide)) (cwV 2 hts gL_splits_X5_poolCost rfl rfl rfl (by decide +kernel) ⟨Nat.le_of_ble_eq_true rfl, Nat.le_of_ble_eq_true rfl⟩) (mk_preV hK hN hW 0 (by decide) rfl rfl rfl) rfl rfl hl.1 rfl (lv_room (Nat.le_of_ble_eq_true rfl)) dL_splits_734 ⟨Nat.le_of_ble_eq_true rfl, Nat.le_of_ble_eq_true rfl⟩) hW (fun z st1 hp H locs hW => ?_)
  obtain ⟨e1, e2⟩ := hp
  rw [e1] at hW
  refine mk_sayi (y := 129) ((ev_see hX (by decide) bs14_rf2).pc e2 6 129 (by decide +kernel)) ?_
  refine mk_iadd hx hb dL_splits_737 ?_
  refine mk_sayi (y := 200) (by decide) ?_
  refine mk_sipush hx hb (200) (by decide +kernel) dL_splits_738 ?_
  refine mk_icmp_ne (tgt := 748) hx hb dL_splits_741 (by decide) (by decide) (by decide) (fun h => absurd h (by decide)) (fun _ => ?_)
  exact kk _ _ _ hW hX
end SG_splits
