-- years, in pieces
section SG_years
variable {p : Program} {l : Launch} {e : Env} {s : State} {m : MethodId} {args : Array Value} {below : List Frame} {meth : Method} {c : Code} {H : Heap} {locs : List Loc} {Q : State → Prop} {ls : Array Slot} {D : va_G} {cg : Nat → ClassId} {ad : Nat → Nat} {st : Nat → Nat → Int}
set_option maxHeartbeats 4000000 in
set_option maxRecDepth 100000 in
theorem by_s0 (F : LX p l s m args meth c cL_years 2 wsL_years cg D (fun q => s.heap.size ≤ q)) (hl : lv_has ls 2 [(0, .ref (ad 0))]) (hW : GW D vwCl 73 (celX cg) ad (fun q => s.heap.size ≤ q) s.heap st H locs) (hX : XI st by0)
    (kk : ∀ (st : Nat → Nat → Int) (H : Heap) (locs : List Loc), GW D vwCl 73 (celX cg) ad (fun q => s.heap.size ≤ q) s.heap st H locs → XI st by3 → W p l e (headSpec wsL_years ({ frames := 11, cells := 1000, slots := 6000, locals := 250 })).room s m args below meth c H locs 73 3175 Q (F0 m 101 ls [])) : W p l e (headSpec wsL_years ({ frames := 11, cells := 1000, slots := 6000, locals := 250 })).room s m args below meth c H locs 73 3175 Q (F0 m 8 ls []) := by
  obtain ⟨hx, hb, hml, hown, hts, hlocks, hst, hK, hN, hxK, hxZ, hxN⟩ := id F
  refine lv_aload_n hx hb dL_years_8 rfl (lv_at hl 0 rfl) ?_
  refine mk_iconst hx hb (2) dL_years_9 ?_
  refine mk_iconst hx hb (0) dL_years_10 ?_
  refine mk_bipush hx hb (10) (by decide +kernel) dL_years_11 ?_
  refine mk_sipush hx hb (1000) (by decide +kernel) dL_years_13 ?_
  refine mk_goI (va_runV (As := [.int (iI 2), .int (iI 0), .int (iI 10), .int (iI 1000)]) (rest := []) ⟨hx, hb, hml, hown, hts⟩ (c_X5_buy_2 l cg D ad st by0 hX 0 10 1000 (by decide +kernel) (by decide) (by decide) (by decide)) (cwV 4 hts gL_years_X5_buy rfl rfl rfl (by decide +kernel) ⟨Nat.le_of_ble_eq_true rfl, Nat.le_of_ble_eq_true rfl⟩) (mk_preV hK hN hW 0 (by decide) rfl rfl rfl) rfl rfl hl.1 rfl (lv_room (Nat.le_of_ble_eq_true rfl)) dL_years_16 ⟨Nat.le_of_ble_eq_true rfl, Nat.le_of_ble_eq_true rfl⟩) hW (fun z st1 hp H locs hW => ?_)
  obtain ⟨e1, e2⟩ := hp
  have hX := e1.be by1_eq
  obtain ⟨st, e3⟩ : ∃ q, q = st1 := ⟨_, rfl⟩
  rw [← e3] at hW hX
  refine mk_sayi (y := 0) (e2.trans (by decide +kernel)) ?_
  refine mk_if_ne (tgt := 313) hx hb dL_years_19 (by decide) (by decide) (fun h => absurd h (by decide)) (fun _ => ?_)
  refine lv_aload_n hx hb dL_years_22 rfl (lv_at hl 0 rfl) ?_
  refine mk_iconst hx hb (2) dL_years_23 ?_
  refine mk_bipush hx hb (100) (by decide +kernel) dL_years_24 ?_
  refine mk_iconst hx hb (5) dL_years_26 ?_
  refine mk_bipush hx hb (100) (by decide +kernel) dL_years_27 ?_
  refine mk_goI (va_runV (As := [.int (iI 2), .int (iI 100), .int (iI 5), .int (iI 100)]) (rest := []) ⟨hx, hb, hml, hown, hts⟩ (c_X5_sell_2 l cg D ad st by1 hX 100 5 100 (by decide +kernel) (by decide) (by decide) (by decide) (ev_sp_ok hX (by decide) (by decide +kernel))) (cwV 4 hts gL_years_X5_sell rfl rfl rfl (by decide +kernel) ⟨Nat.le_of_ble_eq_true rfl, Nat.le_of_ble_eq_true rfl⟩) (mk_preV hK hN hW 0 (by decide) rfl rfl rfl) rfl rfl hl.1 rfl (lv_room (Nat.le_of_ble_eq_true rfl)) dL_years_29 ⟨Nat.le_of_ble_eq_true rfl, Nat.le_of_ble_eq_true rfl⟩) hW (fun z st1 hp H locs hW => ?_)
  obtain ⟨e1, e2⟩ := hp
  have hX := e1.be by2_eq
  obtain ⟨st, e3⟩ : ∃ q, q = st1 := ⟨_, rfl⟩
  rw [← e3] at hW hX
  refine mk_sayi (y := 1) (e2.trans (by decide +kernel)) ?_
  refine mk_iconst hx hb (1) dL_years_32 ?_
  refine mk_icmp_ne (tgt := 313) hx hb dL_years_33 (by decide) (by decide) (by decide) (fun h => absurd h (by decide)) (fun _ => ?_)
  refine lv_aload_n hx hb dL_years_36 rfl (lv_at hl 0 rfl) ?_
  refine mk_iconst hx hb (2) dL_years_37 ?_
  refine mk_sipush hx hb (400) (by decide +kernel) dL_years_38 ?_
  refine mk_iconst hx hb (5) dL_years_41 ?_
  refine mk_sipush hx hb (900) (by decide +kernel) dL_years_42 ?_
  refine mk_goI (va_runV (As := [.int (iI 2), .int (iI 400), .int (iI 5), .int (iI 900)]) (rest := []) ⟨hx, hb, hml, hown, hts⟩ (c_X5_sell_2 l cg D ad st by2 hX 400 5 900 (by decide +kernel) (by decide) (by decide) (by decide) (ev_sp_ok hX (by decide) (by decide +kernel))) (cwV 4 hts gL_years_X5_sell rfl rfl rfl (by decide +kernel) ⟨Nat.le_of_ble_eq_true rfl, Nat.le_of_ble_eq_true rfl⟩) (mk_preV hK hN hW 0 (by decide) rfl rfl rfl) rfl rfl hl.1 rfl (lv_room (Nat.le_of_ble_eq_true rfl)) dL_years_45 ⟨Nat.le_of_ble_eq_true rfl, Nat.le_of_ble_eq_true rfl⟩) hW (fun z st1 hp H locs hW => ?_)
  obtain ⟨e1, e2⟩ := hp
  have hX := e1.be by3_eq
  obtain ⟨st, e3⟩ : ∃ q, q = st1 := ⟨_, rfl⟩
  rw [← e3] at hW hX
  refine mk_sayi (y := 2) (e2.trans (by decide +kernel)) ?_
  refine mk_iconst hx hb (2) dL_years_48 ?_
  refine mk_icmp_ne (tgt := 313) hx hb dL_years_49 (by decide) (by decide) (by decide) (fun h => absurd h (by decide)) (fun _ => ?_)
  refine lv_aload_n hx hb dL_years_52 rfl (lv_at hl 0 rfl) ?_
  refine mk_iconst hx hb (0) dL_years_53 ?_
  refine mk_goI (va_runV (As := [.int (iI 0)]) (rest := []) ⟨hx, hb, hml, hown, hts⟩ (c_X5_net l cg D ad st by3 hX 0 (by decide)) (cwV 1 hts gL_years_X5_net rfl rfl rfl (by decide +kernel) ⟨Nat.le_of_ble_eq_true rfl, Nat.le_of_ble_eq_true rfl⟩) (mk_preV hK hN hW 0 (by decide) rfl rfl rfl) rfl rfl hl.1 rfl (lv_room (Nat.le_of_ble_eq_true rfl)) dL_years_54 ⟨Nat.le_of_ble_eq_true rfl, Nat.le_of_ble_eq_true rfl⟩) hW (fun z st1 hp H locs hW => ?_)
  obtain ⟨e1, e2⟩ := hp
  rw [e1] at hW
  refine mk_sayi (y := (-400)) ((by3_ye hX).net 0 (by decide) e2 (-400) (by decide +kernel)) ?_
  refine mk_sipush hx hb (-400) (by decide +kernel) dL_years_57 ?_
  refine mk_icmp_ne (tgt := 313) hx hb dL_years_60 (by decide) (by decide) (by decide) (fun h => absurd h (by decide)) (fun _ => ?_)
  refine lv_aload_n hx hb dL_years_63 rfl (lv_at hl 0 rfl) ?_
  refine mk_iconst hx hb (0) dL_years_64 ?_
  refine mk_goI (va_runV (As := [.int (iI 0)]) (rest := []) ⟨hx, hb, hml, hown, hts⟩ (c_X5_taxable l cg D ad st by3 hX 0 (by decide)) (cwV 1 hts gL_years_X5_taxable rfl rfl rfl (by decide +kernel) ⟨Nat.le_of_ble_eq_true rfl, Nat.le_of_ble_eq_true rfl⟩) (mk_preV hK hN hW 0 (by decide) rfl rfl rfl) rfl rfl hl.1 rfl (lv_room (Nat.le_of_ble_eq_true rfl)) dL_years_65 ⟨Nat.le_of_ble_eq_true rfl, Nat.le_of_ble_eq_true rfl⟩) hW (fun z st1 hp H locs hW => ?_)
  obtain ⟨e1, e2⟩ := hp
  rw [e1] at hW
  refine mk_sayi (y := 0) ((by3_ye hX).tax 0 (by decide) e2 0 (by decide +kernel)) ?_
  refine mk_if_ne (tgt := 313) hx hb dL_years_68 (by decide) (by decide) (fun h => absurd h (by decide)) (fun _ => ?_)
  refine lv_aload_n hx hb dL_years_71 rfl (lv_at hl 0 rfl) ?_
  refine mk_iconst hx hb (0) dL_years_72 ?_
  refine mk_goI (va_runV (As := [.int (iI 0)]) (rest := []) ⟨hx, hb, hml, hown, hts⟩ (c_X5_carried l cg D ad st by3 hX 0 (by decide)) (cwV 1 hts gL_years_X5_carried rfl rfl rfl (by decide +kernel) ⟨Nat.le_of_ble_eq_true rfl, Nat.le_of_ble_eq_true rfl⟩) (mk_preV hK hN hW 0 (by decide) rfl rfl rfl) rfl rfl hl.1 rfl (lv_room (Nat.le_of_ble_eq_true rfl)) dL_years_73 ⟨Nat.le_of_ble_eq_true rfl, Nat.le_of_ble_eq_true rfl⟩) hW (fun z st1 hp H locs hW => ?_)
  obtain ⟨e1, e2⟩ := hp
  rw [e1] at hW
  refine mk_sayi (y := 400) ((by3_ye hX).car 0 (by decide) e2 400 (by decide +kernel)) ?_
  refine mk_sipush hx hb (400) (by decide +kernel) dL_years_76 ?_
  refine mk_icmp_ne (tgt := 313) hx hb dL_years_79 (by decide) (by decide) (by decide) (fun h => absurd h (by decide)) (fun _ => ?_)
  refine lv_aload_n hx hb dL_years_82 rfl (lv_at hl 0 rfl) ?_
  refine mk_iconst hx hb (1) dL_years_83 ?_
  refine mk_goI (va_runV (As := [.int (iI 1)]) (rest := []) ⟨hx, hb, hml, hown, hts⟩ (c_X5_net l cg D ad st by3 hX 1 (by decide)) (cwV 1 hts gL_years_X5_net rfl rfl rfl (by decide +kernel) ⟨Nat.le_of_ble_eq_true rfl, Nat.le_of_ble_eq_true rfl⟩) (mk_preV hK hN hW 0 (by decide) rfl rfl rfl) rfl rfl hl.1 rfl (lv_room (Nat.le_of_ble_eq_true rfl)) dL_years_84 ⟨Nat.le_of_ble_eq_true rfl, Nat.le_of_ble_eq_true rfl⟩) hW (fun z st1 hp H locs hW => ?_)
  obtain ⟨e1, e2⟩ := hp
  rw [e1] at hW
  refine mk_sayi (y := 400) ((by3_ye hX).net 1 (by decide) e2 400 (by decide +kernel)) ?_
  refine mk_sipush hx hb (400) (by decide +kernel) dL_years_87 ?_
  refine mk_icmp_ne (tgt := 313) hx hb dL_years_90 (by decide) (by decide) (by decide) (fun h => absurd h (by decide)) (fun _ => ?_)
  refine lv_aload_n hx hb dL_years_93 rfl (lv_at hl 0 rfl) ?_
  refine mk_iconst hx hb (1) dL_years_94 ?_
  refine mk_goI (va_runV (As := [.int (iI 1)]) (rest := []) ⟨hx, hb, hml, hown, hts⟩ (c_X5_taxable l cg D ad st by3 hX 1 (by decide)) (cwV 1 hts gL_years_X5_taxable rfl rfl rfl (by decide +kernel) ⟨Nat.le_of_ble_eq_true rfl, Nat.le_of_ble_eq_true rfl⟩) (mk_preV hK hN hW 0 (by decide) rfl rfl rfl) rfl rfl hl.1 rfl (lv_room (Nat.le_of_ble_eq_true rfl)) dL_years_95 ⟨Nat.le_of_ble_eq_true rfl, Nat.le_of_ble_eq_true rfl⟩) hW (fun z st1 hp H locs hW => ?_)
  obtain ⟨e1, e2⟩ := hp
  rw [e1] at hW
  refine mk_sayi (y := 0) ((by3_ye hX).tax 1 (by decide) e2 0 (by decide +kernel)) ?_
  refine mk_if_ne (tgt := 313) hx hb dL_years_98 (by decide) (by decide) (fun h => absurd h (by decide)) (fun _ => ?_)
  exact kk _ _ _ hW hX
set_option maxHeartbeats 4000000 in
set_option maxRecDepth 100000 in
theorem by_s1 (F : LX p l s m args meth c cL_years 2 wsL_years cg D (fun q => s.heap.size ≤ q)) (hl : lv_has ls 2 [(0, .ref (ad 0))]) (hW : GW D vwCl 73 (celX cg) ad (fun q => s.heap.size ≤ q) s.heap st H locs) (hX : XI st by3)
    (kk : ∀ (st : Nat → Nat → Int) (H : Heap) (locs : List Loc), GW D vwCl 73 (celX cg) ad (fun q => s.heap.size ≤ q) s.heap st H locs → XI st by6 → W p l e (headSpec wsL_years ({ frames := 11, cells := 1000, slots := 6000, locals := 250 })).room s m args below meth c H locs 73 3175 Q (F0 m 192 ls [])) : W p l e (headSpec wsL_years ({ frames := 11, cells := 1000, slots := 6000, locals := 250 })).room s m args below meth c H locs 73 3175 Q (F0 m 101 ls []) := by
  obtain ⟨hx, hb, hml, hown, hts, hlocks, hst, hK, hN, hxK, hxZ, hxN⟩ := id F
  refine lv_aload_n hx hb dL_years_101 rfl (lv_at hl 0 rfl) ?_
  refine mk_iconst hx hb (1) dL_years_102 ?_
  refine mk_goI (va_runV (As := [.int (iI 1)]) (rest := []) ⟨hx, hb, hml, hown, hts⟩ (c_X5_carried l cg D ad st by3 hX 1 (by decide)) (cwV 1 hts gL_years_X5_carried rfl rfl rfl (by decide +kernel) ⟨Nat.le_of_ble_eq_true rfl, Nat.le_of_ble_eq_true rfl⟩) (mk_preV hK hN hW 0 (by decide) rfl rfl rfl) rfl rfl hl.1 rfl (lv_room (Nat.le_of_ble_eq_true rfl)) dL_years_103 ⟨Nat.le_of_ble_eq_true rfl, Nat.le_of_ble_eq_true rfl⟩) hW (fun z st1 hp H locs hW => ?_)
  obtain ⟨e1, e2⟩ := hp
  rw [e1] at hW
  refine mk_sayi (y := 0) ((by3_ye hX).car 1 (by decide) e2 0 (by decide +kernel)) ?_
  refine mk_if_ne (tgt := 313) hx hb dL_years_106 (by decide) (by decide) (fun h => absurd h (by decide)) (fun _ => ?_)
  refine lv_aload_n hx hb dL_years_109 rfl (lv_at hl 0 rfl) ?_
  refine mk_iconst hx hb (1) dL_years_110 ?_
  refine mk_sipush hx hb (150) (by decide +kernel) dL_years_111 ?_
  refine mk_goI (va_runV (As := [.int (iI 1), .int (iI 150)]) (rest := []) ⟨hx, hb, hml, hown, hts⟩ (c_X5_setAllowance l cg D ad st by3 hX 1 150 (by decide) (by decide)) (cwV 2 hts gL_years_X5_setAllowance rfl rfl rfl (by decide +kernel) ⟨Nat.le_of_ble_eq_true rfl, Nat.le_of_ble_eq_true rfl⟩) (mk_preV hK hN hW 0 (by decide) rfl rfl rfl) rfl rfl hl.1 rfl (lv_room (Nat.le_of_ble_eq_true rfl)) dL_years_114 ⟨Nat.le_of_ble_eq_true rfl, Nat.le_of_ble_eq_true rfl⟩) hW (fun z st1 hp H locs hW => ?_)
  obtain ⟨e1, e2⟩ := hp
  have hX := e1.be by4_eq
  obtain ⟨st, e3⟩ : ∃ q, q = st1 := ⟨_, rfl⟩
  rw [← e3] at hW hX
  refine mk_sayi (y := 0) (e2.trans (by decide +kernel)) ?_
  refine mk_if_ne (tgt := 313) hx hb dL_years_117 (by decide) (by decide) (fun h => absurd h (by decide)) (fun _ => ?_)
  refine lv_aload_n hx hb dL_years_120 rfl (lv_at hl 0 rfl) ?_
  refine mk_iconst hx hb (1) dL_years_121 ?_
  refine mk_goI (va_runV (As := [.int (iI 1)]) (rest := []) ⟨hx, hb, hml, hown, hts⟩ (c_X5_taxable l cg D ad st by4 hX 1 (by decide)) (cwV 1 hts gL_years_X5_taxable rfl rfl rfl (by decide +kernel) ⟨Nat.le_of_ble_eq_true rfl, Nat.le_of_ble_eq_true rfl⟩) (mk_preV hK hN hW 0 (by decide) rfl rfl rfl) rfl rfl hl.1 rfl (lv_room (Nat.le_of_ble_eq_true rfl)) dL_years_122 ⟨Nat.le_of_ble_eq_true rfl, Nat.le_of_ble_eq_true rfl⟩) hW (fun z st1 hp H locs hW => ?_)
  obtain ⟨e1, e2⟩ := hp
  rw [e1] at hW
  refine mk_sayi (y := 0) ((by4_ye hX).tax 1 (by decide) e2 0 (by decide +kernel)) ?_
  refine mk_if_ne (tgt := 313) hx hb dL_years_125 (by decide) (by decide) (fun h => absurd h (by decide)) (fun _ => ?_)
  refine lv_aload_n hx hb dL_years_128 rfl (lv_at hl 0 rfl) ?_
  refine mk_iconst hx hb (1) dL_years_129 ?_
  refine mk_goI (va_runV (As := [.int (iI 1)]) (rest := []) ⟨hx, hb, hml, hown, hts⟩ (c_X5_carried l cg D ad st by4 hX 1 (by decide)) (cwV 1 hts gL_years_X5_carried rfl rfl rfl (by decide +kernel) ⟨Nat.le_of_ble_eq_true rfl, Nat.le_of_ble_eq_true rfl⟩) (mk_preV hK hN hW 0 (by decide) rfl rfl rfl) rfl rfl hl.1 rfl (lv_room (Nat.le_of_ble_eq_true rfl)) dL_years_130 ⟨Nat.le_of_ble_eq_true rfl, Nat.le_of_ble_eq_true rfl⟩) hW (fun z st1 hp H locs hW => ?_)
  obtain ⟨e1, e2⟩ := hp
  rw [e1] at hW
  refine mk_sayi (y := 150) ((by4_ye hX).car 1 (by decide) e2 150 (by decide +kernel)) ?_
  refine mk_sipush hx hb (150) (by decide +kernel) dL_years_133 ?_
  refine mk_icmp_ne (tgt := 313) hx hb dL_years_136 (by decide) (by decide) (by decide) (fun h => absurd h (by decide)) (fun _ => ?_)
  refine lv_aload_n hx hb dL_years_139 rfl (lv_at hl 0 rfl) ?_
  refine mk_iconst hx hb (0) dL_years_140 ?_
  refine mk_sipush hx hb (800) (by decide +kernel) dL_years_141 ?_
  refine mk_iconst hx hb (1) dL_years_144 ?_
  refine mk_iconst hx hb (0) dL_years_145 ?_
  refine mk_goI (va_runV (As := [.int (iI 0), .int (iI 800), .int (iI 1), .int (iI 0)]) (rest := []) ⟨hx, hb, hml, hown, hts⟩ (c_X5_buy_0 l cg D ad st by4 hX 800 1 0 (by decide +kernel) (by decide) (by decide) (by decide)) (cwV 4 hts gL_years_X5_buy rfl rfl rfl (by decide +kernel) ⟨Nat.le_of_ble_eq_true rfl, Nat.le_of_ble_eq_true rfl⟩) (mk_preV hK hN hW 0 (by decide) rfl rfl rfl) rfl rfl hl.1 rfl (lv_room (Nat.le_of_ble_eq_true rfl)) dL_years_146 ⟨Nat.le_of_ble_eq_true rfl, Nat.le_of_ble_eq_true rfl⟩) hW (fun z st1 hp H locs hW => ?_)
  obtain ⟨e1, e2⟩ := hp
  have hX := e1.be by5_eq
  obtain ⟨st, e3⟩ : ∃ q, q = st1 := ⟨_, rfl⟩
  rw [← e3] at hW hX
  refine mk_sayi (y := 3) (e2.trans (by decide +kernel)) ?_
  refine mk_iconst hx hb (3) dL_years_149 ?_
  refine mk_icmp_ne (tgt := 313) hx hb dL_years_150 (by decide) (by decide) (by decide) (fun h => absurd h (by decide)) (fun _ => ?_)
  refine lv_aload_n hx hb dL_years_153 rfl (lv_at hl 0 rfl) ?_
  refine mk_iconst hx hb (0) dL_years_154 ?_
  refine mk_sipush hx hb (900) (by decide +kernel) dL_years_155 ?_
  refine mk_iconst hx hb (1) dL_years_158 ?_
  refine mk_sipush hx hb (500) (by decide +kernel) dL_years_159 ?_
  refine mk_goI (va_runV (As := [.int (iI 0), .int (iI 900), .int (iI 1), .int (iI 500)]) (rest := []) ⟨hx, hb, hml, hown, hts⟩ (c_X5_sell_0 l cg D ad st by5 hX 900 1 500 (by decide +kernel) (by decide) (by decide) (by decide) (ev_sp_ok hX (by decide) (by decide +kernel))) (cwV 4 hts gL_years_X5_sell rfl rfl rfl (by decide +kernel) ⟨Nat.le_of_ble_eq_true rfl, Nat.le_of_ble_eq_true rfl⟩) (mk_preV hK hN hW 0 (by decide) rfl rfl rfl) rfl rfl hl.1 rfl (lv_room (Nat.le_of_ble_eq_true rfl)) dL_years_162 ⟨Nat.le_of_ble_eq_true rfl, Nat.le_of_ble_eq_true rfl⟩) hW (fun z st1 hp H locs hW => ?_)
  obtain ⟨e1, e2⟩ := hp
  have hX := e1.be by6_eq
  obtain ⟨st, e3⟩ : ∃ q, q = st1 := ⟨_, rfl⟩
  rw [← e3] at hW hX
  refine mk_sayi (y := 4) (e2.trans (by decide +kernel)) ?_
  refine mk_iconst hx hb (4) dL_years_165 ?_
  refine mk_icmp_ne (tgt := 313) hx hb dL_years_166 (by decide) (by decide) (by decide) (fun h => absurd h (by decide)) (fun _ => ?_)
  refine lv_aload_n hx hb dL_years_169 rfl (lv_at hl 0 rfl) ?_
  refine mk_iconst hx hb (0) dL_years_170 ?_
  refine mk_iconst hx hb (2) dL_years_171 ?_
  refine mk_goI (va_runV (As := [.int (iI 0), .int (iI 2)]) (rest := []) ⟨hx, hb, hml, hown, hts⟩ (c_X5_gain_0 l cg D ad st by6 hX 2 (by decide)) (cwV 2 hts gL_years_X5_gain rfl rfl rfl (by decide +kernel) ⟨Nat.le_of_ble_eq_true rfl, Nat.le_of_ble_eq_true rfl⟩) (mk_preV hK hN hW 0 (by decide) rfl rfl rfl) rfl rfl hl.1 rfl (lv_room (Nat.le_of_ble_eq_true rfl)) dL_years_172 ⟨Nat.le_of_ble_eq_true rfl, Nat.le_of_ble_eq_true rfl⟩) hW (fun z st1 hp H locs hW => ?_)
  obtain ⟨e1, e2⟩ := hp
  rw [e1] at hW
  refine mk_sayi (y := 500) ((ev_see hX (by decide) by6_rf0).gain e2 500 (by decide +kernel)) ?_
  refine mk_sipush hx hb (500) (by decide +kernel) dL_years_175 ?_
  refine mk_icmp_ne (tgt := 313) hx hb dL_years_178 (by decide) (by decide) (by decide) (fun h => absurd h (by decide)) (fun _ => ?_)
  refine lv_aload_n hx hb dL_years_181 rfl (lv_at hl 0 rfl) ?_
  refine mk_iconst hx hb (2) dL_years_182 ?_
  refine mk_goI (va_runV (As := [.int (iI 2)]) (rest := []) ⟨hx, hb, hml, hown, hts⟩ (c_X5_net l cg D ad st by6 hX 2 (by decide)) (cwV 1 hts gL_years_X5_net rfl rfl rfl (by decide +kernel) ⟨Nat.le_of_ble_eq_true rfl, Nat.le_of_ble_eq_true rfl⟩) (mk_preV hK hN hW 0 (by decide) rfl rfl rfl) rfl rfl hl.1 rfl (lv_room (Nat.le_of_ble_eq_true rfl)) dL_years_183 ⟨Nat.le_of_ble_eq_true rfl, Nat.le_of_ble_eq_true rfl⟩) hW (fun z st1 hp H locs hW => ?_)
  obtain ⟨e1, e2⟩ := hp
  rw [e1] at hW
  refine mk_sayi (y := 500) ((by6_ye hX).net 2 (by decide) e2 500 (by decide +kernel)) ?_
  refine mk_sipush hx hb (500) (by decide +kernel) dL_years_186 ?_
  refine mk_icmp_ne (tgt := 313) hx hb dL_years_189 (by decide) (by decide) (by decide) (fun h => absurd h (by decide)) (fun _ => ?_)
  exact kk _ _ _ hW hX
set_option maxHeartbeats 4000000 in
set_option maxRecDepth 100000 in
theorem by_s2 (F : LX p l s m args meth c cL_years 2 wsL_years cg D (fun q => s.heap.size ≤ q)) (hl : lv_has ls 2 [(0, .ref (ad 0))]) (hW : GW D vwCl 73 (celX cg) ad (fun q => s.heap.size ≤ q) s.heap st H locs) (hX : XI st by6)
    (kk : ∀ (st : Nat → Nat → Int) (H : Heap) (locs : List Loc), GW D vwCl 73 (celX cg) ad (fun q => s.heap.size ≤ q) s.heap st H locs → XI st by8 → W p l e (headSpec wsL_years ({ frames := 11, cells := 1000, slots := 6000, locals := 250 })).room s m args below meth c H locs 73 3175 Q (F0 m 274 ls [])) : W p l e (headSpec wsL_years ({ frames := 11, cells := 1000, slots := 6000, locals := 250 })).room s m args below meth c H locs 73 3175 Q (F0 m 192 ls []) := by
  obtain ⟨hx, hb, hml, hown, hts, hlocks, hst, hK, hN, hxK, hxZ, hxN⟩ := id F
  refine lv_aload_n hx hb dL_years_192 rfl (lv_at hl 0 rfl) ?_
  refine mk_iconst hx hb (2) dL_years_193 ?_
  refine mk_goI (va_runV (As := [.int (iI 2)]) (rest := []) ⟨hx, hb, hml, hown, hts⟩ (c_X5_taxable l cg D ad st by6 hX 2 (by decide)) (cwV 1 hts gL_years_X5_taxable rfl rfl rfl (by decide +kernel) ⟨Nat.le_of_ble_eq_true rfl, Nat.le_of_ble_eq_true rfl⟩) (mk_preV hK hN hW 0 (by decide) rfl rfl rfl) rfl rfl hl.1 rfl (lv_room (Nat.le_of_ble_eq_true rfl)) dL_years_194 ⟨Nat.le_of_ble_eq_true rfl, Nat.le_of_ble_eq_true rfl⟩) hW (fun z st1 hp H locs hW => ?_)
  obtain ⟨e1, e2⟩ := hp
  rw [e1] at hW
  refine mk_sayi (y := 350) ((by6_ye hX).tax 2 (by decide) e2 350 (by decide +kernel)) ?_
  refine mk_sipush hx hb (350) (by decide +kernel) dL_years_197 ?_
  refine mk_icmp_ne (tgt := 313) hx hb dL_years_200 (by decide) (by decide) (by decide) (fun h => absurd h (by decide)) (fun _ => ?_)
  refine lv_aload_n hx hb dL_years_203 rfl (lv_at hl 0 rfl) ?_
  refine mk_iconst hx hb (2) dL_years_204 ?_
  refine mk_goI (va_runV (As := [.int (iI 2)]) (rest := []) ⟨hx, hb, hml, hown, hts⟩ (c_X5_carried l cg D ad st by6 hX 2 (by decide)) (cwV 1 hts gL_years_X5_carried rfl rfl rfl (by decide +kernel) ⟨Nat.le_of_ble_eq_true rfl, Nat.le_of_ble_eq_true rfl⟩) (mk_preV hK hN hW 0 (by decide) rfl rfl rfl) rfl rfl hl.1 rfl (lv_room (Nat.le_of_ble_eq_true rfl)) dL_years_205 ⟨Nat.le_of_ble_eq_true rfl, Nat.le_of_ble_eq_true rfl⟩) hW (fun z st1 hp H locs hW => ?_)
  obtain ⟨e1, e2⟩ := hp
  rw [e1] at hW
  refine mk_sayi (y := 0) ((by6_ye hX).car 2 (by decide) e2 0 (by decide +kernel)) ?_
  refine mk_if_ne (tgt := 313) hx hb dL_years_208 (by decide) (by decide) (fun h => absurd h (by decide)) (fun _ => ?_)
  refine lv_aload_n hx hb dL_years_211 rfl (lv_at hl 0 rfl) ?_
  refine mk_iconst hx hb (4) dL_years_212 ?_
  refine mk_goI (va_runV (As := [.int (iI 4)]) (rest := []) ⟨hx, hb, hml, hown, hts⟩ (c_X5_carried l cg D ad st by6 hX 4 (by decide)) (cwV 1 hts gL_years_X5_carried rfl rfl rfl (by decide +kernel) ⟨Nat.le_of_ble_eq_true rfl, Nat.le_of_ble_eq_true rfl⟩) (mk_preV hK hN hW 0 (by decide) rfl rfl rfl) rfl rfl hl.1 rfl (lv_room (Nat.le_of_ble_eq_true rfl)) dL_years_213 ⟨Nat.le_of_ble_eq_true rfl, Nat.le_of_ble_eq_true rfl⟩) hW (fun z st1 hp H locs hW => ?_)
  obtain ⟨e1, e2⟩ := hp
  rw [e1] at hW
  refine mk_sayi (y := 0) ((by6_ye hX).car 4 (by decide) e2 0 (by decide +kernel)) ?_
  refine mk_if_ne (tgt := 313) hx hb dL_years_216 (by decide) (by decide) (fun h => absurd h (by decide)) (fun _ => ?_)
  refine lv_aload_n hx hb dL_years_219 rfl (lv_at hl 0 rfl) ?_
  refine mk_iconst hx hb (2) dL_years_220 ?_
  refine mk_sipush hx hb (600) (by decide +kernel) dL_years_221 ?_
  refine mk_goI (va_runV (As := [.int (iI 2), .int (iI 600)]) (rest := []) ⟨hx, hb, hml, hown, hts⟩ (c_X5_setAllowance l cg D ad st by6 hX 2 600 (by decide) (by decide)) (cwV 2 hts gL_years_X5_setAllowance rfl rfl rfl (by decide +kernel) ⟨Nat.le_of_ble_eq_true rfl, Nat.le_of_ble_eq_true rfl⟩) (mk_preV hK hN hW 0 (by decide) rfl rfl rfl) rfl rfl hl.1 rfl (lv_room (Nat.le_of_ble_eq_true rfl)) dL_years_224 ⟨Nat.le_of_ble_eq_true rfl, Nat.le_of_ble_eq_true rfl⟩) hW (fun z st1 hp H locs hW => ?_)
  obtain ⟨e1, e2⟩ := hp
  have hX := e1.be by7_eq
  obtain ⟨st, e3⟩ : ∃ q, q = st1 := ⟨_, rfl⟩
  rw [← e3] at hW hX
  refine mk_sayi (y := 0) (e2.trans (by decide +kernel)) ?_
  refine mk_if_ne (tgt := 313) hx hb dL_years_227 (by decide) (by decide) (fun h => absurd h (by decide)) (fun _ => ?_)
  refine lv_aload_n hx hb dL_years_230 rfl (lv_at hl 0 rfl) ?_
  refine mk_iconst hx hb (2) dL_years_231 ?_
  refine mk_goI (va_runV (As := [.int (iI 2)]) (rest := []) ⟨hx, hb, hml, hown, hts⟩ (c_X5_taxable l cg D ad st by7 hX 2 (by decide)) (cwV 1 hts gL_years_X5_taxable rfl rfl rfl (by decide +kernel) ⟨Nat.le_of_ble_eq_true rfl, Nat.le_of_ble_eq_true rfl⟩) (mk_preV hK hN hW 0 (by decide) rfl rfl rfl) rfl rfl hl.1 rfl (lv_room (Nat.le_of_ble_eq_true rfl)) dL_years_232 ⟨Nat.le_of_ble_eq_true rfl, Nat.le_of_ble_eq_true rfl⟩) hW (fun z st1 hp H locs hW => ?_)
  obtain ⟨e1, e2⟩ := hp
  rw [e1] at hW
  refine mk_sayi (y := 0) ((by7_ye hX).tax 2 (by decide) e2 0 (by decide +kernel)) ?_
  refine mk_if_ne (tgt := 313) hx hb dL_years_235 (by decide) (by decide) (fun h => absurd h (by decide)) (fun _ => ?_)
  refine lv_aload_n hx hb dL_years_238 rfl (lv_at hl 0 rfl) ?_
  refine mk_iconst hx hb (2) dL_years_239 ?_
  refine mk_goI (va_runV (As := [.int (iI 2)]) (rest := []) ⟨hx, hb, hml, hown, hts⟩ (c_X5_carried l cg D ad st by7 hX 2 (by decide)) (cwV 1 hts gL_years_X5_carried rfl rfl rfl (by decide +kernel) ⟨Nat.le_of_ble_eq_true rfl, Nat.le_of_ble_eq_true rfl⟩) (mk_preV hK hN hW 0 (by decide) rfl rfl rfl) rfl rfl hl.1 rfl (lv_room (Nat.le_of_ble_eq_true rfl)) dL_years_240 ⟨Nat.le_of_ble_eq_true rfl, Nat.le_of_ble_eq_true rfl⟩) hW (fun z st1 hp H locs hW => ?_)
  obtain ⟨e1, e2⟩ := hp
  rw [e1] at hW
  refine mk_sayi (y := 150) ((by7_ye hX).car 2 (by decide) e2 150 (by decide +kernel)) ?_
  refine mk_sipush hx hb (150) (by decide +kernel) dL_years_243 ?_
  refine mk_icmp_ne (tgt := 313) hx hb dL_years_246 (by decide) (by decide) (by decide) (fun h => absurd h (by decide)) (fun _ => ?_)
  refine lv_aload_n hx hb dL_years_249 rfl (lv_at hl 0 rfl) ?_
  refine mk_iconst hx hb (1) dL_years_250 ?_
  refine mk_sipush hx hb (1000) (by decide +kernel) dL_years_251 ?_
  refine mk_goI (va_runV (As := [.int (iI 1), .int (iI 1000)]) (rest := []) ⟨hx, hb, hml, hown, hts⟩ (c_X5_setAllowance l cg D ad st by7 hX 1 1000 (by decide) (by decide)) (cwV 2 hts gL_years_X5_setAllowance rfl rfl rfl (by decide +kernel) ⟨Nat.le_of_ble_eq_true rfl, Nat.le_of_ble_eq_true rfl⟩) (mk_preV hK hN hW 0 (by decide) rfl rfl rfl) rfl rfl hl.1 rfl (lv_room (Nat.le_of_ble_eq_true rfl)) dL_years_254 ⟨Nat.le_of_ble_eq_true rfl, Nat.le_of_ble_eq_true rfl⟩) hW (fun z st1 hp H locs hW => ?_)
  obtain ⟨e1, e2⟩ := hp
  have hX := e1.be by8_eq
  obtain ⟨st, e3⟩ : ∃ q, q = st1 := ⟨_, rfl⟩
  rw [← e3] at hW hX
  refine mk_sayi (y := 150) (e2.trans (by decide +kernel)) ?_
  refine mk_sipush hx hb (150) (by decide +kernel) dL_years_257 ?_
  refine mk_icmp_ne (tgt := 313) hx hb dL_years_260 (by decide) (by decide) (by decide) (fun h => absurd h (by decide)) (fun _ => ?_)
  refine lv_aload_n hx hb dL_years_263 rfl (lv_at hl 0 rfl) ?_
  refine mk_iconst hx hb (1) dL_years_264 ?_
  refine mk_goI (va_runV (As := [.int (iI 1)]) (rest := []) ⟨hx, hb, hml, hown, hts⟩ (c_X5_carried l cg D ad st by8 hX 1 (by decide)) (cwV 1 hts gL_years_X5_carried rfl rfl rfl (by decide +kernel) ⟨Nat.le_of_ble_eq_true rfl, Nat.le_of_ble_eq_true rfl⟩) (mk_preV hK hN hW 0 (by decide) rfl rfl rfl) rfl rfl hl.1 rfl (lv_room (Nat.le_of_ble_eq_true rfl)) dL_years_265 ⟨Nat.le_of_ble_eq_true rfl, Nat.le_of_ble_eq_true rfl⟩) hW (fun z st1 hp H locs hW => ?_)
  obtain ⟨e1, e2⟩ := hp
  rw [e1] at hW
  refine mk_sayi (y := 400) ((by8_ye hX).car 1 (by decide) e2 400 (by decide +kernel)) ?_
  refine mk_sipush hx hb (400) (by decide +kernel) dL_years_268 ?_
  refine mk_icmp_ne (tgt := 313) hx hb dL_years_271 (by decide) (by decide) (by decide) (fun h => absurd h (by decide)) (fun _ => ?_)
  exact kk _ _ _ hW hX
set_option maxHeartbeats 4000000 in
set_option maxRecDepth 100000 in
theorem by_s3 (F : LX p l s m args meth c cL_years 2 wsL_years cg D (fun q => s.heap.size ≤ q)) (hl : lv_has ls 2 [(0, .ref (ad 0))]) (hW : GW D vwCl 73 (celX cg) ad (fun q => s.heap.size ≤ q) s.heap st H locs) (hX : XI st by8)
    (kk : ∀ (st : Nat → Nat → Int) (H : Heap) (locs : List Loc), GW D vwCl 73 (celX cg) ad (fun q => s.heap.size ≤ q) s.heap st H locs → XI st by9 → W p l e (headSpec wsL_years ({ frames := 11, cells := 1000, slots := 6000, locals := 250 })).room s m args below meth c H locs 237 4159 Q (F0 m 315 ls [])) : W p l e (headSpec wsL_years ({ frames := 11, cells := 1000, slots := 6000, locals := 250 })).room s m args below meth c H locs 73 3175 Q (F0 m 274 ls []) := by
  obtain ⟨hx, hb, hml, hown, hts, hlocks, hst, hK, hN, hxK, hxZ, hxN⟩ := id F
  refine lv_aload_n hx hb dL_years_274 rfl (lv_at hl 0 rfl) ?_
  refine mk_iconst hx hb (4) dL_years_275 ?_
  refine mk_goI (va_runV (As := [.int (iI 4)]) (rest := []) ⟨hx, hb, hml, hown, hts⟩ (c_X5_carried l cg D ad st by8 hX 4 (by decide)) (cwV 1 hts gL_years_X5_carried rfl rfl rfl (by decide +kernel) ⟨Nat.le_of_ble_eq_true rfl, Nat.le_of_ble_eq_true rfl⟩) (mk_preV hK hN hW 0 (by decide) rfl rfl rfl) rfl rfl hl.1 rfl (lv_room (Nat.le_of_ble_eq_true rfl)) dL_years_276 ⟨Nat.le_of_ble_eq_true rfl, Nat.le_of_ble_eq_true rfl⟩) hW (fun z st1 hp H locs hW => ?_)
  obtain ⟨e1, e2⟩ := hp
  rw [e1] at hW
  refine mk_sayi (y := 400) ((by8_ye hX).car 4 (by decide) e2 400 (by decide +kernel)) ?_
  refine mk_sipush hx hb (400) (by decide +kernel) dL_years_279 ?_
  refine mk_icmp_ne (tgt := 313) hx hb dL_years_282 (by decide) (by decide) (by decide) (fun h => absurd h (by decide)) (fun _ => ?_)
  refine lv_aload_n hx hb dL_years_285 rfl (lv_at hl 0 rfl) ?_
  refine mk_iconst hx hb (0) dL_years_286 ?_
  refine mk_bipush hx hb (50) (by decide +kernel) dL_years_287 ?_
  refine mk_goI (va_runV (As := [.int (iI 0), .int (iI 50)]) (rest := []) ⟨hx, hb, hml, hown, hts⟩ (c_X5_setAllowance l cg D ad st by8 hX 0 50 (by decide) (by decide)) (cwV 2 hts gL_years_X5_setAllowance rfl rfl rfl (by decide +kernel) ⟨Nat.le_of_ble_eq_true rfl, Nat.le_of_ble_eq_true rfl⟩) (mk_preV hK hN hW 0 (by decide) rfl rfl rfl) rfl rfl hl.1 rfl (lv_room (Nat.le_of_ble_eq_true rfl)) dL_years_289 ⟨Nat.le_of_ble_eq_true rfl, Nat.le_of_ble_eq_true rfl⟩) hW (fun z st1 hp H locs hW => ?_)
  obtain ⟨e1, e2⟩ := hp
  have hX := e1.be by9_eq
  obtain ⟨st, e3⟩ : ∃ q, q = st1 := ⟨_, rfl⟩
  rw [← e3] at hW hX
  refine mk_sayi (y := 0) (e2.trans (by decide +kernel)) ?_
  refine mk_if_ne (tgt := 313) hx hb dL_years_292 (by decide) (by decide) (fun h => absurd h (by decide)) (fun _ => ?_)
  refine lv_aload_n hx hb dL_years_295 rfl (lv_at hl 0 rfl) ?_
  refine mk_iconst hx hb (0) dL_years_296 ?_
  refine mk_goI (va_runV (As := [.int (iI 0)]) (rest := []) ⟨hx, hb, hml, hown, hts⟩ (c_X5_carried l cg D ad st by9 hX 0 (by decide)) (cwV 1 hts gL_years_X5_carried rfl rfl rfl (by decide +kernel) ⟨Nat.le_of_ble_eq_true rfl, Nat.le_of_ble_eq_true rfl⟩) (mk_preV hK hN hW 0 (by decide) rfl rfl rfl) rfl rfl hl.1 rfl (lv_room (Nat.le_of_ble_eq_true rfl)) dL_years_297 ⟨Nat.le_of_ble_eq_true rfl, Nat.le_of_ble_eq_true rfl⟩) hW (fun z st1 hp H locs hW => ?_)
  obtain ⟨e1, e2⟩ := hp
  rw [e1] at hW
  refine mk_sayi (y := 400) ((by9_ye hX).car 0 (by decide) e2 400 (by decide +kernel)) ?_
  refine mk_sipush hx hb (400) (by decide +kernel) dL_years_300 ?_
  refine mk_icmp_ne (tgt := 313) hx hb dL_years_303 (by decide) (by decide) (by decide) (fun h => absurd h (by decide)) (fun _ => ?_)
  refine lv_aload_n hx hb dL_years_306 rfl (lv_at hl 0 rfl) ?_
  refine mw_goIs (va_runS (As := [.ref (ad 0)]) (rest := []) ⟨hx, hb, hml, hown, hts⟩ (c_L_refuses l cg D ad st hst by9 hX) (cwS 1 hts gL_years_L_refuses rfl rfl rfl (by decide +kernel) ⟨Nat.le_of_ble_eq_true rfl, Nat.le_of_ble_eq_true rfl⟩) (mw_preS hK hN hxK hxZ hxN hW) rfl rfl hl.1 rfl (lv_room (Nat.le_of_ble_eq_true rfl)) dL_years_307 ⟨Nat.le_of_ble_eq_true rfl, Nat.le_of_ble_eq_true rfl⟩) hW (fun z st1 hp H locs hW => ?_)
  obtain ⟨e1, e2⟩ := hp
  rw [e2] at hW
  subst e1
  refine mk_if_ne (tgt := 315) hx hb dL_years_310 (by decide) (by decide) (fun _ => ?_) (fun h => absurd h (by decide))
  exact kk _ _ _ hW hX
end SG_years
