-- refuses
section RFS
variable {p : Program} {l : Launch} {e : Env} {s : State} {m : MethodId} {args : Array Value} {below : List Frame} {meth : Method} {c : Code} {H : Heap} {locs : List Loc} {Q : State → Prop} {ls : Array Slot} {D : va_G} {cg : Nat → ClassId} {ad : Nat → Nat} {st b : Nat → Nat → Int}
set_option maxHeartbeats 4000000 in
set_option maxRecDepth 100000 in
theorem rs_1_a (F : LX p l s m args meth c cL_refuses 14 wsL_refuses cg D (wA 73 ad)) (hW : GW D vwCl 73 (celX cg) ad (wA 73 ad) s.heap st H locs) (hX : XI st b) (hl : lv_has ls 14 [(5, .int (iI 1)), (13, .int (iI 21)), (12, .int (iI 1)), (11, .int (iI (-1))), (10, .int (iI 0)), (9, .int (iI (-1))), (8, .int (iI (-1))), (7, .int (iI (-1))), (6, .int (iI (-1))), (4, .int (iI 2147483647)), (3, .int (iI (bH b 0 1824 / fla (bSD b 0) (bSF b 0) (bM b 0) 1824))), (2, .int (iI (yN b (xR st) (xD st) 0))), (1, .int (iI (b 0 0))), (0, .ref (ad 0))])
    (kk : ∀ (ls : Array Slot) (H : Heap) (locs : List Loc), lv_has ls 14 [(11, .int (iI 1000001)), (10, .int (iI 1001)), (9, .int (iI 5)), (8, .int (iI 1825)), (7, .int (iI 3)), (6, .int (iI (-2147483648))), (5, .int (iI 1)), (13, .int (iI 21)), (12, .int (iI 1)), (4, .int (iI 2147483647)), (3, .int (iI (bH b 0 1824 / fla (bSD b 0) (bSF b 0) (bM b 0) 1824))), (2, .int (iI (yN b (xR st) (xD st) 0))), (1, .int (iI (b 0 0))), (0, .ref (ad 0))] → GW D vwCl 73 (celX cg) ad (wA 73 ad) s.heap st H locs → W p l e (headSpec wsL_refuses ({ frames := 10, cells := 164, slots := 984, locals := 210 })).room s m args below meth c H locs 41 246 Q (F0 m 144 ls [])) : W p l e (headSpec wsL_refuses ({ frames := 10, cells := 164, slots := 984, locals := 210 })).room s m args below meth c H locs 41 246 Q (F0 m 27 ls []) := by
  obtain ⟨hx, hb, hml, hown, hts, hlocks, hst, hK, hN, hxK, hxZ, hxN⟩ := id F
  have hn0 := hX.1.1
  have hn6 := hX.1.n60
  have hlen : (bAA b 0 (xR st 0) (xD st 0)).length ≤ 60 := (hX.2.2.1 0 (by decide)).len hX.1 (by decide)
  refine lv_iload hx hb dL_refuses_27 (lv_at hl 0 rfl) ?_
  refine mk_iconst hx hb (4) dL_refuses_29 ?_
  refine mk_icmp_ge (tgt := 666) hx hb dL_refuses_30 (by decide) (by decide) (by decide) (fun h => absurd h (by decide)) (fun _ => ?_)
  refine lv_iload hx hb dL_refuses_33 (lv_at hl 0 rfl) ?_
  refine mk_if_ne (tgt := 42) hx hb dL_refuses_35 (by decide) (by decide) (fun _ => ?_) (fun h => absurd h (by decide))
  refine lv_iload hx hb dL_refuses_42 (lv_at hl 0 rfl) ?_
  refine mk_iconst hx hb (2) dL_refuses_44 ?_
  refine mk_icmp_ne (tgt := 53) hx hb dL_refuses_45 (by decide) (by decide) (by decide) (fun _ => ?_) (fun h => absurd h (by decide))
  refine lv_iload hx hb dL_refuses_53 (lv_at hl 9 rfl) ?_
  refine mk_ineg hx hb dL_refuses_55 ?_
  refine mk_sayi (y := (-2147483647)) (by decide) ?_
  refine mk_iconst hx hb (1) dL_refuses_56 ?_
  refine mk_isub hx hb dL_refuses_57 ?_
  refine mk_sayi (y := (-2147483648)) (by decide) ?_
  refine lv_istore (lv' := [(6, .int (iI (-2147483648))), (5, .int (iI 1)), (13, .int (iI 21)), (12, .int (iI 1)), (11, .int (iI (-1))), (10, .int (iI 0)), (9, .int (iI (-1))), (8, .int (iI (-1))), (7, .int (iI (-1))), (4, .int (iI 2147483647)), (3, .int (iI (bH b 0 1824 / fla (bSD b 0) (bSF b 0) (bM b 0) 1824))), (2, .int (iI (yN b (xR st) (xD st) 0))), (1, .int (iI (b 0 0))), (0, .ref (ad 0))]) hx hb dL_refuses_58 hl (by decide) rfl (fun ls hl => ?_)
  refine lv_iload hx hb dL_refuses_60 (lv_at hl 1 rfl) ?_
  refine mk_iconst hx hb (1) dL_refuses_62 ?_
  refine mk_icmp_ne (tgt := 70) hx hb dL_refuses_63 (by decide) (by decide) (by decide) (fun h => absurd h (by decide)) (fun _ => ?_)
  refine mk_iconst hx hb (3) dL_refuses_66 ?_
  refine lv_goto (tgt := 72) hx hb dL_refuses_67 (by decide) ?_
  refine lv_istore (lv' := [(7, .int (iI 3)), (6, .int (iI (-2147483648))), (5, .int (iI 1)), (13, .int (iI 21)), (12, .int (iI 1)), (11, .int (iI (-1))), (10, .int (iI 0)), (9, .int (iI (-1))), (8, .int (iI (-1))), (4, .int (iI 2147483647)), (3, .int (iI (bH b 0 1824 / fla (bSD b 0) (bSF b 0) (bM b 0) 1824))), (2, .int (iI (yN b (xR st) (xD st) 0))), (1, .int (iI (b 0 0))), (0, .ref (ad 0))]) hx hb dL_refuses_72 hl (by decide) rfl (fun ls hl => ?_)
  refine lv_iload hx hb dL_refuses_74 (lv_at hl 2 rfl) ?_
  refine mk_iconst hx hb (1) dL_refuses_76 ?_
  refine mk_icmp_ne (tgt := 86) hx hb dL_refuses_77 (by decide) (by decide) (by decide) (fun h => absurd h (by decide)) (fun _ => ?_)
  refine mk_sipush hx hb (1825) (by decide +kernel) dL_refuses_80 ?_
  refine lv_goto (tgt := 88) hx hb dL_refuses_83 (by decide) ?_
  refine lv_istore (lv' := [(8, .int (iI 1825)), (7, .int (iI 3)), (6, .int (iI (-2147483648))), (5, .int (iI 1)), (13, .int (iI 21)), (12, .int (iI 1)), (11, .int (iI (-1))), (10, .int (iI 0)), (9, .int (iI (-1))), (4, .int (iI 2147483647)), (3, .int (iI (bH b 0 1824 / fla (bSD b 0) (bSF b 0) (bM b 0) 1824))), (2, .int (iI (yN b (xR st) (xD st) 0))), (1, .int (iI (b 0 0))), (0, .ref (ad 0))]) hx hb dL_refuses_88 hl (by decide) rfl (fun ls hl => ?_)
  refine lv_iload hx hb dL_refuses_90 (lv_at hl 3 rfl) ?_
  refine mk_iconst hx hb (1) dL_refuses_92 ?_
  refine mk_icmp_ne (tgt := 100) hx hb dL_refuses_93 (by decide) (by decide) (by decide) (fun h => absurd h (by decide)) (fun _ => ?_)
  refine mk_iconst hx hb (5) dL_refuses_96 ?_
  refine lv_goto (tgt := 102) hx hb dL_refuses_97 (by decide) ?_
  refine lv_istore (lv' := [(9, .int (iI 5)), (8, .int (iI 1825)), (7, .int (iI 3)), (6, .int (iI (-2147483648))), (5, .int (iI 1)), (13, .int (iI 21)), (12, .int (iI 1)), (11, .int (iI (-1))), (10, .int (iI 0)), (4, .int (iI 2147483647)), (3, .int (iI (bH b 0 1824 / fla (bSD b 0) (bSF b 0) (bM b 0) 1824))), (2, .int (iI (yN b (xR st) (xD st) 0))), (1, .int (iI (b 0 0))), (0, .ref (ad 0))]) hx hb dL_refuses_102 hl (by decide) rfl (fun ls hl => ?_)
  refine lv_iload hx hb dL_refuses_104 (lv_at hl 4 rfl) ?_
  refine mk_if_ne (tgt := 113) hx hb dL_refuses_106 (by decide) (by decide) (fun _ => ?_) (fun h => absurd h (by decide))
  refine lv_iload hx hb dL_refuses_113 (lv_at hl 4 rfl) ?_
  refine mk_iconst hx hb (1) dL_refuses_115 ?_
  refine mk_icmp_ne (tgt := 125) hx hb dL_refuses_116 (by decide) (by decide) (by decide) (fun h => absurd h (by decide)) (fun _ => ?_)
  refine mk_sipush hx hb (1001) (by decide +kernel) dL_refuses_119 ?_
  refine lv_goto (tgt := 127) hx hb dL_refuses_122 (by decide) ?_
  refine lv_istore (lv' := [(10, .int (iI 1001)), (9, .int (iI 5)), (8, .int (iI 1825)), (7, .int (iI 3)), (6, .int (iI (-2147483648))), (5, .int (iI 1)), (13, .int (iI 21)), (12, .int (iI 1)), (11, .int (iI (-1))), (4, .int (iI 2147483647)), (3, .int (iI (bH b 0 1824 / fla (bSD b 0) (bSF b 0) (bM b 0) 1824))), (2, .int (iI (yN b (xR st) (xD st) 0))), (1, .int (iI (b 0 0))), (0, .ref (ad 0))]) hx hb dL_refuses_127 hl (by decide) rfl (fun ls hl => ?_)
  refine lv_iload hx hb dL_refuses_129 (lv_at hl 5 rfl) ?_
  refine mk_iconst hx hb (1) dL_refuses_131 ?_
  refine mk_icmp_ne (tgt := 140) hx hb dL_refuses_132 (by decide) (by decide) (by decide) (fun h => absurd h (by decide)) (fun _ => ?_)
  refine mk_ldc hx hb (1000001) hown (hts (.constant RL 91 (1000001)) (by decide +kernel)) dL_refuses_135 ?_
  refine lv_goto (tgt := 142) hx hb dL_refuses_137 (by decide) ?_
  refine lv_istore (lv' := [(11, .int (iI 1000001)), (10, .int (iI 1001)), (9, .int (iI 5)), (8, .int (iI 1825)), (7, .int (iI 3)), (6, .int (iI (-2147483648))), (5, .int (iI 1)), (13, .int (iI 21)), (12, .int (iI 1)), (4, .int (iI 2147483647)), (3, .int (iI (bH b 0 1824 / fla (bSD b 0) (bSF b 0) (bM b 0) 1824))), (2, .int (iI (yN b (xR st) (xD st) 0))), (1, .int (iI (b 0 0))), (0, .ref (ad 0))]) hx hb dL_refuses_142 hl (by decide) rfl (fun ls hl => ?_)
  exact kk _ _ _ hl hW
set_option maxHeartbeats 4000000 in
set_option maxRecDepth 100000 in
theorem rs_1_b (F : LX p l s m args meth c cL_refuses 14 wsL_refuses cg D (wA 73 ad)) (hW : GW D vwCl 73 (celX cg) ad (wA 73 ad) s.heap st H locs) (hX : XI st b) (hl : lv_has ls 14 [(11, .int (iI 1000001)), (10, .int (iI 1001)), (9, .int (iI 5)), (8, .int (iI 1825)), (7, .int (iI 3)), (6, .int (iI (-2147483648))), (5, .int (iI 1)), (13, .int (iI 21)), (12, .int (iI 1)), (4, .int (iI 2147483647)), (3, .int (iI (bH b 0 1824 / fla (bSD b 0) (bSF b 0) (bM b 0) 1824))), (2, .int (iI (yN b (xR st) (xD st) 0))), (1, .int (iI (b 0 0))), (0, .ref (ad 0))])
    (kk : ∀ (ls : Array Slot) (H : Heap) (locs : List Loc), lv_has ls 14 [(12, .int (iI 1)), (11, .int (iI 1000001)), (10, .int (iI 1001)), (9, .int (iI 5)), (8, .int (iI 1825)), (7, .int (iI 3)), (6, .int (iI (-2147483648))), (5, .int (iI 1)), (13, .int (iI 21)), (4, .int (iI 2147483647)), (3, .int (iI (bH b 0 1824 / fla (bSD b 0) (bSF b 0) (bM b 0) 1824))), (2, .int (iI (yN b (xR st) (xD st) 0))), (1, .int (iI (b 0 0))), (0, .ref (ad 0))] → GW D vwCl 73 (celX cg) ad (wA 73 ad) s.heap st H locs → W p l e (headSpec wsL_refuses ({ frames := 10, cells := 164, slots := 984, locals := 210 })).room s m args below meth c H locs 48 288 Q (F0 m 293 ls [])) : W p l e (headSpec wsL_refuses ({ frames := 10, cells := 164, slots := 984, locals := 210 })).room s m args below meth c H locs 41 246 Q (F0 m 144 ls []) := by
  obtain ⟨hx, hb, hml, hown, hts, hlocks, hst, hK, hN, hxK, hxZ, hxN⟩ := id F
  have hn0 := hX.1.1
  have hn6 := hX.1.n60
  have hlen : (bAA b 0 (xR st 0) (xD st 0)).length ≤ 60 := (hX.2.2.1 0 (by decide)).len hX.1 (by decide)
  refine lv_aload_n hx hb dL_refuses_144 rfl (lv_at hl 13 rfl) ?_
  refine lv_iload hx hb dL_refuses_145 (lv_at hl 6 rfl) ?_
  refine mk_iconst hx hb (1) dL_refuses_147 ?_
  refine mk_icmp_ne (tgt := 155) hx hb dL_refuses_148 (by decide) (by decide) (by decide) (fun h => absurd h (by decide)) (fun _ => ?_)
  refine lv_iload_n hx hb dL_refuses_151 rfl (lv_at hl 12 rfl) ?_
  refine lv_goto (tgt := 157) hx hb dL_refuses_152 (by decide) ?_
  refine mw_goIs (vx_runSW (As := [.ref (ad 0), .int (iI (b 0 0))]) (rest := []) ⟨hx, hb, hml, hown, hts⟩ (c_L_cancel_cancel_no1 l cg D ad st (b 0 0) (c_X5_cancel_noT l cg D ad st hst b hX (b 0 0) (by omega) (by omega))) (vx_cwSW 2 hts gL_refuses_L_cancel rfl rfl rfl (by decide +kernel) ⟨Nat.le_of_ble_eq_true rfl, Nat.le_of_ble_eq_true rfl⟩) (mw_preS hK hN hxK hxZ hxN hW) rfl rfl hl.1 rfl (lv_room (Nat.le_of_ble_eq_true rfl)) dL_refuses_157 ⟨Nat.le_of_ble_eq_true rfl, Nat.le_of_ble_eq_true rfl⟩) hW (fun z st1 hp H locs hW => ?_)
  obtain ⟨e1, e2⟩ := hp
  subst e1
  rw [e2] at hW
  refine mk_bipush hx hb (-91) (by decide +kernel) dL_refuses_160 ?_
  refine mk_icmp_ne (tgt := 290) hx hb dL_refuses_162 (by decide) (by decide) (by decide) (fun h => absurd h (by decide)) (fun _ => ?_)
  refine lv_aload_n hx hb dL_refuses_165 rfl (lv_at hl 13 rfl) ?_
  refine mk_iconst hx hb (2) dL_refuses_166 ?_
  refine lv_iload hx hb dL_refuses_167 (lv_at hl 4 rfl) ?_
  refine mk_iconst hx hb (0) dL_refuses_169 ?_
  refine mk_iconst hx hb (0) dL_refuses_170 ?_
  refine mk_iconst hx hb (0) dL_refuses_171 ?_
  refine mw_goIs (vx_runSW (As := [.ref (ad 0), .int (iI 2), .int (iI 3), .int (iI 0), .int (iI 0), .int (iI 0)]) (rest := []) ⟨hx, hb, hml, hown, hts⟩ (c_L_act_split_no1 l cg D ad st 3 0 0 0 (c_X5_split_noA l cg D ad st hst 3 0 0 (by decide +kernel) (by decide +kernel))) (vx_cwSW 6 hts gL_refuses_L_act rfl rfl rfl (by decide +kernel) ⟨Nat.le_of_ble_eq_true rfl, Nat.le_of_ble_eq_true rfl⟩) (mw_preS hK hN hxK hxZ hxN hW) rfl rfl hl.1 rfl (lv_room (Nat.le_of_ble_eq_true rfl)) dL_refuses_172 ⟨Nat.le_of_ble_eq_true rfl, Nat.le_of_ble_eq_true rfl⟩) hW (fun z st1 hp H locs hW => ?_)
  obtain ⟨e1, e2⟩ := hp
  subst e1
  rw [e2] at hW
  refine mk_bipush hx hb (-91) (by decide +kernel) dL_refuses_175 ?_
  refine mk_icmp_ne (tgt := 290) hx hb dL_refuses_177 (by decide) (by decide) (by decide) (fun h => absurd h (by decide)) (fun _ => ?_)
  refine lv_aload_n hx hb dL_refuses_180 rfl (lv_at hl 13 rfl) ?_
  refine mk_iconst hx hb (2) dL_refuses_181 ?_
  refine mk_iconst hx hb (0) dL_refuses_182 ?_
  refine lv_iload hx hb dL_refuses_183 (lv_at hl 3 rfl) ?_
  refine mk_iconst hx hb (0) dL_refuses_185 ?_
  refine mk_iconst hx hb (0) dL_refuses_186 ?_
  refine mw_goIs (vx_runSW (As := [.ref (ad 0), .int (iI 2), .int (iI 0), .int (iI 1825), .int (iI 0), .int (iI 0)]) (rest := []) ⟨hx, hb, hml, hown, hts⟩ (c_L_act_split_no1 l cg D ad st 0 1825 0 0 (c_X5_split_noD_0 l cg D ad st hst 1825 0 (by decide +kernel) (by decide +kernel))) (vx_cwSW 6 hts gL_refuses_L_act rfl rfl rfl (by decide +kernel) ⟨Nat.le_of_ble_eq_true rfl, Nat.le_of_ble_eq_true rfl⟩) (mw_preS hK hN hxK hxZ hxN hW) rfl rfl hl.1 rfl (lv_room (Nat.le_of_ble_eq_true rfl)) dL_refuses_187 ⟨Nat.le_of_ble_eq_true rfl, Nat.le_of_ble_eq_true rfl⟩) hW (fun z st1 hp H locs hW => ?_)
  obtain ⟨e1, e2⟩ := hp
  subst e1
  rw [e2] at hW
  refine mk_bipush hx hb (-91) (by decide +kernel) dL_refuses_190 ?_
  refine mk_icmp_ne (tgt := 290) hx hb dL_refuses_192 (by decide) (by decide) (by decide) (fun h => absurd h (by decide)) (fun _ => ?_)
  refine lv_aload_n hx hb dL_refuses_195 rfl (lv_at hl 13 rfl) ?_
  refine mk_iconst hx hb (2) dL_refuses_196 ?_
  refine mk_iconst hx hb (0) dL_refuses_197 ?_
  refine mk_iconst hx hb (0) dL_refuses_198 ?_
  refine lv_iload hx hb dL_refuses_199 (lv_at hl 6 rfl) ?_
  refine mk_if_ne (tgt := 208) hx hb dL_refuses_201 (by decide) (by decide) (fun _ => ?_) (fun h => absurd h (by decide))
  refine lv_iload hx hb dL_refuses_208 (lv_at hl 6 rfl) ?_
  refine mk_iconst hx hb (1) dL_refuses_210 ?_
  refine mk_icmp_ne (tgt := 219) hx hb dL_refuses_211 (by decide) (by decide) (by decide) (fun h => absurd h (by decide)) (fun _ => ?_)
  refine mk_bipush hx hb (6) (by decide +kernel) dL_refuses_214 ?_
  refine lv_goto (tgt := 221) hx hb dL_refuses_216 (by decide) ?_
  refine mk_iconst hx hb (0) dL_refuses_221 ?_
  refine mw_goIs (vx_runSW (As := [.ref (ad 0), .int (iI 2), .int (iI 0), .int (iI 0), .int (iI 6), .int (iI 0)]) (rest := []) ⟨hx, hb, hml, hown, hts⟩ (c_L_act_split_no2 l cg D ad st 0 0 6 0 (c_X5_split_noF_0 l cg D ad st hst 0 6 (by decide +kernel) (by decide +kernel) (by decide +kernel))) (vx_cwSW 6 hts gL_refuses_L_act rfl rfl rfl (by decide +kernel) ⟨Nat.le_of_ble_eq_true rfl, Nat.le_of_ble_eq_true rfl⟩) (mw_preS hK hN hxK hxZ hxN hW) rfl rfl hl.1 rfl (lv_room (Nat.le_of_ble_eq_true rfl)) dL_refuses_222 ⟨Nat.le_of_ble_eq_true rfl, Nat.le_of_ble_eq_true rfl⟩) hW (fun z st1 hp H locs hW => ?_)
  obtain ⟨e1, e2⟩ := hp
  subst e1
  rw [e2] at hW
  refine mk_bipush hx hb (-92) (by decide +kernel) dL_refuses_225 ?_
  refine mk_icmp_ne (tgt := 290) hx hb dL_refuses_227 (by decide) (by decide) (by decide) (fun h => absurd h (by decide)) (fun _ => ?_)
  refine lv_aload_n hx hb dL_refuses_230 rfl (lv_at hl 13 rfl) ?_
  refine mk_iconst hx hb (3) dL_refuses_231 ?_
  refine lv_iload hx hb dL_refuses_232 (lv_at hl 2 rfl) ?_
  refine mk_iconst hx hb (-1) dL_refuses_234 ?_
  refine mk_iconst hx hb (0) dL_refuses_235 ?_
  refine mk_iconst hx hb (0) dL_refuses_236 ?_
  refine mw_goIs (vx_runSW (As := [.ref (ad 0), .int (iI 3), .int (iI 5), .int (iI (-1)), .int (iI 0), .int (iI 0)]) (rest := []) ⟨hx, hb, hml, hown, hts⟩ (c_L_act_setAllowance_no1 l cg D ad st 5 (-1) 0 0 (c_X5_setAllowance_noY l cg D ad st hst 5 (-1) (by decide +kernel) (by decide +kernel))) (vx_cwSW 6 hts gL_refuses_L_act rfl rfl rfl (by decide +kernel) ⟨Nat.le_of_ble_eq_true rfl, Nat.le_of_ble_eq_true rfl⟩) (mw_preS hK hN hxK hxZ hxN hW) rfl rfl hl.1 rfl (lv_room (Nat.le_of_ble_eq_true rfl)) dL_refuses_237 ⟨Nat.le_of_ble_eq_true rfl, Nat.le_of_ble_eq_true rfl⟩) hW (fun z st1 hp H locs hW => ?_)
  obtain ⟨e1, e2⟩ := hp
  subst e1
  rw [e2] at hW
  refine mk_bipush hx hb (-91) (by decide +kernel) dL_refuses_240 ?_
  refine mk_icmp_ne (tgt := 290) hx hb dL_refuses_242 (by decide) (by decide) (by decide) (fun h => absurd h (by decide)) (fun _ => ?_)
  refine lv_aload_n hx hb dL_refuses_245 rfl (lv_at hl 13 rfl) ?_
  refine mk_iconst hx hb (3) dL_refuses_246 ?_
  refine mk_iconst hx hb (0) dL_refuses_247 ?_
  refine lv_iload hx hb dL_refuses_248 (lv_at hl 0 rfl) ?_
  refine mk_iconst hx hb (0) dL_refuses_250 ?_
  refine mk_iconst hx hb (0) dL_refuses_251 ?_
  refine mw_goIs (vx_runSW (As := [.ref (ad 0), .int (iI 3), .int (iI 0), .int (iI 1000001), .int (iI 0), .int (iI 0)]) (rest := []) ⟨hx, hb, hml, hown, hts⟩ (c_L_act_setAllowance_no2 l cg D ad st 0 1000001 0 0 (c_X5_setAllowance_noM l cg D ad st hst 0 1000001 (by decide +kernel) (by decide +kernel) (by decide +kernel))) (vx_cwSW 6 hts gL_refuses_L_act rfl rfl rfl (by decide +kernel) ⟨Nat.le_of_ble_eq_true rfl, Nat.le_of_ble_eq_true rfl⟩) (mw_preS hK hN hxK hxZ hxN hW) rfl rfl hl.1 rfl (lv_room (Nat.le_of_ble_eq_true rfl)) dL_refuses_252 ⟨Nat.le_of_ble_eq_true rfl, Nat.le_of_ble_eq_true rfl⟩) hW (fun z st1 hp H locs hW => ?_)
  obtain ⟨e1, e2⟩ := hp
  subst e1
  rw [e2] at hW
  refine mk_bipush hx hb (-92) (by decide +kernel) dL_refuses_255 ?_
  refine mk_icmp_ne (tgt := 290) hx hb dL_refuses_257 (by decide) (by decide) (by decide) (fun h => absurd h (by decide)) (fun _ => ?_)
  refine lv_aload_n hx hb dL_refuses_260 rfl (lv_at hl 13 rfl) ?_
  refine mk_iconst hx hb (4) dL_refuses_261 ?_
  refine lv_iload hx hb dL_refuses_262 (lv_at hl 6 rfl) ?_
  refine mk_iconst hx hb (1) dL_refuses_264 ?_
  refine mk_icmp_ne (tgt := 273) hx hb dL_refuses_265 (by decide) (by decide) (by decide) (fun h => absurd h (by decide)) (fun _ => ?_)
  refine mk_bipush hx hb (61) (by decide +kernel) dL_refuses_268 ?_
  refine lv_goto (tgt := 275) hx hb dL_refuses_270 (by decide) ?_
  refine mk_iconst hx hb (0) dL_refuses_275 ?_
  refine mk_iconst hx hb (0) dL_refuses_276 ?_
  refine mk_iconst hx hb (0) dL_refuses_277 ?_
  refine mw_goIs (vx_runSW (As := [.ref (ad 0), .int (iI 4), .int (iI 61), .int (iI 0), .int (iI 0), .int (iI 0)]) (rest := []) ⟨hx, hb, hml, hown, hts⟩ (c_L_act_setWindow_no2 l cg D ad st 61 0 0 0 (c_X5_setWindow_no l cg D ad st hst 61 (by decide +kernel) (by decide +kernel))) (vx_cwSW 6 hts gL_refuses_L_act rfl rfl rfl (by decide +kernel) ⟨Nat.le_of_ble_eq_true rfl, Nat.le_of_ble_eq_true rfl⟩) (mw_preS hK hN hxK hxZ hxN hW) rfl rfl hl.1 rfl (lv_room (Nat.le_of_ble_eq_true rfl)) dL_refuses_278 ⟨Nat.le_of_ble_eq_true rfl, Nat.le_of_ble_eq_true rfl⟩) hW (fun z st1 hp H locs hW => ?_)
  obtain ⟨e1, e2⟩ := hp
  subst e1
  rw [e2] at hW
  refine mk_bipush hx hb (-92) (by decide +kernel) dL_refuses_281 ?_
  refine mk_icmp_ne (tgt := 290) hx hb dL_refuses_283 (by decide) (by decide) (by decide) (fun h => absurd h (by decide)) (fun _ => ?_)
  refine mk_iconst hx hb (1) dL_refuses_286 ?_
  refine lv_goto (tgt := 291) hx hb dL_refuses_287 (by decide) ?_
  refine lv_istore (lv' := [(12, .int (iI 1)), (11, .int (iI 1000001)), (10, .int (iI 1001)), (9, .int (iI 5)), (8, .int (iI 1825)), (7, .int (iI 3)), (6, .int (iI (-2147483648))), (5, .int (iI 1)), (13, .int (iI 21)), (4, .int (iI 2147483647)), (3, .int (iI (bH b 0 1824 / fla (bSD b 0) (bSF b 0) (bM b 0) 1824))), (2, .int (iI (yN b (xR st) (xD st) 0))), (1, .int (iI (b 0 0))), (0, .ref (ad 0))]) hx hb dL_refuses_291 hl (by decide) rfl (fun ls hl => ?_)
  exact kk _ _ _ hl hW
set_option maxHeartbeats 4000000 in
set_option maxRecDepth 100000 in
theorem rs_1_c (F : LX p l s m args meth c cL_refuses 14 wsL_refuses cg D (wA 73 ad)) (hW : GW D vwCl 73 (celX cg) ad (wA 73 ad) s.heap st H locs) (hX : XI st b) (hl : lv_has ls 14 [(12, .int (iI 1)), (11, .int (iI 1000001)), (10, .int (iI 1001)), (9, .int (iI 5)), (8, .int (iI 1825)), (7, .int (iI 3)), (6, .int (iI (-2147483648))), (5, .int (iI 1)), (13, .int (iI 21)), (4, .int (iI 2147483647)), (3, .int (iI (bH b 0 1824 / fla (bSD b 0) (bSF b 0) (bM b 0) 1824))), (2, .int (iI (yN b (xR st) (xD st) 0))), (1, .int (iI (b 0 0))), (0, .ref (ad 0))])
    (kk : ∀ (ls : Array Slot) (H : Heap) (locs : List Loc), lv_has ls 14 [(13, .int (iI 2)), (12, .int (iI 1)), (11, .int (iI 1000001)), (10, .int (iI 1001)), (9, .int (iI 5)), (8, .int (iI 1825)), (7, .int (iI 3)), (6, .int (iI (-2147483648))), (5, .int (iI 1)), (4, .int (iI 2147483647)), (3, .int (iI (bH b 0 1824 / fla (bSD b 0) (bSF b 0) (bM b 0) 1824))), (2, .int (iI (yN b (xR st) (xD st) 0))), (1, .int (iI (b 0 0))), (0, .ref (ad 0))] → GW D vwCl 73 (celX cg) ad (wA 73 ad) s.heap st H locs → W p l e (headSpec wsL_refuses ({ frames := 10, cells := 164, slots := 984, locals := 210 })).room s m args below meth c H locs 56 336 Q (F0 m 384 ls [])) : W p l e (headSpec wsL_refuses ({ frames := 10, cells := 164, slots := 984, locals := 210 })).room s m args below meth c H locs 48 288 Q (F0 m 293 ls []) := by
  obtain ⟨hx, hb, hml, hown, hts, hlocks, hst, hK, hN, hxK, hxZ, hxN⟩ := id F
  have hn0 := hX.1.1
  have hn6 := hX.1.n60
  have hlen : (bAA b 0 (xR st 0) (xD st 0)).length ≤ 60 := (hX.2.2.1 0 (by decide)).len hX.1 (by decide)
  refine mk_iconst hx hb (0) dL_refuses_293 ?_
  refine lv_istore (lv' := [(13, .int (iI 0)), (12, .int (iI 1)), (11, .int (iI 1000001)), (10, .int (iI 1001)), (9, .int (iI 5)), (8, .int (iI 1825)), (7, .int (iI 3)), (6, .int (iI (-2147483648))), (5, .int (iI 1)), (4, .int (iI 2147483647)), (3, .int (iI (bH b 0 1824 / fla (bSD b 0) (bSF b 0) (bM b 0) 1824))), (2, .int (iI (yN b (xR st) (xD st) 0))), (1, .int (iI (b 0 0))), (0, .ref (ad 0))]) hx hb dL_refuses_294 hl (by decide) rfl (fun ls hl => ?_)
  refine lv_iload hx hb dL_refuses_296 (lv_at hl 0 rfl) ?_
  refine mk_iconst hx hb (2) dL_refuses_298 ?_
  refine mk_icmp_ge (tgt := 384) hx hb dL_refuses_299 (by decide) (by decide) (by decide) (fun h => absurd h (by decide)) (fun _ => ?_)
  refine lv_iload hx hb dL_refuses_302 (lv_at hl 1 rfl) ?_
  refine mk_if_eq (tgt := 375) hx hb dL_refuses_304 (by decide) (by decide) (fun h => absurd h (by decide)) (fun _ => ?_)
  refine lv_aload_n hx hb dL_refuses_307 rfl (lv_at hl 13 rfl) ?_
  refine lv_iload hx hb dL_refuses_308 (lv_at hl 0 rfl) ?_
  refine lv_iload hx hb dL_refuses_310 (lv_at hl 6 rfl) ?_
  refine mk_iconst hx hb (0) dL_refuses_312 ?_
  refine mk_iconst hx hb (0) dL_refuses_313 ?_
  refine mk_iconst hx hb (0) dL_refuses_314 ?_
  refine mw_goIs (vx_runSW (As := [.ref (ad 0), .int (iI 0), .int (iI 3), .int (iI 0), .int (iI 0), .int (iI 0)]) (rest := []) ⟨hx, hb, hml, hown, hts⟩ (c_L_act_buy_no1 l cg D ad st 3 0 0 0 (c_X5_buy_noA l cg D ad st hst 3 0 0 0 (by decide +kernel) (by decide +kernel))) (vx_cwSW 6 hts gL_refuses_L_act rfl rfl rfl (by decide +kernel) ⟨Nat.le_of_ble_eq_true rfl, Nat.le_of_ble_eq_true rfl⟩) (mw_preS hK hN hxK hxZ hxN hW) rfl rfl hl.1 rfl (lv_room (Nat.le_of_ble_eq_true rfl)) dL_refuses_315 ⟨Nat.le_of_ble_eq_true rfl, Nat.le_of_ble_eq_true rfl⟩) hW (fun z st1 hp H locs hW => ?_)
  obtain ⟨e1, e2⟩ := hp
  subst e1
  rw [e2] at hW
  refine mk_bipush hx hb (-91) (by decide +kernel) dL_refuses_318 ?_
  refine mk_icmp_ne (tgt := 375) hx hb dL_refuses_320 (by decide) (by decide) (by decide) (fun h => absurd h (by decide)) (fun _ => ?_)
  refine lv_aload_n hx hb dL_refuses_323 rfl (lv_at hl 13 rfl) ?_
  refine lv_iload hx hb dL_refuses_324 (lv_at hl 0 rfl) ?_
  refine mk_iconst hx hb (0) dL_refuses_326 ?_
  refine lv_iload hx hb dL_refuses_327 (lv_at hl 5 rfl) ?_
  refine mk_iconst hx hb (0) dL_refuses_329 ?_
  refine mk_iconst hx hb (0) dL_refuses_330 ?_
  refine mw_goIs (vx_runSW (As := [.ref (ad 0), .int (iI 0), .int (iI 0), .int (iI 1825), .int (iI 0), .int (iI 0)]) (rest := []) ⟨hx, hb, hml, hown, hts⟩ (c_L_act_buy_no1 l cg D ad st 0 1825 0 0 (c_X5_buy_noD_0 l cg D ad st hst 1825 0 0 (by decide +kernel) (by decide +kernel))) (vx_cwSW 6 hts gL_refuses_L_act rfl rfl rfl (by decide +kernel) ⟨Nat.le_of_ble_eq_true rfl, Nat.le_of_ble_eq_true rfl⟩) (mw_preS hK hN hxK hxZ hxN hW) rfl rfl hl.1 rfl (lv_room (Nat.le_of_ble_eq_true rfl)) dL_refuses_331 ⟨Nat.le_of_ble_eq_true rfl, Nat.le_of_ble_eq_true rfl⟩) hW (fun z st1 hp H locs hW => ?_)
  obtain ⟨e1, e2⟩ := hp
  subst e1
  rw [e2] at hW
  refine mk_bipush hx hb (-91) (by decide +kernel) dL_refuses_334 ?_
  refine mk_icmp_ne (tgt := 375) hx hb dL_refuses_336 (by decide) (by decide) (by decide) (fun h => absurd h (by decide)) (fun _ => ?_)
  refine lv_aload_n hx hb dL_refuses_339 rfl (lv_at hl 13 rfl) ?_
  refine lv_iload hx hb dL_refuses_340 (lv_at hl 0 rfl) ?_
  refine mk_iconst hx hb (0) dL_refuses_342 ?_
  refine mk_iconst hx hb (0) dL_refuses_343 ?_
  refine lv_iload hx hb dL_refuses_344 (lv_at hl 3 rfl) ?_
  refine mk_iconst hx hb (0) dL_refuses_346 ?_
  refine mw_goIs (vx_runSW (As := [.ref (ad 0), .int (iI 0), .int (iI 0), .int (iI 0), .int (iI 1001), .int (iI 0)]) (rest := []) ⟨hx, hb, hml, hown, hts⟩ (c_L_act_buy_no2 l cg D ad st 0 0 1001 0 (c_X5_buy_noC_0 l cg D ad st hst 0 1001 0 (by decide +kernel) (by decide +kernel) (by decide +kernel))) (vx_cwSW 6 hts gL_refuses_L_act rfl rfl rfl (by decide +kernel) ⟨Nat.le_of_ble_eq_true rfl, Nat.le_of_ble_eq_true rfl⟩) (mw_preS hK hN hxK hxZ hxN hW) rfl rfl hl.1 rfl (lv_room (Nat.le_of_ble_eq_true rfl)) dL_refuses_347 ⟨Nat.le_of_ble_eq_true rfl, Nat.le_of_ble_eq_true rfl⟩) hW (fun z st1 hp H locs hW => ?_)
  obtain ⟨e1, e2⟩ := hp
  subst e1
  rw [e2] at hW
  refine mk_bipush hx hb (-92) (by decide +kernel) dL_refuses_350 ?_
  refine mk_icmp_ne (tgt := 375) hx hb dL_refuses_352 (by decide) (by decide) (by decide) (fun h => absurd h (by decide)) (fun _ => ?_)
  refine lv_aload_n hx hb dL_refuses_355 rfl (lv_at hl 13 rfl) ?_
  refine lv_iload hx hb dL_refuses_356 (lv_at hl 0 rfl) ?_
  refine mk_iconst hx hb (0) dL_refuses_358 ?_
  refine mk_iconst hx hb (0) dL_refuses_359 ?_
  refine mk_iconst hx hb (1) dL_refuses_360 ?_
  refine lv_iload hx hb dL_refuses_361 (lv_at hl 2 rfl) ?_
  refine mw_goIs (vx_runSW (As := [.ref (ad 0), .int (iI 0), .int (iI 0), .int (iI 0), .int (iI 1), .int (iI 1000001)]) (rest := []) ⟨hx, hb, hml, hown, hts⟩ (c_L_act_buy_no2 l cg D ad st 0 0 1 1000001 (c_X5_buy_noM_0 l cg D ad st hst 0 1 1000001 (by decide +kernel) (by decide +kernel) (by decide +kernel) (by decide +kernel))) (vx_cwSW 6 hts gL_refuses_L_act rfl rfl rfl (by decide +kernel) ⟨Nat.le_of_ble_eq_true rfl, Nat.le_of_ble_eq_true rfl⟩) (mw_preS hK hN hxK hxZ hxN hW) rfl rfl hl.1 rfl (lv_room (Nat.le_of_ble_eq_true rfl)) dL_refuses_363 ⟨Nat.le_of_ble_eq_true rfl, Nat.le_of_ble_eq_true rfl⟩) hW (fun z st1 hp H locs hW => ?_)
  obtain ⟨e1, e2⟩ := hp
  subst e1
  rw [e2] at hW
  refine mk_bipush hx hb (-92) (by decide +kernel) dL_refuses_366 ?_
  refine mk_icmp_ne (tgt := 375) hx hb dL_refuses_368 (by decide) (by decide) (by decide) (fun h => absurd h (by decide)) (fun _ => ?_)
  refine mk_iconst hx hb (1) dL_refuses_371 ?_
  refine lv_goto (tgt := 376) hx hb dL_refuses_372 (by decide) ?_
  refine lv_istore (lv' := [(12, .int (iI 1)), (13, .int (iI 0)), (11, .int (iI 1000001)), (10, .int (iI 1001)), (9, .int (iI 5)), (8, .int (iI 1825)), (7, .int (iI 3)), (6, .int (iI (-2147483648))), (5, .int (iI 1)), (4, .int (iI 2147483647)), (3, .int (iI (bH b 0 1824 / fla (bSD b 0) (bSF b 0) (bM b 0) 1824))), (2, .int (iI (yN b (xR st) (xD st) 0))), (1, .int (iI (b 0 0))), (0, .ref (ad 0))]) hx hb dL_refuses_376 hl (by decide) rfl (fun ls hl => ?_)
  refine mk_iinc (w := 1) (lv' := [(13, .int (iI 1)), (12, .int (iI 1)), (11, .int (iI 1000001)), (10, .int (iI 1001)), (9, .int (iI 5)), (8, .int (iI 1825)), (7, .int (iI 3)), (6, .int (iI (-2147483648))), (5, .int (iI 1)), (4, .int (iI 2147483647)), (3, .int (iI (bH b 0 1824 / fla (bSD b 0) (bSF b 0) (bM b 0) 1824))), (2, .int (iI (yN b (xR st) (xD st) 0))), (1, .int (iI (b 0 0))), (0, .ref (ad 0))]) hx hb dL_refuses_378 hl (k := 1) rfl (by omega) (by decide) rfl (fun ls hl => ?_)
  refine lv_goto (tgt := 296) hx hb dL_refuses_381 (by decide) ?_
  refine lv_iload hx hb dL_refuses_296 (lv_at hl 0 rfl) ?_
  refine mk_iconst hx hb (2) dL_refuses_298 ?_
  refine mk_icmp_ge (tgt := 384) hx hb dL_refuses_299 (by decide) (by decide) (by decide) (fun h => absurd h (by decide)) (fun _ => ?_)
  refine lv_iload hx hb dL_refuses_302 (lv_at hl 1 rfl) ?_
  refine mk_if_eq (tgt := 375) hx hb dL_refuses_304 (by decide) (by decide) (fun h => absurd h (by decide)) (fun _ => ?_)
  refine lv_aload_n hx hb dL_refuses_307 rfl (lv_at hl 13 rfl) ?_
  refine lv_iload hx hb dL_refuses_308 (lv_at hl 0 rfl) ?_
  refine lv_iload hx hb dL_refuses_310 (lv_at hl 6 rfl) ?_
  refine mk_iconst hx hb (0) dL_refuses_312 ?_
  refine mk_iconst hx hb (0) dL_refuses_313 ?_
  refine mk_iconst hx hb (0) dL_refuses_314 ?_
  refine mw_goIs (vx_runSW (As := [.ref (ad 0), .int (iI 1), .int (iI 3), .int (iI 0), .int (iI 0), .int (iI 0)]) (rest := []) ⟨hx, hb, hml, hown, hts⟩ (c_L_act_sell_no1 l cg D ad st 3 0 0 0 (c_X5_sell_noA l cg D ad st hst 3 0 0 0 (by decide +kernel) (by decide +kernel))) (vx_cwSW 6 hts gL_refuses_L_act rfl rfl rfl (by decide +kernel) ⟨Nat.le_of_ble_eq_true rfl, Nat.le_of_ble_eq_true rfl⟩) (mw_preS hK hN hxK hxZ hxN hW) rfl rfl hl.1 rfl (lv_room (Nat.le_of_ble_eq_true rfl)) dL_refuses_315 ⟨Nat.le_of_ble_eq_true rfl, Nat.le_of_ble_eq_true rfl⟩) hW (fun z st1 hp H locs hW => ?_)
  obtain ⟨e1, e2⟩ := hp
  subst e1
  rw [e2] at hW
  refine mk_bipush hx hb (-91) (by decide +kernel) dL_refuses_318 ?_
  refine mk_icmp_ne (tgt := 375) hx hb dL_refuses_320 (by decide) (by decide) (by decide) (fun h => absurd h (by decide)) (fun _ => ?_)
  refine lv_aload_n hx hb dL_refuses_323 rfl (lv_at hl 13 rfl) ?_
  refine lv_iload hx hb dL_refuses_324 (lv_at hl 0 rfl) ?_
  refine mk_iconst hx hb (0) dL_refuses_326 ?_
  refine lv_iload hx hb dL_refuses_327 (lv_at hl 5 rfl) ?_
  refine mk_iconst hx hb (0) dL_refuses_329 ?_
  refine mk_iconst hx hb (0) dL_refuses_330 ?_
  refine mw_goIs (vx_runSW (As := [.ref (ad 0), .int (iI 1), .int (iI 0), .int (iI 1825), .int (iI 0), .int (iI 0)]) (rest := []) ⟨hx, hb, hml, hown, hts⟩ (c_L_act_sell_no1 l cg D ad st 0 1825 0 0 (c_X5_sell_noD_0 l cg D ad st hst 1825 0 0 (by decide +kernel) (by decide +kernel))) (vx_cwSW 6 hts gL_refuses_L_act rfl rfl rfl (by decide +kernel) ⟨Nat.le_of_ble_eq_true rfl, Nat.le_of_ble_eq_true rfl⟩) (mw_preS hK hN hxK hxZ hxN hW) rfl rfl hl.1 rfl (lv_room (Nat.le_of_ble_eq_true rfl)) dL_refuses_331 ⟨Nat.le_of_ble_eq_true rfl, Nat.le_of_ble_eq_true rfl⟩) hW (fun z st1 hp H locs hW => ?_)
  obtain ⟨e1, e2⟩ := hp
  subst e1
  rw [e2] at hW
  refine mk_bipush hx hb (-91) (by decide +kernel) dL_refuses_334 ?_
  refine mk_icmp_ne (tgt := 375) hx hb dL_refuses_336 (by decide) (by decide) (by decide) (fun h => absurd h (by decide)) (fun _ => ?_)
  refine lv_aload_n hx hb dL_refuses_339 rfl (lv_at hl 13 rfl) ?_
  refine lv_iload hx hb dL_refuses_340 (lv_at hl 0 rfl) ?_
  refine mk_iconst hx hb (0) dL_refuses_342 ?_
  refine mk_iconst hx hb (0) dL_refuses_343 ?_
  refine lv_iload hx hb dL_refuses_344 (lv_at hl 3 rfl) ?_
  refine mk_iconst hx hb (0) dL_refuses_346 ?_
  refine mw_goIs (vx_runSW (As := [.ref (ad 0), .int (iI 1), .int (iI 0), .int (iI 0), .int (iI 1001), .int (iI 0)]) (rest := []) ⟨hx, hb, hml, hown, hts⟩ (c_L_act_sell_no2 l cg D ad st 0 0 1001 0 (c_X5_sell_noC_0 l cg D ad st hst 0 1001 0 (by decide +kernel) (by decide +kernel) (by decide +kernel))) (vx_cwSW 6 hts gL_refuses_L_act rfl rfl rfl (by decide +kernel) ⟨Nat.le_of_ble_eq_true rfl, Nat.le_of_ble_eq_true rfl⟩) (mw_preS hK hN hxK hxZ hxN hW) rfl rfl hl.1 rfl (lv_room (Nat.le_of_ble_eq_true rfl)) dL_refuses_347 ⟨Nat.le_of_ble_eq_true rfl, Nat.le_of_ble_eq_true rfl⟩) hW (fun z st1 hp H locs hW => ?_)
  obtain ⟨e1, e2⟩ := hp
  subst e1
  rw [e2] at hW
  refine mk_bipush hx hb (-92) (by decide +kernel) dL_refuses_350 ?_
  refine mk_icmp_ne (tgt := 375) hx hb dL_refuses_352 (by decide) (by decide) (by decide) (fun h => absurd h (by decide)) (fun _ => ?_)
  refine lv_aload_n hx hb dL_refuses_355 rfl (lv_at hl 13 rfl) ?_
  refine lv_iload hx hb dL_refuses_356 (lv_at hl 0 rfl) ?_
  refine mk_iconst hx hb (0) dL_refuses_358 ?_
  refine mk_iconst hx hb (0) dL_refuses_359 ?_
  refine mk_iconst hx hb (1) dL_refuses_360 ?_
  refine lv_iload hx hb dL_refuses_361 (lv_at hl 2 rfl) ?_
  refine mw_goIs (vx_runSW (As := [.ref (ad 0), .int (iI 1), .int (iI 0), .int (iI 0), .int (iI 1), .int (iI 1000001)]) (rest := []) ⟨hx, hb, hml, hown, hts⟩ (c_L_act_sell_no2 l cg D ad st 0 0 1 1000001 (c_X5_sell_noM_0 l cg D ad st hst 0 1 1000001 (by decide +kernel) (by decide +kernel) (by decide +kernel) (by decide +kernel))) (vx_cwSW 6 hts gL_refuses_L_act rfl rfl rfl (by decide +kernel) ⟨Nat.le_of_ble_eq_true rfl, Nat.le_of_ble_eq_true rfl⟩) (mw_preS hK hN hxK hxZ hxN hW) rfl rfl hl.1 rfl (lv_room (Nat.le_of_ble_eq_true rfl)) dL_refuses_363 ⟨Nat.le_of_ble_eq_true rfl, Nat.le_of_ble_eq_true rfl⟩) hW (fun z st1 hp H locs hW => ?_)
  obtain ⟨e1, e2⟩ := hp
  subst e1
  rw [e2] at hW
  refine mk_bipush hx hb (-92) (by decide +kernel) dL_refuses_366 ?_
  refine mk_icmp_ne (tgt := 375) hx hb dL_refuses_368 (by decide) (by decide) (by decide) (fun h => absurd h (by decide)) (fun _ => ?_)
  refine mk_iconst hx hb (1) dL_refuses_371 ?_
  refine lv_goto (tgt := 376) hx hb dL_refuses_372 (by decide) ?_
  refine lv_istore (lv' := [(12, .int (iI 1)), (13, .int (iI 1)), (11, .int (iI 1000001)), (10, .int (iI 1001)), (9, .int (iI 5)), (8, .int (iI 1825)), (7, .int (iI 3)), (6, .int (iI (-2147483648))), (5, .int (iI 1)), (4, .int (iI 2147483647)), (3, .int (iI (bH b 0 1824 / fla (bSD b 0) (bSF b 0) (bM b 0) 1824))), (2, .int (iI (yN b (xR st) (xD st) 0))), (1, .int (iI (b 0 0))), (0, .ref (ad 0))]) hx hb dL_refuses_376 hl (by decide) rfl (fun ls hl => ?_)
  refine mk_iinc (w := 2) (lv' := [(13, .int (iI 2)), (12, .int (iI 1)), (11, .int (iI 1000001)), (10, .int (iI 1001)), (9, .int (iI 5)), (8, .int (iI 1825)), (7, .int (iI 3)), (6, .int (iI (-2147483648))), (5, .int (iI 1)), (4, .int (iI 2147483647)), (3, .int (iI (bH b 0 1824 / fla (bSD b 0) (bSF b 0) (bM b 0) 1824))), (2, .int (iI (yN b (xR st) (xD st) 0))), (1, .int (iI (b 0 0))), (0, .ref (ad 0))]) hx hb dL_refuses_378 hl (k := 1) rfl (by omega) (by decide) rfl (fun ls hl => ?_)
  refine lv_goto (tgt := 296) hx hb dL_refuses_381 (by decide) ?_
  refine lv_iload hx hb dL_refuses_296 (lv_at hl 0 rfl) ?_
  refine mk_iconst hx hb (2) dL_refuses_298 ?_
  refine mk_icmp_ge (tgt := 384) hx hb dL_refuses_299 (by decide) (by decide) (by decide) (fun _ => ?_) (fun h => absurd h (by decide))
  exact kk _ _ _ hl hW
set_option maxHeartbeats 4000000 in
set_option maxRecDepth 100000 in
theorem rs_1_d (F : LX p l s m args meth c cL_refuses 14 wsL_refuses cg D (wA 73 ad)) (hW : GW D vwCl 73 (celX cg) ad (wA 73 ad) s.heap st H locs) (hX : XI st b) (hl : lv_has ls 14 [(13, .int (iI 2)), (12, .int (iI 1)), (11, .int (iI 1000001)), (10, .int (iI 1001)), (9, .int (iI 5)), (8, .int (iI 1825)), (7, .int (iI 3)), (6, .int (iI (-2147483648))), (5, .int (iI 1)), (4, .int (iI 2147483647)), (3, .int (iI (bH b 0 1824 / fla (bSD b 0) (bSF b 0) (bM b 0) 1824))), (2, .int (iI (yN b (xR st) (xD st) 0))), (1, .int (iI (b 0 0))), (0, .ref (ad 0))])
    (kk : ∀ (ls : Array Slot) (H : Heap) (locs : List Loc), lv_has ls 14 [(13, .int (iI 8)), (12, .int (iI 1)), (11, .int (iI 1000001)), (10, .int (iI 1001)), (9, .int (iI 5)), (8, .int (iI 1825)), (7, .int (iI 3)), (6, .int (iI (-2147483648))), (5, .int (iI 1)), (4, .int (iI 2147483647)), (3, .int (iI (bH b 0 1824 / fla (bSD b 0) (bSF b 0) (bM b 0) 1824))), (2, .int (iI (yN b (xR st) (xD st) 0))), (1, .int (iI (b 0 0))), (0, .ref (ad 0))] → GW D vwCl 73 (celX cg) ad (wA 73 ad) s.heap st H locs → W p l e (headSpec wsL_refuses ({ frames := 10, cells := 164, slots := 984, locals := 210 })).room s m args below meth c H locs 62 372 Q (F0 m 444 ls [])) : W p l e (headSpec wsL_refuses ({ frames := 10, cells := 164, slots := 984, locals := 210 })).room s m args below meth c H locs 56 336 Q (F0 m 384 ls []) := by
  obtain ⟨hx, hb, hml, hown, hts, hlocks, hst, hK, hN, hxK, hxZ, hxN⟩ := id F
  have hn0 := hX.1.1
  have hn6 := hX.1.n60
  have hlen : (bAA b 0 (xR st 0) (xD st 0)).length ≤ 60 := (hX.2.2.1 0 (by decide)).len hX.1 (by decide)
  refine mk_iconst hx hb (5) dL_refuses_384 ?_
  refine lv_istore (lv' := [(13, .int (iI 5)), (12, .int (iI 1)), (11, .int (iI 1000001)), (10, .int (iI 1001)), (9, .int (iI 5)), (8, .int (iI 1825)), (7, .int (iI 3)), (6, .int (iI (-2147483648))), (5, .int (iI 1)), (4, .int (iI 2147483647)), (3, .int (iI (bH b 0 1824 / fla (bSD b 0) (bSF b 0) (bM b 0) 1824))), (2, .int (iI (yN b (xR st) (xD st) 0))), (1, .int (iI (b 0 0))), (0, .ref (ad 0))]) hx hb dL_refuses_385 hl (by decide) rfl (fun ls hl => ?_)
  refine lv_iload hx hb dL_refuses_387 (lv_at hl 0 rfl) ?_
  refine mk_bipush hx hb (8) (by decide +kernel) dL_refuses_389 ?_
  refine mk_icmp_ge (tgt := 444) hx hb dL_refuses_391 (by decide) (by decide) (by decide) (fun h => absurd h (by decide)) (fun _ => ?_)
  refine lv_iload hx hb dL_refuses_394 (lv_at hl 1 rfl) ?_
  refine mk_if_eq (tgt := 435) hx hb dL_refuses_396 (by decide) (by decide) (fun h => absurd h (by decide)) (fun _ => ?_)
  refine lv_aload_n hx hb dL_refuses_399 rfl (lv_at hl 13 rfl) ?_
  refine lv_iload hx hb dL_refuses_400 (lv_at hl 0 rfl) ?_
  refine lv_iload hx hb dL_refuses_402 (lv_at hl 6 rfl) ?_
  refine mk_iconst hx hb (0) dL_refuses_404 ?_
  refine mk_iconst hx hb (0) dL_refuses_405 ?_
  refine mk_iconst hx hb (0) dL_refuses_406 ?_
  refine mw_goIs (vx_runSW (As := [.ref (ad 0), .int (iI 5), .int (iI 3), .int (iI 0), .int (iI 0), .int (iI 0)]) (rest := []) ⟨hx, hb, hml, hown, hts⟩ (c_L_act_holding_no1 l cg D ad st 3 0 0 0 (c_X5_holding_noA l cg D ad st hst 3 0 (by decide +kernel) (by decide +kernel))) (vx_cwSW 6 hts gL_refuses_L_act rfl rfl rfl (by decide +kernel) ⟨Nat.le_of_ble_eq_true rfl, Nat.le_of_ble_eq_true rfl⟩) (mw_preS hK hN hxK hxZ hxN hW) rfl rfl hl.1 rfl (lv_room (Nat.le_of_ble_eq_true rfl)) dL_refuses_407 ⟨Nat.le_of_ble_eq_true rfl, Nat.le_of_ble_eq_true rfl⟩) hW (fun z st1 hp H locs hW => ?_)
  obtain ⟨e1, e2⟩ := hp
  subst e1
  rw [e2] at hW
  refine mk_bipush hx hb (-91) (by decide +kernel) dL_refuses_410 ?_
  refine mk_icmp_ne (tgt := 435) hx hb dL_refuses_412 (by decide) (by decide) (by decide) (fun h => absurd h (by decide)) (fun _ => ?_)
  refine lv_aload_n hx hb dL_refuses_415 rfl (lv_at hl 13 rfl) ?_
  refine lv_iload hx hb dL_refuses_416 (lv_at hl 0 rfl) ?_
  refine mk_iconst hx hb (0) dL_refuses_418 ?_
  refine lv_iload hx hb dL_refuses_419 (lv_at hl 5 rfl) ?_
  refine mk_iconst hx hb (0) dL_refuses_421 ?_
  refine mk_iconst hx hb (0) dL_refuses_422 ?_
  refine mw_goIs (vx_runSW (As := [.ref (ad 0), .int (iI 5), .int (iI 0), .int (iI 1825), .int (iI 0), .int (iI 0)]) (rest := []) ⟨hx, hb, hml, hown, hts⟩ (c_L_act_holding_no1 l cg D ad st 0 1825 0 0 (c_X5_holding_noD_0 l cg D ad st hst 1825 (by decide +kernel) (by decide +kernel))) (vx_cwSW 6 hts gL_refuses_L_act rfl rfl rfl (by decide +kernel) ⟨Nat.le_of_ble_eq_true rfl, Nat.le_of_ble_eq_true rfl⟩) (mw_preS hK hN hxK hxZ hxN hW) rfl rfl hl.1 rfl (lv_room (Nat.le_of_ble_eq_true rfl)) dL_refuses_423 ⟨Nat.le_of_ble_eq_true rfl, Nat.le_of_ble_eq_true rfl⟩) hW (fun z st1 hp H locs hW => ?_)
  obtain ⟨e1, e2⟩ := hp
  subst e1
  rw [e2] at hW
  refine mk_bipush hx hb (-91) (by decide +kernel) dL_refuses_426 ?_
  refine mk_icmp_ne (tgt := 435) hx hb dL_refuses_428 (by decide) (by decide) (by decide) (fun h => absurd h (by decide)) (fun _ => ?_)
  refine mk_iconst hx hb (1) dL_refuses_431 ?_
  refine lv_goto (tgt := 436) hx hb dL_refuses_432 (by decide) ?_
  refine lv_istore (lv' := [(12, .int (iI 1)), (13, .int (iI 5)), (11, .int (iI 1000001)), (10, .int (iI 1001)), (9, .int (iI 5)), (8, .int (iI 1825)), (7, .int (iI 3)), (6, .int (iI (-2147483648))), (5, .int (iI 1)), (4, .int (iI 2147483647)), (3, .int (iI (bH b 0 1824 / fla (bSD b 0) (bSF b 0) (bM b 0) 1824))), (2, .int (iI (yN b (xR st) (xD st) 0))), (1, .int (iI (b 0 0))), (0, .ref (ad 0))]) hx hb dL_refuses_436 hl (by decide) rfl (fun ls hl => ?_)
  refine mk_iinc (w := 6) (lv' := [(13, .int (iI 6)), (12, .int (iI 1)), (11, .int (iI 1000001)), (10, .int (iI 1001)), (9, .int (iI 5)), (8, .int (iI 1825)), (7, .int (iI 3)), (6, .int (iI (-2147483648))), (5, .int (iI 1)), (4, .int (iI 2147483647)), (3, .int (iI (bH b 0 1824 / fla (bSD b 0) (bSF b 0) (bM b 0) 1824))), (2, .int (iI (yN b (xR st) (xD st) 0))), (1, .int (iI (b 0 0))), (0, .ref (ad 0))]) hx hb dL_refuses_438 hl (k := 1) rfl (by omega) (by decide) rfl (fun ls hl => ?_)
  refine lv_goto (tgt := 387) hx hb dL_refuses_441 (by decide) ?_
  refine lv_iload hx hb dL_refuses_387 (lv_at hl 0 rfl) ?_
  refine mk_bipush hx hb (8) (by decide +kernel) dL_refuses_389 ?_
  refine mk_icmp_ge (tgt := 444) hx hb dL_refuses_391 (by decide) (by decide) (by decide) (fun h => absurd h (by decide)) (fun _ => ?_)
  refine lv_iload hx hb dL_refuses_394 (lv_at hl 1 rfl) ?_
  refine mk_if_eq (tgt := 435) hx hb dL_refuses_396 (by decide) (by decide) (fun h => absurd h (by decide)) (fun _ => ?_)
  refine lv_aload_n hx hb dL_refuses_399 rfl (lv_at hl 13 rfl) ?_
  refine lv_iload hx hb dL_refuses_400 (lv_at hl 0 rfl) ?_
  refine lv_iload hx hb dL_refuses_402 (lv_at hl 6 rfl) ?_
  refine mk_iconst hx hb (0) dL_refuses_404 ?_
  refine mk_iconst hx hb (0) dL_refuses_405 ?_
  refine mk_iconst hx hb (0) dL_refuses_406 ?_
  refine mw_goIs (vx_runSW (As := [.ref (ad 0), .int (iI 6), .int (iI 3), .int (iI 0), .int (iI 0), .int (iI 0)]) (rest := []) ⟨hx, hb, hml, hown, hts⟩ (c_L_act_poolUnits_no1 l cg D ad st 3 0 0 0 (c_X5_poolUnits_noA l cg D ad st hst 3 0 (by decide +kernel) (by decide +kernel))) (vx_cwSW 6 hts gL_refuses_L_act rfl rfl rfl (by decide +kernel) ⟨Nat.le_of_ble_eq_true rfl, Nat.le_of_ble_eq_true rfl⟩) (mw_preS hK hN hxK hxZ hxN hW) rfl rfl hl.1 rfl (lv_room (Nat.le_of_ble_eq_true rfl)) dL_refuses_407 ⟨Nat.le_of_ble_eq_true rfl, Nat.le_of_ble_eq_true rfl⟩) hW (fun z st1 hp H locs hW => ?_)
  obtain ⟨e1, e2⟩ := hp
  subst e1
  rw [e2] at hW
  refine mk_bipush hx hb (-91) (by decide +kernel) dL_refuses_410 ?_
  refine mk_icmp_ne (tgt := 435) hx hb dL_refuses_412 (by decide) (by decide) (by decide) (fun h => absurd h (by decide)) (fun _ => ?_)
  refine lv_aload_n hx hb dL_refuses_415 rfl (lv_at hl 13 rfl) ?_
  refine lv_iload hx hb dL_refuses_416 (lv_at hl 0 rfl) ?_
  refine mk_iconst hx hb (0) dL_refuses_418 ?_
  refine lv_iload hx hb dL_refuses_419 (lv_at hl 5 rfl) ?_
  refine mk_iconst hx hb (0) dL_refuses_421 ?_
  refine mk_iconst hx hb (0) dL_refuses_422 ?_
  refine mw_goIs (vx_runSW (As := [.ref (ad 0), .int (iI 6), .int (iI 0), .int (iI 1825), .int (iI 0), .int (iI 0)]) (rest := []) ⟨hx, hb, hml, hown, hts⟩ (c_L_act_poolUnits_no1 l cg D ad st 0 1825 0 0 (c_X5_poolUnits_noD_0 l cg D ad st hst 1825 (by decide +kernel) (by decide +kernel))) (vx_cwSW 6 hts gL_refuses_L_act rfl rfl rfl (by decide +kernel) ⟨Nat.le_of_ble_eq_true rfl, Nat.le_of_ble_eq_true rfl⟩) (mw_preS hK hN hxK hxZ hxN hW) rfl rfl hl.1 rfl (lv_room (Nat.le_of_ble_eq_true rfl)) dL_refuses_423 ⟨Nat.le_of_ble_eq_true rfl, Nat.le_of_ble_eq_true rfl⟩) hW (fun z st1 hp H locs hW => ?_)
  obtain ⟨e1, e2⟩ := hp
  subst e1
  rw [e2] at hW
  refine mk_bipush hx hb (-91) (by decide +kernel) dL_refuses_426 ?_
  refine mk_icmp_ne (tgt := 435) hx hb dL_refuses_428 (by decide) (by decide) (by decide) (fun h => absurd h (by decide)) (fun _ => ?_)
  refine mk_iconst hx hb (1) dL_refuses_431 ?_
  refine lv_goto (tgt := 436) hx hb dL_refuses_432 (by decide) ?_
  refine lv_istore (lv' := [(12, .int (iI 1)), (13, .int (iI 6)), (11, .int (iI 1000001)), (10, .int (iI 1001)), (9, .int (iI 5)), (8, .int (iI 1825)), (7, .int (iI 3)), (6, .int (iI (-2147483648))), (5, .int (iI 1)), (4, .int (iI 2147483647)), (3, .int (iI (bH b 0 1824 / fla (bSD b 0) (bSF b 0) (bM b 0) 1824))), (2, .int (iI (yN b (xR st) (xD st) 0))), (1, .int (iI (b 0 0))), (0, .ref (ad 0))]) hx hb dL_refuses_436 hl (by decide) rfl (fun ls hl => ?_)
  refine mk_iinc (w := 7) (lv' := [(13, .int (iI 7)), (12, .int (iI 1)), (11, .int (iI 1000001)), (10, .int (iI 1001)), (9, .int (iI 5)), (8, .int (iI 1825)), (7, .int (iI 3)), (6, .int (iI (-2147483648))), (5, .int (iI 1)), (4, .int (iI 2147483647)), (3, .int (iI (bH b 0 1824 / fla (bSD b 0) (bSF b 0) (bM b 0) 1824))), (2, .int (iI (yN b (xR st) (xD st) 0))), (1, .int (iI (b 0 0))), (0, .ref (ad 0))]) hx hb dL_refuses_438 hl (k := 1) rfl (by omega) (by decide) rfl (fun ls hl => ?_)
  refine lv_goto (tgt := 387) hx hb dL_refuses_441 (by decide) ?_
  refine lv_iload hx hb dL_refuses_387 (lv_at hl 0 rfl) ?_
  refine mk_bipush hx hb (8) (by decide +kernel) dL_refuses_389 ?_
  refine mk_icmp_ge (tgt := 444) hx hb dL_refuses_391 (by decide) (by decide) (by decide) (fun h => absurd h (by decide)) (fun _ => ?_)
  refine lv_iload hx hb dL_refuses_394 (lv_at hl 1 rfl) ?_
  refine mk_if_eq (tgt := 435) hx hb dL_refuses_396 (by decide) (by decide) (fun h => absurd h (by decide)) (fun _ => ?_)
  refine lv_aload_n hx hb dL_refuses_399 rfl (lv_at hl 13 rfl) ?_
  refine lv_iload hx hb dL_refuses_400 (lv_at hl 0 rfl) ?_
  refine lv_iload hx hb dL_refuses_402 (lv_at hl 6 rfl) ?_
  refine mk_iconst hx hb (0) dL_refuses_404 ?_
  refine mk_iconst hx hb (0) dL_refuses_405 ?_
  refine mk_iconst hx hb (0) dL_refuses_406 ?_
  refine mw_goIs (vx_runSW (As := [.ref (ad 0), .int (iI 7), .int (iI 3), .int (iI 0), .int (iI 0), .int (iI 0)]) (rest := []) ⟨hx, hb, hml, hown, hts⟩ (c_L_act_poolCost_no1 l cg D ad st 3 0 0 0 (c_X5_poolCost_noA l cg D ad st hst 3 0 (by decide +kernel) (by decide +kernel))) (vx_cwSW 6 hts gL_refuses_L_act rfl rfl rfl (by decide +kernel) ⟨Nat.le_of_ble_eq_true rfl, Nat.le_of_ble_eq_true rfl⟩) (mw_preS hK hN hxK hxZ hxN hW) rfl rfl hl.1 rfl (lv_room (Nat.le_of_ble_eq_true rfl)) dL_refuses_407 ⟨Nat.le_of_ble_eq_true rfl, Nat.le_of_ble_eq_true rfl⟩) hW (fun z st1 hp H locs hW => ?_)
  obtain ⟨e1, e2⟩ := hp
  subst e1
  rw [e2] at hW
  refine mk_bipush hx hb (-91) (by decide +kernel) dL_refuses_410 ?_
  refine mk_icmp_ne (tgt := 435) hx hb dL_refuses_412 (by decide) (by decide) (by decide) (fun h => absurd h (by decide)) (fun _ => ?_)
  refine lv_aload_n hx hb dL_refuses_415 rfl (lv_at hl 13 rfl) ?_
  refine lv_iload hx hb dL_refuses_416 (lv_at hl 0 rfl) ?_
  refine mk_iconst hx hb (0) dL_refuses_418 ?_
  refine lv_iload hx hb dL_refuses_419 (lv_at hl 5 rfl) ?_
  refine mk_iconst hx hb (0) dL_refuses_421 ?_
  refine mk_iconst hx hb (0) dL_refuses_422 ?_
  refine mw_goIs (vx_runSW (As := [.ref (ad 0), .int (iI 7), .int (iI 0), .int (iI 1825), .int (iI 0), .int (iI 0)]) (rest := []) ⟨hx, hb, hml, hown, hts⟩ (c_L_act_poolCost_no1 l cg D ad st 0 1825 0 0 (c_X5_poolCost_noD_0 l cg D ad st hst 1825 (by decide +kernel) (by decide +kernel))) (vx_cwSW 6 hts gL_refuses_L_act rfl rfl rfl (by decide +kernel) ⟨Nat.le_of_ble_eq_true rfl, Nat.le_of_ble_eq_true rfl⟩) (mw_preS hK hN hxK hxZ hxN hW) rfl rfl hl.1 rfl (lv_room (Nat.le_of_ble_eq_true rfl)) dL_refuses_423 ⟨Nat.le_of_ble_eq_true rfl, Nat.le_of_ble_eq_true rfl⟩) hW (fun z st1 hp H locs hW => ?_)
  obtain ⟨e1, e2⟩ := hp
  subst e1
  rw [e2] at hW
  refine mk_bipush hx hb (-91) (by decide +kernel) dL_refuses_426 ?_
  refine mk_icmp_ne (tgt := 435) hx hb dL_refuses_428 (by decide) (by decide) (by decide) (fun h => absurd h (by decide)) (fun _ => ?_)
  refine mk_iconst hx hb (1) dL_refuses_431 ?_
  refine lv_goto (tgt := 436) hx hb dL_refuses_432 (by decide) ?_
  refine lv_istore (lv' := [(12, .int (iI 1)), (13, .int (iI 7)), (11, .int (iI 1000001)), (10, .int (iI 1001)), (9, .int (iI 5)), (8, .int (iI 1825)), (7, .int (iI 3)), (6, .int (iI (-2147483648))), (5, .int (iI 1)), (4, .int (iI 2147483647)), (3, .int (iI (bH b 0 1824 / fla (bSD b 0) (bSF b 0) (bM b 0) 1824))), (2, .int (iI (yN b (xR st) (xD st) 0))), (1, .int (iI (b 0 0))), (0, .ref (ad 0))]) hx hb dL_refuses_436 hl (by decide) rfl (fun ls hl => ?_)
  refine mk_iinc (w := 8) (lv' := [(13, .int (iI 8)), (12, .int (iI 1)), (11, .int (iI 1000001)), (10, .int (iI 1001)), (9, .int (iI 5)), (8, .int (iI 1825)), (7, .int (iI 3)), (6, .int (iI (-2147483648))), (5, .int (iI 1)), (4, .int (iI 2147483647)), (3, .int (iI (bH b 0 1824 / fla (bSD b 0) (bSF b 0) (bM b 0) 1824))), (2, .int (iI (yN b (xR st) (xD st) 0))), (1, .int (iI (b 0 0))), (0, .ref (ad 0))]) hx hb dL_refuses_438 hl (k := 1) rfl (by omega) (by decide) rfl (fun ls hl => ?_)
  refine lv_goto (tgt := 387) hx hb dL_refuses_441 (by decide) ?_
  refine lv_iload hx hb dL_refuses_387 (lv_at hl 0 rfl) ?_
  refine mk_bipush hx hb (8) (by decide +kernel) dL_refuses_389 ?_
  refine mk_icmp_ge (tgt := 444) hx hb dL_refuses_391 (by decide) (by decide) (by decide) (fun _ => ?_) (fun h => absurd h (by decide))
  exact kk _ _ _ hl hW
set_option maxHeartbeats 4000000 in
set_option maxRecDepth 100000 in
theorem rs_1_e (F : LX p l s m args meth c cL_refuses 14 wsL_refuses cg D (wA 73 ad)) (hW : GW D vwCl 73 (celX cg) ad (wA 73 ad) s.heap st H locs) (hX : XI st b) (hl : lv_has ls 14 [(13, .int (iI 8)), (12, .int (iI 1)), (11, .int (iI 1000001)), (10, .int (iI 1001)), (9, .int (iI 5)), (8, .int (iI 1825)), (7, .int (iI 3)), (6, .int (iI (-2147483648))), (5, .int (iI 1)), (4, .int (iI 2147483647)), (3, .int (iI (bH b 0 1824 / fla (bSD b 0) (bSF b 0) (bM b 0) 1824))), (2, .int (iI (yN b (xR st) (xD st) 0))), (1, .int (iI (b 0 0))), (0, .ref (ad 0))])
    (kk : ∀ (ls : Array Slot) (H : Heap) (locs : List Loc), lv_has ls 14 [(12, .int (iI 1)), (13, .int (iI 8)), (11, .int (iI 1000001)), (10, .int (iI 1001)), (9, .int (iI 5)), (8, .int (iI 1825)), (7, .int (iI 3)), (6, .int (iI (-2147483648))), (5, .int (iI 1)), (4, .int (iI 2147483647)), (3, .int (iI (bH b 0 1824 / fla (bSD b 0) (bSF b 0) (bM b 0) 1824))), (2, .int (iI (yN b (xR st) (xD st) 0))), (1, .int (iI (b 0 0))), (0, .ref (ad 0))] → GW D vwCl 73 (celX cg) ad (wA 73 ad) s.heap st H locs → W p l e (headSpec wsL_refuses ({ frames := 10, cells := 164, slots := 984, locals := 210 })).room s m args below meth c H locs 64 384 Q (F0 m 488 ls [])) : W p l e (headSpec wsL_refuses ({ frames := 10, cells := 164, slots := 984, locals := 210 })).room s m args below meth c H locs 62 372 Q (F0 m 444 ls []) := by
  obtain ⟨hx, hb, hml, hown, hts, hlocks, hst, hK, hN, hxK, hxZ, hxN⟩ := id F
  have hn0 := hX.1.1
  have hn6 := hX.1.n60
  have hlen : (bAA b 0 (xR st 0) (xD st 0)).length ≤ 60 := (hX.2.2.1 0 (by decide)).len hX.1 (by decide)
  refine lv_iload hx hb dL_refuses_444 (lv_at hl 1 rfl) ?_
  refine mk_if_eq (tgt := 485) hx hb dL_refuses_446 (by decide) (by decide) (fun h => absurd h (by decide)) (fun _ => ?_)
  refine lv_aload_n hx hb dL_refuses_449 rfl (lv_at hl 13 rfl) ?_
  refine mk_bipush hx hb (8) (by decide +kernel) dL_refuses_450 ?_
  refine lv_iload hx hb dL_refuses_452 (lv_at hl 6 rfl) ?_
  refine mk_iconst hx hb (0) dL_refuses_454 ?_
  refine mk_iconst hx hb (0) dL_refuses_455 ?_
  refine mk_iconst hx hb (0) dL_refuses_456 ?_
  refine mw_goIs (vx_runSW (As := [.ref (ad 0), .int (iI 8), .int (iI 3), .int (iI 0), .int (iI 0), .int (iI 0)]) (rest := []) ⟨hx, hb, hml, hown, hts⟩ (c_L_act_gain_no1 l cg D ad st 3 0 0 0 (c_X5_gain_noA l cg D ad st hst 3 0 (by decide +kernel) (by decide +kernel))) (vx_cwSW 6 hts gL_refuses_L_act rfl rfl rfl (by decide +kernel) ⟨Nat.le_of_ble_eq_true rfl, Nat.le_of_ble_eq_true rfl⟩) (mw_preS hK hN hxK hxZ hxN hW) rfl rfl hl.1 rfl (lv_room (Nat.le_of_ble_eq_true rfl)) dL_refuses_457 ⟨Nat.le_of_ble_eq_true rfl, Nat.le_of_ble_eq_true rfl⟩) hW (fun z st1 hp H locs hW => ?_)
  obtain ⟨e1, e2⟩ := hp
  subst e1
  rw [e2] at hW
  refine mk_bipush hx hb (-91) (by decide +kernel) dL_refuses_460 ?_
  refine mk_icmp_ne (tgt := 485) hx hb dL_refuses_462 (by decide) (by decide) (by decide) (fun h => absurd h (by decide)) (fun _ => ?_)
  refine lv_aload_n hx hb dL_refuses_465 rfl (lv_at hl 13 rfl) ?_
  refine mk_bipush hx hb (8) (by decide +kernel) dL_refuses_466 ?_
  refine mk_iconst hx hb (0) dL_refuses_468 ?_
  refine lv_iload hx hb dL_refuses_469 (lv_at hl 4 rfl) ?_
  refine mk_iconst hx hb (0) dL_refuses_471 ?_
  refine mk_iconst hx hb (0) dL_refuses_472 ?_
  refine mw_goIs (vx_runSW (As := [.ref (ad 0), .int (iI 8), .int (iI 0), .int (iI 5), .int (iI 0), .int (iI 0)]) (rest := []) ⟨hx, hb, hml, hown, hts⟩ (c_L_act_gain_no1 l cg D ad st 0 5 0 0 (c_X5_gain_noY_0 l cg D ad st hst 5 (by decide +kernel) (by decide +kernel))) (vx_cwSW 6 hts gL_refuses_L_act rfl rfl rfl (by decide +kernel) ⟨Nat.le_of_ble_eq_true rfl, Nat.le_of_ble_eq_true rfl⟩) (mw_preS hK hN hxK hxZ hxN hW) rfl rfl hl.1 rfl (lv_room (Nat.le_of_ble_eq_true rfl)) dL_refuses_473 ⟨Nat.le_of_ble_eq_true rfl, Nat.le_of_ble_eq_true rfl⟩) hW (fun z st1 hp H locs hW => ?_)
  obtain ⟨e1, e2⟩ := hp
  subst e1
  rw [e2] at hW
  refine mk_bipush hx hb (-91) (by decide +kernel) dL_refuses_476 ?_
  refine mk_icmp_ne (tgt := 485) hx hb dL_refuses_478 (by decide) (by decide) (by decide) (fun h => absurd h (by decide)) (fun _ => ?_)
  refine mk_iconst hx hb (1) dL_refuses_481 ?_
  refine lv_goto (tgt := 486) hx hb dL_refuses_482 (by decide) ?_
  refine lv_istore (lv' := [(12, .int (iI 1)), (13, .int (iI 8)), (11, .int (iI 1000001)), (10, .int (iI 1001)), (9, .int (iI 5)), (8, .int (iI 1825)), (7, .int (iI 3)), (6, .int (iI (-2147483648))), (5, .int (iI 1)), (4, .int (iI 2147483647)), (3, .int (iI (bH b 0 1824 / fla (bSD b 0) (bSF b 0) (bM b 0) 1824))), (2, .int (iI (yN b (xR st) (xD st) 0))), (1, .int (iI (b 0 0))), (0, .ref (ad 0))]) hx hb dL_refuses_486 hl (by decide) rfl (fun ls hl => ?_)
  exact kk _ _ _ hl hW
set_option maxHeartbeats 4000000 in
set_option maxRecDepth 100000 in
theorem rs_1_f (F : LX p l s m args meth c cL_refuses 14 wsL_refuses cg D (wA 73 ad)) (hW : GW D vwCl 73 (celX cg) ad (wA 73 ad) s.heap st H locs) (hX : XI st b) (hl : lv_has ls 14 [(12, .int (iI 1)), (13, .int (iI 8)), (11, .int (iI 1000001)), (10, .int (iI 1001)), (9, .int (iI 5)), (8, .int (iI 1825)), (7, .int (iI 3)), (6, .int (iI (-2147483648))), (5, .int (iI 1)), (4, .int (iI 2147483647)), (3, .int (iI (bH b 0 1824 / fla (bSD b 0) (bSF b 0) (bM b 0) 1824))), (2, .int (iI (yN b (xR st) (xD st) 0))), (1, .int (iI (b 0 0))), (0, .ref (ad 0))])
    (kk : ∀ (ls : Array Slot) (H : Heap) (locs : List Loc), lv_has ls 14 [(13, .int (iI 15)), (12, .int (iI 1)), (11, .int (iI 1000001)), (10, .int (iI 1001)), (9, .int (iI 5)), (8, .int (iI 1825)), (7, .int (iI 3)), (6, .int (iI (-2147483648))), (5, .int (iI 1)), (4, .int (iI 2147483647)), (3, .int (iI (bH b 0 1824 / fla (bSD b 0) (bSF b 0) (bM b 0) 1824))), (2, .int (iI (yN b (xR st) (xD st) 0))), (1, .int (iI (b 0 0))), (0, .ref (ad 0))] → GW D vwCl 73 (celX cg) ad (wA 73 ad) s.heap st H locs → W p l e (headSpec wsL_refuses ({ frames := 10, cells := 164, slots := 984, locals := 210 })).room s m args below meth c H locs 76 456 Q (F0 m 563 ls [])) : W p l e (headSpec wsL_refuses ({ frames := 10, cells := 164, slots := 984, locals := 210 })).room s m args below meth c H locs 64 384 Q (F0 m 488 ls []) := by
  obtain ⟨hx, hb, hml, hown, hts, hlocks, hst, hK, hN, hxK, hxZ, hxN⟩ := id F
  have hn0 := hX.1.1
  have hn6 := hX.1.n60
  have hlen : (bAA b 0 (xR st 0) (xD st 0)).length ≤ 60 := (hX.2.2.1 0 (by decide)).len hX.1 (by decide)
  refine mk_bipush hx hb (9) (by decide +kernel) dL_refuses_488 ?_
  refine lv_istore (lv' := [(13, .int (iI 9)), (12, .int (iI 1)), (11, .int (iI 1000001)), (10, .int (iI 1001)), (9, .int (iI 5)), (8, .int (iI 1825)), (7, .int (iI 3)), (6, .int (iI (-2147483648))), (5, .int (iI 1)), (4, .int (iI 2147483647)), (3, .int (iI (bH b 0 1824 / fla (bSD b 0) (bSF b 0) (bM b 0) 1824))), (2, .int (iI (yN b (xR st) (xD st) 0))), (1, .int (iI (b 0 0))), (0, .ref (ad 0))]) hx hb dL_refuses_490 hl (by decide) rfl (fun ls hl => ?_)
  refine lv_iload hx hb dL_refuses_492 (lv_at hl 0 rfl) ?_
  refine mk_bipush hx hb (15) (by decide +kernel) dL_refuses_494 ?_
  refine mk_icmp_ge (tgt := 563) hx hb dL_refuses_496 (by decide) (by decide) (by decide) (fun h => absurd h (by decide)) (fun _ => ?_)
  refine lv_iload hx hb dL_refuses_499 (lv_at hl 1 rfl) ?_
  refine mk_if_eq (tgt := 554) hx hb dL_refuses_501 (by decide) (by decide) (fun h => absurd h (by decide)) (fun _ => ?_)
  refine lv_aload_n hx hb dL_refuses_504 rfl (lv_at hl 13 rfl) ?_
  refine lv_iload hx hb dL_refuses_505 (lv_at hl 0 rfl) ?_
  refine lv_iload hx hb dL_refuses_507 (lv_at hl 6 rfl) ?_
  refine mk_iconst hx hb (0) dL_refuses_509 ?_
  refine mk_iconst hx hb (0) dL_refuses_510 ?_
  refine mk_iconst hx hb (0) dL_refuses_511 ?_
  refine mw_goIs (vx_runSW (As := [.ref (ad 0), .int (iI 9), .int (iI 3), .int (iI 0), .int (iI 0), .int (iI 0)]) (rest := []) ⟨hx, hb, hml, hown, hts⟩ (c_L_act_kindOf_no1 l cg D ad st 3 0 0 0 (c_X5_kindOf_noA l cg D ad st hst 3 0 (by decide +kernel) (by decide +kernel))) (vx_cwSW 6 hts gL_refuses_L_act rfl rfl rfl (by decide +kernel) ⟨Nat.le_of_ble_eq_true rfl, Nat.le_of_ble_eq_true rfl⟩) (mw_preS hK hN hxK hxZ hxN hW) rfl rfl hl.1 rfl (lv_room (Nat.le_of_ble_eq_true rfl)) dL_refuses_512 ⟨Nat.le_of_ble_eq_true rfl, Nat.le_of_ble_eq_true rfl⟩) hW (fun z st1 hp H locs hW => ?_)
  obtain ⟨e1, e2⟩ := hp
  subst e1
  rw [e2] at hW
  refine mk_bipush hx hb (-91) (by decide +kernel) dL_refuses_515 ?_
  refine mk_icmp_ne (tgt := 554) hx hb dL_refuses_517 (by decide) (by decide) (by decide) (fun h => absurd h (by decide)) (fun _ => ?_)
  refine lv_aload_n hx hb dL_refuses_520 rfl (lv_at hl 13 rfl) ?_
  refine lv_iload hx hb dL_refuses_521 (lv_at hl 0 rfl) ?_
  refine mk_iconst hx hb (0) dL_refuses_523 ?_
  refine lv_iload hx hb dL_refuses_524 (lv_at hl 8 rfl) ?_
  refine mk_iconst hx hb (1) dL_refuses_526 ?_
  refine mk_icmp_ne (tgt := 538) hx hb dL_refuses_527 (by decide) (by decide) (by decide) (fun h => absurd h (by decide)) (fun _ => ?_)
  refine lv_aload_n hx hb dL_refuses_530 rfl (lv_at hl 13 rfl) ?_
  refine mk_iconst hx hb (0) dL_refuses_531 ?_
  refine mk_goI (va_runV (As := [.int (iI 0)]) (rest := [.int (iI 0), .int (iI 9), .ref (ad 0)]) ⟨hx, hb, hml, hown, hts⟩ (c_X5_matches_0 l cg D ad st b hX) (cwV 1 hts gL_refuses_X5_matches rfl rfl rfl (by decide +kernel) ⟨Nat.le_of_ble_eq_true rfl, Nat.le_of_ble_eq_true rfl⟩) (mk_preV hK hN hW 0 (by decide) rfl rfl rfl) rfl rfl hl.1 rfl (lv_room (Nat.le_of_ble_eq_true rfl)) dL_refuses_532 ⟨Nat.le_of_ble_eq_true rfl, Nat.le_of_ble_eq_true rfl⟩) hW (fun z st1 hp H locs hW => ?_)
  obtain ⟨e1, e2⟩ := hp
  rw [e1] at hW
  subst e2
  refine lv_goto (tgt := 540) hx hb dL_refuses_535 (by decide) ?_
  refine mk_iconst hx hb (0) dL_refuses_540 ?_
  refine mk_iconst hx hb (0) dL_refuses_541 ?_
  refine mw_goIs (vx_runSW (As := [.ref (ad 0), .int (iI 9), .int (iI 0), .int (iI ((bAA b 0 (xR st 0) (xD st 0)).length : Int)), .int (iI 0), .int (iI 0)]) (rest := []) ⟨hx, hb, hml, hown, hts⟩ (c_L_act_kindOf_no1 l cg D ad st 0 ((bAA b 0 (xR st 0) (xD st 0)).length : Int) 0 0 (c_X5_kindOf_noM_0 l cg D ad st hst b hX ((bAA b 0 (xR st 0) (xD st 0)).length : Int) (by omega) (by omega))) (vx_cwSW 6 hts gL_refuses_L_act rfl rfl rfl (by decide +kernel) ⟨Nat.le_of_ble_eq_true rfl, Nat.le_of_ble_eq_true rfl⟩) (mw_preS hK hN hxK hxZ hxN hW) rfl rfl hl.1 rfl (lv_room (Nat.le_of_ble_eq_true rfl)) dL_refuses_542 ⟨Nat.le_of_ble_eq_true rfl, Nat.le_of_ble_eq_true rfl⟩) hW (fun z st1 hp H locs hW => ?_)
  obtain ⟨e1, e2⟩ := hp
  subst e1
  rw [e2] at hW
  refine mk_bipush hx hb (-91) (by decide +kernel) dL_refuses_545 ?_
  refine mk_icmp_ne (tgt := 554) hx hb dL_refuses_547 (by decide) (by decide) (by decide) (fun h => absurd h (by decide)) (fun _ => ?_)
  refine mk_iconst hx hb (1) dL_refuses_550 ?_
  refine lv_goto (tgt := 555) hx hb dL_refuses_551 (by decide) ?_
  refine lv_istore (lv' := [(12, .int (iI 1)), (13, .int (iI 9)), (11, .int (iI 1000001)), (10, .int (iI 1001)), (9, .int (iI 5)), (8, .int (iI 1825)), (7, .int (iI 3)), (6, .int (iI (-2147483648))), (5, .int (iI 1)), (4, .int (iI 2147483647)), (3, .int (iI (bH b 0 1824 / fla (bSD b 0) (bSF b 0) (bM b 0) 1824))), (2, .int (iI (yN b (xR st) (xD st) 0))), (1, .int (iI (b 0 0))), (0, .ref (ad 0))]) hx hb dL_refuses_555 hl (by decide) rfl (fun ls hl => ?_)
  refine mk_iinc (w := 10) (lv' := [(13, .int (iI 10)), (12, .int (iI 1)), (11, .int (iI 1000001)), (10, .int (iI 1001)), (9, .int (iI 5)), (8, .int (iI 1825)), (7, .int (iI 3)), (6, .int (iI (-2147483648))), (5, .int (iI 1)), (4, .int (iI 2147483647)), (3, .int (iI (bH b 0 1824 / fla (bSD b 0) (bSF b 0) (bM b 0) 1824))), (2, .int (iI (yN b (xR st) (xD st) 0))), (1, .int (iI (b 0 0))), (0, .ref (ad 0))]) hx hb dL_refuses_557 hl (k := 1) rfl (by omega) (by decide) rfl (fun ls hl => ?_)
  refine lv_goto (tgt := 492) hx hb dL_refuses_560 (by decide) ?_
  refine lv_iload hx hb dL_refuses_492 (lv_at hl 0 rfl) ?_
  refine mk_bipush hx hb (15) (by decide +kernel) dL_refuses_494 ?_
  refine mk_icmp_ge (tgt := 563) hx hb dL_refuses_496 (by decide) (by decide) (by decide) (fun h => absurd h (by decide)) (fun _ => ?_)
  refine lv_iload hx hb dL_refuses_499 (lv_at hl 1 rfl) ?_
  refine mk_if_eq (tgt := 554) hx hb dL_refuses_501 (by decide) (by decide) (fun h => absurd h (by decide)) (fun _ => ?_)
  refine lv_aload_n hx hb dL_refuses_504 rfl (lv_at hl 13 rfl) ?_
  refine lv_iload hx hb dL_refuses_505 (lv_at hl 0 rfl) ?_
  refine lv_iload hx hb dL_refuses_507 (lv_at hl 6 rfl) ?_
  refine mk_iconst hx hb (0) dL_refuses_509 ?_
  refine mk_iconst hx hb (0) dL_refuses_510 ?_
  refine mk_iconst hx hb (0) dL_refuses_511 ?_
  refine mw_goIs (vx_runSW (As := [.ref (ad 0), .int (iI 10), .int (iI 3), .int (iI 0), .int (iI 0), .int (iI 0)]) (rest := []) ⟨hx, hb, hml, hown, hts⟩ (c_L_act_saleDay_no1 l cg D ad st 3 0 0 0 (c_X5_saleDay_noA l cg D ad st hst 3 0 (by decide +kernel) (by decide +kernel))) (vx_cwSW 6 hts gL_refuses_L_act rfl rfl rfl (by decide +kernel) ⟨Nat.le_of_ble_eq_true rfl, Nat.le_of_ble_eq_true rfl⟩) (mw_preS hK hN hxK hxZ hxN hW) rfl rfl hl.1 rfl (lv_room (Nat.le_of_ble_eq_true rfl)) dL_refuses_512 ⟨Nat.le_of_ble_eq_true rfl, Nat.le_of_ble_eq_true rfl⟩) hW (fun z st1 hp H locs hW => ?_)
  obtain ⟨e1, e2⟩ := hp
  subst e1
  rw [e2] at hW
  refine mk_bipush hx hb (-91) (by decide +kernel) dL_refuses_515 ?_
  refine mk_icmp_ne (tgt := 554) hx hb dL_refuses_517 (by decide) (by decide) (by decide) (fun h => absurd h (by decide)) (fun _ => ?_)
  refine lv_aload_n hx hb dL_refuses_520 rfl (lv_at hl 13 rfl) ?_
  refine lv_iload hx hb dL_refuses_521 (lv_at hl 0 rfl) ?_
  refine mk_iconst hx hb (0) dL_refuses_523 ?_
  refine lv_iload hx hb dL_refuses_524 (lv_at hl 8 rfl) ?_
  refine mk_iconst hx hb (1) dL_refuses_526 ?_
  refine mk_icmp_ne (tgt := 538) hx hb dL_refuses_527 (by decide) (by decide) (by decide) (fun h => absurd h (by decide)) (fun _ => ?_)
  refine lv_aload_n hx hb dL_refuses_530 rfl (lv_at hl 13 rfl) ?_
  refine mk_iconst hx hb (0) dL_refuses_531 ?_
  refine mk_goI (va_runV (As := [.int (iI 0)]) (rest := [.int (iI 0), .int (iI 10), .ref (ad 0)]) ⟨hx, hb, hml, hown, hts⟩ (c_X5_matches_0 l cg D ad st b hX) (cwV 1 hts gL_refuses_X5_matches rfl rfl rfl (by decide +kernel) ⟨Nat.le_of_ble_eq_true rfl, Nat.le_of_ble_eq_true rfl⟩) (mk_preV hK hN hW 0 (by decide) rfl rfl rfl) rfl rfl hl.1 rfl (lv_room (Nat.le_of_ble_eq_true rfl)) dL_refuses_532 ⟨Nat.le_of_ble_eq_true rfl, Nat.le_of_ble_eq_true rfl⟩) hW (fun z st1 hp H locs hW => ?_)
  obtain ⟨e1, e2⟩ := hp
  rw [e1] at hW
  subst e2
  refine lv_goto (tgt := 540) hx hb dL_refuses_535 (by decide) ?_
  refine mk_iconst hx hb (0) dL_refuses_540 ?_
  refine mk_iconst hx hb (0) dL_refuses_541 ?_
  refine mw_goIs (vx_runSW (As := [.ref (ad 0), .int (iI 10), .int (iI 0), .int (iI ((bAA b 0 (xR st 0) (xD st 0)).length : Int)), .int (iI 0), .int (iI 0)]) (rest := []) ⟨hx, hb, hml, hown, hts⟩ (c_L_act_saleDay_no1 l cg D ad st 0 ((bAA b 0 (xR st 0) (xD st 0)).length : Int) 0 0 (c_X5_saleDay_noM_0 l cg D ad st hst b hX ((bAA b 0 (xR st 0) (xD st 0)).length : Int) (by omega) (by omega))) (vx_cwSW 6 hts gL_refuses_L_act rfl rfl rfl (by decide +kernel) ⟨Nat.le_of_ble_eq_true rfl, Nat.le_of_ble_eq_true rfl⟩) (mw_preS hK hN hxK hxZ hxN hW) rfl rfl hl.1 rfl (lv_room (Nat.le_of_ble_eq_true rfl)) dL_refuses_542 ⟨Nat.le_of_ble_eq_true rfl, Nat.le_of_ble_eq_true rfl⟩) hW (fun z st1 hp H locs hW => ?_)
  obtain ⟨e1, e2⟩ := hp
  subst e1
  rw [e2] at hW
  refine mk_bipush hx hb (-91) (by decide +kernel) dL_refuses_545 ?_
  refine mk_icmp_ne (tgt := 554) hx hb dL_refuses_547 (by decide) (by decide) (by decide) (fun h => absurd h (by decide)) (fun _ => ?_)
  refine mk_iconst hx hb (1) dL_refuses_550 ?_
  refine lv_goto (tgt := 555) hx hb dL_refuses_551 (by decide) ?_
  refine lv_istore (lv' := [(12, .int (iI 1)), (13, .int (iI 10)), (11, .int (iI 1000001)), (10, .int (iI 1001)), (9, .int (iI 5)), (8, .int (iI 1825)), (7, .int (iI 3)), (6, .int (iI (-2147483648))), (5, .int (iI 1)), (4, .int (iI 2147483647)), (3, .int (iI (bH b 0 1824 / fla (bSD b 0) (bSF b 0) (bM b 0) 1824))), (2, .int (iI (yN b (xR st) (xD st) 0))), (1, .int (iI (b 0 0))), (0, .ref (ad 0))]) hx hb dL_refuses_555 hl (by decide) rfl (fun ls hl => ?_)
  refine mk_iinc (w := 11) (lv' := [(13, .int (iI 11)), (12, .int (iI 1)), (11, .int (iI 1000001)), (10, .int (iI 1001)), (9, .int (iI 5)), (8, .int (iI 1825)), (7, .int (iI 3)), (6, .int (iI (-2147483648))), (5, .int (iI 1)), (4, .int (iI 2147483647)), (3, .int (iI (bH b 0 1824 / fla (bSD b 0) (bSF b 0) (bM b 0) 1824))), (2, .int (iI (yN b (xR st) (xD st) 0))), (1, .int (iI (b 0 0))), (0, .ref (ad 0))]) hx hb dL_refuses_557 hl (k := 1) rfl (by omega) (by decide) rfl (fun ls hl => ?_)
  refine lv_goto (tgt := 492) hx hb dL_refuses_560 (by decide) ?_
  refine lv_iload hx hb dL_refuses_492 (lv_at hl 0 rfl) ?_
  refine mk_bipush hx hb (15) (by decide +kernel) dL_refuses_494 ?_
  refine mk_icmp_ge (tgt := 563) hx hb dL_refuses_496 (by decide) (by decide) (by decide) (fun h => absurd h (by decide)) (fun _ => ?_)
  refine lv_iload hx hb dL_refuses_499 (lv_at hl 1 rfl) ?_
  refine mk_if_eq (tgt := 554) hx hb dL_refuses_501 (by decide) (by decide) (fun h => absurd h (by decide)) (fun _ => ?_)
  refine lv_aload_n hx hb dL_refuses_504 rfl (lv_at hl 13 rfl) ?_
  refine lv_iload hx hb dL_refuses_505 (lv_at hl 0 rfl) ?_
  refine lv_iload hx hb dL_refuses_507 (lv_at hl 6 rfl) ?_
  refine mk_iconst hx hb (0) dL_refuses_509 ?_
  refine mk_iconst hx hb (0) dL_refuses_510 ?_
  refine mk_iconst hx hb (0) dL_refuses_511 ?_
  refine mw_goIs (vx_runSW (As := [.ref (ad 0), .int (iI 11), .int (iI 3), .int (iI 0), .int (iI 0), .int (iI 0)]) (rest := []) ⟨hx, hb, hml, hown, hts⟩ (c_L_act_buyDay_no1 l cg D ad st 3 0 0 0 (c_X5_buyDay_noA l cg D ad st hst 3 0 (by decide +kernel) (by decide +kernel))) (vx_cwSW 6 hts gL_refuses_L_act rfl rfl rfl (by decide +kernel) ⟨Nat.le_of_ble_eq_true rfl, Nat.le_of_ble_eq_true rfl⟩) (mw_preS hK hN hxK hxZ hxN hW) rfl rfl hl.1 rfl (lv_room (Nat.le_of_ble_eq_true rfl)) dL_refuses_512 ⟨Nat.le_of_ble_eq_true rfl, Nat.le_of_ble_eq_true rfl⟩) hW (fun z st1 hp H locs hW => ?_)
  obtain ⟨e1, e2⟩ := hp
  subst e1
  rw [e2] at hW
  refine mk_bipush hx hb (-91) (by decide +kernel) dL_refuses_515 ?_
  refine mk_icmp_ne (tgt := 554) hx hb dL_refuses_517 (by decide) (by decide) (by decide) (fun h => absurd h (by decide)) (fun _ => ?_)
  refine lv_aload_n hx hb dL_refuses_520 rfl (lv_at hl 13 rfl) ?_
  refine lv_iload hx hb dL_refuses_521 (lv_at hl 0 rfl) ?_
  refine mk_iconst hx hb (0) dL_refuses_523 ?_
  refine lv_iload hx hb dL_refuses_524 (lv_at hl 8 rfl) ?_
  refine mk_iconst hx hb (1) dL_refuses_526 ?_
  refine mk_icmp_ne (tgt := 538) hx hb dL_refuses_527 (by decide) (by decide) (by decide) (fun h => absurd h (by decide)) (fun _ => ?_)
  refine lv_aload_n hx hb dL_refuses_530 rfl (lv_at hl 13 rfl) ?_
  refine mk_iconst hx hb (0) dL_refuses_531 ?_
  refine mk_goI (va_runV (As := [.int (iI 0)]) (rest := [.int (iI 0), .int (iI 11), .ref (ad 0)]) ⟨hx, hb, hml, hown, hts⟩ (c_X5_matches_0 l cg D ad st b hX) (cwV 1 hts gL_refuses_X5_matches rfl rfl rfl (by decide +kernel) ⟨Nat.le_of_ble_eq_true rfl, Nat.le_of_ble_eq_true rfl⟩) (mk_preV hK hN hW 0 (by decide) rfl rfl rfl) rfl rfl hl.1 rfl (lv_room (Nat.le_of_ble_eq_true rfl)) dL_refuses_532 ⟨Nat.le_of_ble_eq_true rfl, Nat.le_of_ble_eq_true rfl⟩) hW (fun z st1 hp H locs hW => ?_)
  obtain ⟨e1, e2⟩ := hp
  rw [e1] at hW
  subst e2
  refine lv_goto (tgt := 540) hx hb dL_refuses_535 (by decide) ?_
  refine mk_iconst hx hb (0) dL_refuses_540 ?_
  refine mk_iconst hx hb (0) dL_refuses_541 ?_
  refine mw_goIs (vx_runSW (As := [.ref (ad 0), .int (iI 11), .int (iI 0), .int (iI ((bAA b 0 (xR st 0) (xD st 0)).length : Int)), .int (iI 0), .int (iI 0)]) (rest := []) ⟨hx, hb, hml, hown, hts⟩ (c_L_act_buyDay_no1 l cg D ad st 0 ((bAA b 0 (xR st 0) (xD st 0)).length : Int) 0 0 (c_X5_buyDay_noM_0 l cg D ad st hst b hX ((bAA b 0 (xR st 0) (xD st 0)).length : Int) (by omega) (by omega))) (vx_cwSW 6 hts gL_refuses_L_act rfl rfl rfl (by decide +kernel) ⟨Nat.le_of_ble_eq_true rfl, Nat.le_of_ble_eq_true rfl⟩) (mw_preS hK hN hxK hxZ hxN hW) rfl rfl hl.1 rfl (lv_room (Nat.le_of_ble_eq_true rfl)) dL_refuses_542 ⟨Nat.le_of_ble_eq_true rfl, Nat.le_of_ble_eq_true rfl⟩) hW (fun z st1 hp H locs hW => ?_)
  obtain ⟨e1, e2⟩ := hp
  subst e1
  rw [e2] at hW
  refine mk_bipush hx hb (-91) (by decide +kernel) dL_refuses_545 ?_
  refine mk_icmp_ne (tgt := 554) hx hb dL_refuses_547 (by decide) (by decide) (by decide) (fun h => absurd h (by decide)) (fun _ => ?_)
  refine mk_iconst hx hb (1) dL_refuses_550 ?_
  refine lv_goto (tgt := 555) hx hb dL_refuses_551 (by decide) ?_
  refine lv_istore (lv' := [(12, .int (iI 1)), (13, .int (iI 11)), (11, .int (iI 1000001)), (10, .int (iI 1001)), (9, .int (iI 5)), (8, .int (iI 1825)), (7, .int (iI 3)), (6, .int (iI (-2147483648))), (5, .int (iI 1)), (4, .int (iI 2147483647)), (3, .int (iI (bH b 0 1824 / fla (bSD b 0) (bSF b 0) (bM b 0) 1824))), (2, .int (iI (yN b (xR st) (xD st) 0))), (1, .int (iI (b 0 0))), (0, .ref (ad 0))]) hx hb dL_refuses_555 hl (by decide) rfl (fun ls hl => ?_)
  refine mk_iinc (w := 12) (lv' := [(13, .int (iI 12)), (12, .int (iI 1)), (11, .int (iI 1000001)), (10, .int (iI 1001)), (9, .int (iI 5)), (8, .int (iI 1825)), (7, .int (iI 3)), (6, .int (iI (-2147483648))), (5, .int (iI 1)), (4, .int (iI 2147483647)), (3, .int (iI (bH b 0 1824 / fla (bSD b 0) (bSF b 0) (bM b 0) 1824))), (2, .int (iI (yN b (xR st) (xD st) 0))), (1, .int (iI (b 0 0))), (0, .ref (ad 0))]) hx hb dL_refuses_557 hl (k := 1) rfl (by omega) (by decide) rfl (fun ls hl => ?_)
  refine lv_goto (tgt := 492) hx hb dL_refuses_560 (by decide) ?_
  refine lv_iload hx hb dL_refuses_492 (lv_at hl 0 rfl) ?_
  refine mk_bipush hx hb (15) (by decide +kernel) dL_refuses_494 ?_
  refine mk_icmp_ge (tgt := 563) hx hb dL_refuses_496 (by decide) (by decide) (by decide) (fun h => absurd h (by decide)) (fun _ => ?_)
  refine lv_iload hx hb dL_refuses_499 (lv_at hl 1 rfl) ?_
  refine mk_if_eq (tgt := 554) hx hb dL_refuses_501 (by decide) (by decide) (fun h => absurd h (by decide)) (fun _ => ?_)
  refine lv_aload_n hx hb dL_refuses_504 rfl (lv_at hl 13 rfl) ?_
  refine lv_iload hx hb dL_refuses_505 (lv_at hl 0 rfl) ?_
  refine lv_iload hx hb dL_refuses_507 (lv_at hl 6 rfl) ?_
  refine mk_iconst hx hb (0) dL_refuses_509 ?_
  refine mk_iconst hx hb (0) dL_refuses_510 ?_
  refine mk_iconst hx hb (0) dL_refuses_511 ?_
  refine mw_goIs (vx_runSW (As := [.ref (ad 0), .int (iI 12), .int (iI 3), .int (iI 0), .int (iI 0), .int (iI 0)]) (rest := []) ⟨hx, hb, hml, hown, hts⟩ (c_L_act_unitsOf_no1 l cg D ad st 3 0 0 0 (c_X5_unitsOf_noA l cg D ad st hst 3 0 (by decide +kernel) (by decide +kernel))) (vx_cwSW 6 hts gL_refuses_L_act rfl rfl rfl (by decide +kernel) ⟨Nat.le_of_ble_eq_true rfl, Nat.le_of_ble_eq_true rfl⟩) (mw_preS hK hN hxK hxZ hxN hW) rfl rfl hl.1 rfl (lv_room (Nat.le_of_ble_eq_true rfl)) dL_refuses_512 ⟨Nat.le_of_ble_eq_true rfl, Nat.le_of_ble_eq_true rfl⟩) hW (fun z st1 hp H locs hW => ?_)
  obtain ⟨e1, e2⟩ := hp
  subst e1
  rw [e2] at hW
  refine mk_bipush hx hb (-91) (by decide +kernel) dL_refuses_515 ?_
  refine mk_icmp_ne (tgt := 554) hx hb dL_refuses_517 (by decide) (by decide) (by decide) (fun h => absurd h (by decide)) (fun _ => ?_)
  refine lv_aload_n hx hb dL_refuses_520 rfl (lv_at hl 13 rfl) ?_
  refine lv_iload hx hb dL_refuses_521 (lv_at hl 0 rfl) ?_
  refine mk_iconst hx hb (0) dL_refuses_523 ?_
  refine lv_iload hx hb dL_refuses_524 (lv_at hl 8 rfl) ?_
  refine mk_iconst hx hb (1) dL_refuses_526 ?_
  refine mk_icmp_ne (tgt := 538) hx hb dL_refuses_527 (by decide) (by decide) (by decide) (fun h => absurd h (by decide)) (fun _ => ?_)
  refine lv_aload_n hx hb dL_refuses_530 rfl (lv_at hl 13 rfl) ?_
  refine mk_iconst hx hb (0) dL_refuses_531 ?_
  refine mk_goI (va_runV (As := [.int (iI 0)]) (rest := [.int (iI 0), .int (iI 12), .ref (ad 0)]) ⟨hx, hb, hml, hown, hts⟩ (c_X5_matches_0 l cg D ad st b hX) (cwV 1 hts gL_refuses_X5_matches rfl rfl rfl (by decide +kernel) ⟨Nat.le_of_ble_eq_true rfl, Nat.le_of_ble_eq_true rfl⟩) (mk_preV hK hN hW 0 (by decide) rfl rfl rfl) rfl rfl hl.1 rfl (lv_room (Nat.le_of_ble_eq_true rfl)) dL_refuses_532 ⟨Nat.le_of_ble_eq_true rfl, Nat.le_of_ble_eq_true rfl⟩) hW (fun z st1 hp H locs hW => ?_)
  obtain ⟨e1, e2⟩ := hp
  rw [e1] at hW
  subst e2
  refine lv_goto (tgt := 540) hx hb dL_refuses_535 (by decide) ?_
  refine mk_iconst hx hb (0) dL_refuses_540 ?_
  refine mk_iconst hx hb (0) dL_refuses_541 ?_
  refine mw_goIs (vx_runSW (As := [.ref (ad 0), .int (iI 12), .int (iI 0), .int (iI ((bAA b 0 (xR st 0) (xD st 0)).length : Int)), .int (iI 0), .int (iI 0)]) (rest := []) ⟨hx, hb, hml, hown, hts⟩ (c_L_act_unitsOf_no1 l cg D ad st 0 ((bAA b 0 (xR st 0) (xD st 0)).length : Int) 0 0 (c_X5_unitsOf_noM_0 l cg D ad st hst b hX ((bAA b 0 (xR st 0) (xD st 0)).length : Int) (by omega) (by omega))) (vx_cwSW 6 hts gL_refuses_L_act rfl rfl rfl (by decide +kernel) ⟨Nat.le_of_ble_eq_true rfl, Nat.le_of_ble_eq_true rfl⟩) (mw_preS hK hN hxK hxZ hxN hW) rfl rfl hl.1 rfl (lv_room (Nat.le_of_ble_eq_true rfl)) dL_refuses_542 ⟨Nat.le_of_ble_eq_true rfl, Nat.le_of_ble_eq_true rfl⟩) hW (fun z st1 hp H locs hW => ?_)
  obtain ⟨e1, e2⟩ := hp
  subst e1
  rw [e2] at hW
  refine mk_bipush hx hb (-91) (by decide +kernel) dL_refuses_545 ?_
  refine mk_icmp_ne (tgt := 554) hx hb dL_refuses_547 (by decide) (by decide) (by decide) (fun h => absurd h (by decide)) (fun _ => ?_)
  refine mk_iconst hx hb (1) dL_refuses_550 ?_
  refine lv_goto (tgt := 555) hx hb dL_refuses_551 (by decide) ?_
  refine lv_istore (lv' := [(12, .int (iI 1)), (13, .int (iI 12)), (11, .int (iI 1000001)), (10, .int (iI 1001)), (9, .int (iI 5)), (8, .int (iI 1825)), (7, .int (iI 3)), (6, .int (iI (-2147483648))), (5, .int (iI 1)), (4, .int (iI 2147483647)), (3, .int (iI (bH b 0 1824 / fla (bSD b 0) (bSF b 0) (bM b 0) 1824))), (2, .int (iI (yN b (xR st) (xD st) 0))), (1, .int (iI (b 0 0))), (0, .ref (ad 0))]) hx hb dL_refuses_555 hl (by decide) rfl (fun ls hl => ?_)
  refine mk_iinc (w := 13) (lv' := [(13, .int (iI 13)), (12, .int (iI 1)), (11, .int (iI 1000001)), (10, .int (iI 1001)), (9, .int (iI 5)), (8, .int (iI 1825)), (7, .int (iI 3)), (6, .int (iI (-2147483648))), (5, .int (iI 1)), (4, .int (iI 2147483647)), (3, .int (iI (bH b 0 1824 / fla (bSD b 0) (bSF b 0) (bM b 0) 1824))), (2, .int (iI (yN b (xR st) (xD st) 0))), (1, .int (iI (b 0 0))), (0, .ref (ad 0))]) hx hb dL_refuses_557 hl (k := 1) rfl (by omega) (by decide) rfl (fun ls hl => ?_)
  refine lv_goto (tgt := 492) hx hb dL_refuses_560 (by decide) ?_
  refine lv_iload hx hb dL_refuses_492 (lv_at hl 0 rfl) ?_
  refine mk_bipush hx hb (15) (by decide +kernel) dL_refuses_494 ?_
  refine mk_icmp_ge (tgt := 563) hx hb dL_refuses_496 (by decide) (by decide) (by decide) (fun h => absurd h (by decide)) (fun _ => ?_)
  refine lv_iload hx hb dL_refuses_499 (lv_at hl 1 rfl) ?_
  refine mk_if_eq (tgt := 554) hx hb dL_refuses_501 (by decide) (by decide) (fun h => absurd h (by decide)) (fun _ => ?_)
  refine lv_aload_n hx hb dL_refuses_504 rfl (lv_at hl 13 rfl) ?_
  refine lv_iload hx hb dL_refuses_505 (lv_at hl 0 rfl) ?_
  refine lv_iload hx hb dL_refuses_507 (lv_at hl 6 rfl) ?_
  refine mk_iconst hx hb (0) dL_refuses_509 ?_
  refine mk_iconst hx hb (0) dL_refuses_510 ?_
  refine mk_iconst hx hb (0) dL_refuses_511 ?_
  refine mw_goIs (vx_runSW (As := [.ref (ad 0), .int (iI 13), .int (iI 3), .int (iI 0), .int (iI 0), .int (iI 0)]) (rest := []) ⟨hx, hb, hml, hown, hts⟩ (c_L_act_costOf_no1 l cg D ad st 3 0 0 0 (c_X5_costOf_noA l cg D ad st hst 3 0 (by decide +kernel) (by decide +kernel))) (vx_cwSW 6 hts gL_refuses_L_act rfl rfl rfl (by decide +kernel) ⟨Nat.le_of_ble_eq_true rfl, Nat.le_of_ble_eq_true rfl⟩) (mw_preS hK hN hxK hxZ hxN hW) rfl rfl hl.1 rfl (lv_room (Nat.le_of_ble_eq_true rfl)) dL_refuses_512 ⟨Nat.le_of_ble_eq_true rfl, Nat.le_of_ble_eq_true rfl⟩) hW (fun z st1 hp H locs hW => ?_)
  obtain ⟨e1, e2⟩ := hp
  subst e1
  rw [e2] at hW
  refine mk_bipush hx hb (-91) (by decide +kernel) dL_refuses_515 ?_
  refine mk_icmp_ne (tgt := 554) hx hb dL_refuses_517 (by decide) (by decide) (by decide) (fun h => absurd h (by decide)) (fun _ => ?_)
  refine lv_aload_n hx hb dL_refuses_520 rfl (lv_at hl 13 rfl) ?_
  refine lv_iload hx hb dL_refuses_521 (lv_at hl 0 rfl) ?_
  refine mk_iconst hx hb (0) dL_refuses_523 ?_
  refine lv_iload hx hb dL_refuses_524 (lv_at hl 8 rfl) ?_
  refine mk_iconst hx hb (1) dL_refuses_526 ?_
  refine mk_icmp_ne (tgt := 538) hx hb dL_refuses_527 (by decide) (by decide) (by decide) (fun h => absurd h (by decide)) (fun _ => ?_)
  refine lv_aload_n hx hb dL_refuses_530 rfl (lv_at hl 13 rfl) ?_
  refine mk_iconst hx hb (0) dL_refuses_531 ?_
  refine mk_goI (va_runV (As := [.int (iI 0)]) (rest := [.int (iI 0), .int (iI 13), .ref (ad 0)]) ⟨hx, hb, hml, hown, hts⟩ (c_X5_matches_0 l cg D ad st b hX) (cwV 1 hts gL_refuses_X5_matches rfl rfl rfl (by decide +kernel) ⟨Nat.le_of_ble_eq_true rfl, Nat.le_of_ble_eq_true rfl⟩) (mk_preV hK hN hW 0 (by decide) rfl rfl rfl) rfl rfl hl.1 rfl (lv_room (Nat.le_of_ble_eq_true rfl)) dL_refuses_532 ⟨Nat.le_of_ble_eq_true rfl, Nat.le_of_ble_eq_true rfl⟩) hW (fun z st1 hp H locs hW => ?_)
  obtain ⟨e1, e2⟩ := hp
  rw [e1] at hW
  subst e2
  refine lv_goto (tgt := 540) hx hb dL_refuses_535 (by decide) ?_
  refine mk_iconst hx hb (0) dL_refuses_540 ?_
  refine mk_iconst hx hb (0) dL_refuses_541 ?_
  refine mw_goIs (vx_runSW (As := [.ref (ad 0), .int (iI 13), .int (iI 0), .int (iI ((bAA b 0 (xR st 0) (xD st 0)).length : Int)), .int (iI 0), .int (iI 0)]) (rest := []) ⟨hx, hb, hml, hown, hts⟩ (c_L_act_costOf_no1 l cg D ad st 0 ((bAA b 0 (xR st 0) (xD st 0)).length : Int) 0 0 (c_X5_costOf_noM_0 l cg D ad st hst b hX ((bAA b 0 (xR st 0) (xD st 0)).length : Int) (by omega) (by omega))) (vx_cwSW 6 hts gL_refuses_L_act rfl rfl rfl (by decide +kernel) ⟨Nat.le_of_ble_eq_true rfl, Nat.le_of_ble_eq_true rfl⟩) (mw_preS hK hN hxK hxZ hxN hW) rfl rfl hl.1 rfl (lv_room (Nat.le_of_ble_eq_true rfl)) dL_refuses_542 ⟨Nat.le_of_ble_eq_true rfl, Nat.le_of_ble_eq_true rfl⟩) hW (fun z st1 hp H locs hW => ?_)
  obtain ⟨e1, e2⟩ := hp
  subst e1
  rw [e2] at hW
  refine mk_bipush hx hb (-91) (by decide +kernel) dL_refuses_545 ?_
  refine mk_icmp_ne (tgt := 554) hx hb dL_refuses_547 (by decide) (by decide) (by decide) (fun h => absurd h (by decide)) (fun _ => ?_)
  refine mk_iconst hx hb (1) dL_refuses_550 ?_
  refine lv_goto (tgt := 555) hx hb dL_refuses_551 (by decide) ?_
  refine lv_istore (lv' := [(12, .int (iI 1)), (13, .int (iI 13)), (11, .int (iI 1000001)), (10, .int (iI 1001)), (9, .int (iI 5)), (8, .int (iI 1825)), (7, .int (iI 3)), (6, .int (iI (-2147483648))), (5, .int (iI 1)), (4, .int (iI 2147483647)), (3, .int (iI (bH b 0 1824 / fla (bSD b 0) (bSF b 0) (bM b 0) 1824))), (2, .int (iI (yN b (xR st) (xD st) 0))), (1, .int (iI (b 0 0))), (0, .ref (ad 0))]) hx hb dL_refuses_555 hl (by decide) rfl (fun ls hl => ?_)
  refine mk_iinc (w := 14) (lv' := [(13, .int (iI 14)), (12, .int (iI 1)), (11, .int (iI 1000001)), (10, .int (iI 1001)), (9, .int (iI 5)), (8, .int (iI 1825)), (7, .int (iI 3)), (6, .int (iI (-2147483648))), (5, .int (iI 1)), (4, .int (iI 2147483647)), (3, .int (iI (bH b 0 1824 / fla (bSD b 0) (bSF b 0) (bM b 0) 1824))), (2, .int (iI (yN b (xR st) (xD st) 0))), (1, .int (iI (b 0 0))), (0, .ref (ad 0))]) hx hb dL_refuses_557 hl (k := 1) rfl (by omega) (by decide) rfl (fun ls hl => ?_)
  refine lv_goto (tgt := 492) hx hb dL_refuses_560 (by decide) ?_
  refine lv_iload hx hb dL_refuses_492 (lv_at hl 0 rfl) ?_
  refine mk_bipush hx hb (15) (by decide +kernel) dL_refuses_494 ?_
  refine mk_icmp_ge (tgt := 563) hx hb dL_refuses_496 (by decide) (by decide) (by decide) (fun h => absurd h (by decide)) (fun _ => ?_)
  refine lv_iload hx hb dL_refuses_499 (lv_at hl 1 rfl) ?_
  refine mk_if_eq (tgt := 554) hx hb dL_refuses_501 (by decide) (by decide) (fun h => absurd h (by decide)) (fun _ => ?_)
  refine lv_aload_n hx hb dL_refuses_504 rfl (lv_at hl 13 rfl) ?_
  refine lv_iload hx hb dL_refuses_505 (lv_at hl 0 rfl) ?_
  refine lv_iload hx hb dL_refuses_507 (lv_at hl 6 rfl) ?_
  refine mk_iconst hx hb (0) dL_refuses_509 ?_
  refine mk_iconst hx hb (0) dL_refuses_510 ?_
  refine mk_iconst hx hb (0) dL_refuses_511 ?_
  refine mw_goIs (vx_runSW (As := [.ref (ad 0), .int (iI 14), .int (iI 3), .int (iI 0), .int (iI 0), .int (iI 0)]) (rest := []) ⟨hx, hb, hml, hown, hts⟩ (c_L_act_proceedsOf_no1 l cg D ad st 3 0 0 0 (c_X5_proceedsOf_noA l cg D ad st hst 3 0 (by decide +kernel) (by decide +kernel))) (vx_cwSW 6 hts gL_refuses_L_act rfl rfl rfl (by decide +kernel) ⟨Nat.le_of_ble_eq_true rfl, Nat.le_of_ble_eq_true rfl⟩) (mw_preS hK hN hxK hxZ hxN hW) rfl rfl hl.1 rfl (lv_room (Nat.le_of_ble_eq_true rfl)) dL_refuses_512 ⟨Nat.le_of_ble_eq_true rfl, Nat.le_of_ble_eq_true rfl⟩) hW (fun z st1 hp H locs hW => ?_)
  obtain ⟨e1, e2⟩ := hp
  subst e1
  rw [e2] at hW
  refine mk_bipush hx hb (-91) (by decide +kernel) dL_refuses_515 ?_
  refine mk_icmp_ne (tgt := 554) hx hb dL_refuses_517 (by decide) (by decide) (by decide) (fun h => absurd h (by decide)) (fun _ => ?_)
  refine lv_aload_n hx hb dL_refuses_520 rfl (lv_at hl 13 rfl) ?_
  refine lv_iload hx hb dL_refuses_521 (lv_at hl 0 rfl) ?_
  refine mk_iconst hx hb (0) dL_refuses_523 ?_
  refine lv_iload hx hb dL_refuses_524 (lv_at hl 8 rfl) ?_
  refine mk_iconst hx hb (1) dL_refuses_526 ?_
  refine mk_icmp_ne (tgt := 538) hx hb dL_refuses_527 (by decide) (by decide) (by decide) (fun h => absurd h (by decide)) (fun _ => ?_)
  refine lv_aload_n hx hb dL_refuses_530 rfl (lv_at hl 13 rfl) ?_
  refine mk_iconst hx hb (0) dL_refuses_531 ?_
  refine mk_goI (va_runV (As := [.int (iI 0)]) (rest := [.int (iI 0), .int (iI 14), .ref (ad 0)]) ⟨hx, hb, hml, hown, hts⟩ (c_X5_matches_0 l cg D ad st b hX) (cwV 1 hts gL_refuses_X5_matches rfl rfl rfl (by decide +kernel) ⟨Nat.le_of_ble_eq_true rfl, Nat.le_of_ble_eq_true rfl⟩) (mk_preV hK hN hW 0 (by decide) rfl rfl rfl) rfl rfl hl.1 rfl (lv_room (Nat.le_of_ble_eq_true rfl)) dL_refuses_532 ⟨Nat.le_of_ble_eq_true rfl, Nat.le_of_ble_eq_true rfl⟩) hW (fun z st1 hp H locs hW => ?_)
  obtain ⟨e1, e2⟩ := hp
  rw [e1] at hW
  subst e2
  refine lv_goto (tgt := 540) hx hb dL_refuses_535 (by decide) ?_
  refine mk_iconst hx hb (0) dL_refuses_540 ?_
  refine mk_iconst hx hb (0) dL_refuses_541 ?_
  refine mw_goIs (vx_runSW (As := [.ref (ad 0), .int (iI 14), .int (iI 0), .int (iI ((bAA b 0 (xR st 0) (xD st 0)).length : Int)), .int (iI 0), .int (iI 0)]) (rest := []) ⟨hx, hb, hml, hown, hts⟩ (c_L_act_proceedsOf_no1 l cg D ad st 0 ((bAA b 0 (xR st 0) (xD st 0)).length : Int) 0 0 (c_X5_proceedsOf_noM_0 l cg D ad st hst b hX ((bAA b 0 (xR st 0) (xD st 0)).length : Int) (by omega) (by omega))) (vx_cwSW 6 hts gL_refuses_L_act rfl rfl rfl (by decide +kernel) ⟨Nat.le_of_ble_eq_true rfl, Nat.le_of_ble_eq_true rfl⟩) (mw_preS hK hN hxK hxZ hxN hW) rfl rfl hl.1 rfl (lv_room (Nat.le_of_ble_eq_true rfl)) dL_refuses_542 ⟨Nat.le_of_ble_eq_true rfl, Nat.le_of_ble_eq_true rfl⟩) hW (fun z st1 hp H locs hW => ?_)
  obtain ⟨e1, e2⟩ := hp
  subst e1
  rw [e2] at hW
  refine mk_bipush hx hb (-91) (by decide +kernel) dL_refuses_545 ?_
  refine mk_icmp_ne (tgt := 554) hx hb dL_refuses_547 (by decide) (by decide) (by decide) (fun h => absurd h (by decide)) (fun _ => ?_)
  refine mk_iconst hx hb (1) dL_refuses_550 ?_
  refine lv_goto (tgt := 555) hx hb dL_refuses_551 (by decide) ?_
  refine lv_istore (lv' := [(12, .int (iI 1)), (13, .int (iI 14)), (11, .int (iI 1000001)), (10, .int (iI 1001)), (9, .int (iI 5)), (8, .int (iI 1825)), (7, .int (iI 3)), (6, .int (iI (-2147483648))), (5, .int (iI 1)), (4, .int (iI 2147483647)), (3, .int (iI (bH b 0 1824 / fla (bSD b 0) (bSF b 0) (bM b 0) 1824))), (2, .int (iI (yN b (xR st) (xD st) 0))), (1, .int (iI (b 0 0))), (0, .ref (ad 0))]) hx hb dL_refuses_555 hl (by decide) rfl (fun ls hl => ?_)
  refine mk_iinc (w := 15) (lv' := [(13, .int (iI 15)), (12, .int (iI 1)), (11, .int (iI 1000001)), (10, .int (iI 1001)), (9, .int (iI 5)), (8, .int (iI 1825)), (7, .int (iI 3)), (6, .int (iI (-2147483648))), (5, .int (iI 1)), (4, .int (iI 2147483647)), (3, .int (iI (bH b 0 1824 / fla (bSD b 0) (bSF b 0) (bM b 0) 1824))), (2, .int (iI (yN b (xR st) (xD st) 0))), (1, .int (iI (b 0 0))), (0, .ref (ad 0))]) hx hb dL_refuses_557 hl (k := 1) rfl (by omega) (by decide) rfl (fun ls hl => ?_)
  refine lv_goto (tgt := 492) hx hb dL_refuses_560 (by decide) ?_
  refine lv_iload hx hb dL_refuses_492 (lv_at hl 0 rfl) ?_
  refine mk_bipush hx hb (15) (by decide +kernel) dL_refuses_494 ?_
  refine mk_icmp_ge (tgt := 563) hx hb dL_refuses_496 (by decide) (by decide) (by decide) (fun _ => ?_) (fun h => absurd h (by decide))
  exact kk _ _ _ hl hW
set_option maxHeartbeats 4000000 in
set_option maxRecDepth 100000 in
theorem rs_1_g (F : LX p l s m args meth c cL_refuses 14 wsL_refuses cg D (wA 73 ad)) (hW : GW D vwCl 73 (celX cg) ad (wA 73 ad) s.heap st H locs) (hX : XI st b) (hl : lv_has ls 14 [(13, .int (iI 15)), (12, .int (iI 1)), (11, .int (iI 1000001)), (10, .int (iI 1001)), (9, .int (iI 5)), (8, .int (iI 1825)), (7, .int (iI 3)), (6, .int (iI (-2147483648))), (5, .int (iI 1)), (4, .int (iI 2147483647)), (3, .int (iI (bH b 0 1824 / fla (bSD b 0) (bSF b 0) (bM b 0) 1824))), (2, .int (iI (yN b (xR st) (xD st) 0))), (1, .int (iI (b 0 0))), (0, .ref (ad 0))])
    (kk : ∀ (ls : Array Slot) (H : Heap) (locs : List Loc), lv_has ls 14 [(13, .int (iI 18)), (12, .int (iI 1)), (11, .int (iI 1000001)), (10, .int (iI 1001)), (9, .int (iI 5)), (8, .int (iI 1825)), (7, .int (iI 3)), (6, .int (iI (-2147483648))), (5, .int (iI 1)), (4, .int (iI 2147483647)), (3, .int (iI (bH b 0 1824 / fla (bSD b 0) (bSF b 0) (bM b 0) 1824))), (2, .int (iI (yN b (xR st) (xD st) 0))), (1, .int (iI (b 0 0))), (0, .ref (ad 0))] → GW D vwCl 73 (celX cg) ad (wA 73 ad) s.heap st H locs → W p l e (headSpec wsL_refuses ({ frames := 10, cells := 164, slots := 984, locals := 210 })).room s m args below meth c H locs 79 474 Q (F0 m 608 ls [])) : W p l e (headSpec wsL_refuses ({ frames := 10, cells := 164, slots := 984, locals := 210 })).room s m args below meth c H locs 76 456 Q (F0 m 563 ls []) := by
  obtain ⟨hx, hb, hml, hown, hts, hlocks, hst, hK, hN, hxK, hxZ, hxN⟩ := id F
  have hn0 := hX.1.1
  have hn6 := hX.1.n60
  have hlen : (bAA b 0 (xR st 0) (xD st 0)).length ≤ 60 := (hX.2.2.1 0 (by decide)).len hX.1 (by decide)
  refine mk_bipush hx hb (15) (by decide +kernel) dL_refuses_563 ?_
  refine lv_istore (lv' := [(13, .int (iI 15)), (12, .int (iI 1)), (11, .int (iI 1000001)), (10, .int (iI 1001)), (9, .int (iI 5)), (8, .int (iI 1825)), (7, .int (iI 3)), (6, .int (iI (-2147483648))), (5, .int (iI 1)), (4, .int (iI 2147483647)), (3, .int (iI (bH b 0 1824 / fla (bSD b 0) (bSF b 0) (bM b 0) 1824))), (2, .int (iI (yN b (xR st) (xD st) 0))), (1, .int (iI (b 0 0))), (0, .ref (ad 0))]) hx hb dL_refuses_565 hl (by decide) rfl (fun ls hl => ?_)
  refine lv_iload hx hb dL_refuses_567 (lv_at hl 0 rfl) ?_
  refine mk_bipush hx hb (18) (by decide +kernel) dL_refuses_569 ?_
  refine mk_icmp_ge (tgt := 608) hx hb dL_refuses_571 (by decide) (by decide) (by decide) (fun h => absurd h (by decide)) (fun _ => ?_)
  refine lv_iload hx hb dL_refuses_574 (lv_at hl 1 rfl) ?_
  refine mk_if_eq (tgt := 599) hx hb dL_refuses_576 (by decide) (by decide) (fun h => absurd h (by decide)) (fun _ => ?_)
  refine lv_aload_n hx hb dL_refuses_579 rfl (lv_at hl 13 rfl) ?_
  refine lv_iload hx hb dL_refuses_580 (lv_at hl 0 rfl) ?_
  refine lv_iload hx hb dL_refuses_582 (lv_at hl 6 rfl) ?_
  refine mk_iconst hx hb (0) dL_refuses_584 ?_
  refine mk_iconst hx hb (0) dL_refuses_585 ?_
  refine mk_iconst hx hb (0) dL_refuses_586 ?_
  refine mw_goIs (vx_runSW (As := [.ref (ad 0), .int (iI 15), .int (iI 3), .int (iI 0), .int (iI 0), .int (iI 0)]) (rest := []) ⟨hx, hb, hml, hown, hts⟩ (c_L_act_costIn_no1 l cg D ad st 3 0 0 0 (c_X5_costIn_noA l cg D ad st hst 3 (by decide +kernel) (by decide +kernel))) (vx_cwSW 6 hts gL_refuses_L_act rfl rfl rfl (by decide +kernel) ⟨Nat.le_of_ble_eq_true rfl, Nat.le_of_ble_eq_true rfl⟩) (mw_preS hK hN hxK hxZ hxN hW) rfl rfl hl.1 rfl (lv_room (Nat.le_of_ble_eq_true rfl)) dL_refuses_587 ⟨Nat.le_of_ble_eq_true rfl, Nat.le_of_ble_eq_true rfl⟩) hW (fun z st1 hp H locs hW => ?_)
  obtain ⟨e1, e2⟩ := hp
  subst e1
  rw [e2] at hW
  refine mk_bipush hx hb (-91) (by decide +kernel) dL_refuses_590 ?_
  refine mk_icmp_ne (tgt := 599) hx hb dL_refuses_592 (by decide) (by decide) (by decide) (fun h => absurd h (by decide)) (fun _ => ?_)
  refine mk_iconst hx hb (1) dL_refuses_595 ?_
  refine lv_goto (tgt := 600) hx hb dL_refuses_596 (by decide) ?_
  refine lv_istore (lv' := [(12, .int (iI 1)), (13, .int (iI 15)), (11, .int (iI 1000001)), (10, .int (iI 1001)), (9, .int (iI 5)), (8, .int (iI 1825)), (7, .int (iI 3)), (6, .int (iI (-2147483648))), (5, .int (iI 1)), (4, .int (iI 2147483647)), (3, .int (iI (bH b 0 1824 / fla (bSD b 0) (bSF b 0) (bM b 0) 1824))), (2, .int (iI (yN b (xR st) (xD st) 0))), (1, .int (iI (b 0 0))), (0, .ref (ad 0))]) hx hb dL_refuses_600 hl (by decide) rfl (fun ls hl => ?_)
  refine mk_iinc (w := 16) (lv' := [(13, .int (iI 16)), (12, .int (iI 1)), (11, .int (iI 1000001)), (10, .int (iI 1001)), (9, .int (iI 5)), (8, .int (iI 1825)), (7, .int (iI 3)), (6, .int (iI (-2147483648))), (5, .int (iI 1)), (4, .int (iI 2147483647)), (3, .int (iI (bH b 0 1824 / fla (bSD b 0) (bSF b 0) (bM b 0) 1824))), (2, .int (iI (yN b (xR st) (xD st) 0))), (1, .int (iI (b 0 0))), (0, .ref (ad 0))]) hx hb dL_refuses_602 hl (k := 1) rfl (by omega) (by decide) rfl (fun ls hl => ?_)
  refine lv_goto (tgt := 567) hx hb dL_refuses_605 (by decide) ?_
  refine lv_iload hx hb dL_refuses_567 (lv_at hl 0 rfl) ?_
  refine mk_bipush hx hb (18) (by decide +kernel) dL_refuses_569 ?_
  refine mk_icmp_ge (tgt := 608) hx hb dL_refuses_571 (by decide) (by decide) (by decide) (fun h => absurd h (by decide)) (fun _ => ?_)
  refine lv_iload hx hb dL_refuses_574 (lv_at hl 1 rfl) ?_
  refine mk_if_eq (tgt := 599) hx hb dL_refuses_576 (by decide) (by decide) (fun h => absurd h (by decide)) (fun _ => ?_)
  refine lv_aload_n hx hb dL_refuses_579 rfl (lv_at hl 13 rfl) ?_
  refine lv_iload hx hb dL_refuses_580 (lv_at hl 0 rfl) ?_
  refine lv_iload hx hb dL_refuses_582 (lv_at hl 6 rfl) ?_
  refine mk_iconst hx hb (0) dL_refuses_584 ?_
  refine mk_iconst hx hb (0) dL_refuses_585 ?_
  refine mk_iconst hx hb (0) dL_refuses_586 ?_
  refine mw_goIs (vx_runSW (As := [.ref (ad 0), .int (iI 16), .int (iI 3), .int (iI 0), .int (iI 0), .int (iI 0)]) (rest := []) ⟨hx, hb, hml, hown, hts⟩ (c_L_act_costMatched_no1 l cg D ad st 3 0 0 0 (c_X5_costMatched_noA l cg D ad st hst 3 (by decide +kernel) (by decide +kernel))) (vx_cwSW 6 hts gL_refuses_L_act rfl rfl rfl (by decide +kernel) ⟨Nat.le_of_ble_eq_true rfl, Nat.le_of_ble_eq_true rfl⟩) (mw_preS hK hN hxK hxZ hxN hW) rfl rfl hl.1 rfl (lv_room (Nat.le_of_ble_eq_true rfl)) dL_refuses_587 ⟨Nat.le_of_ble_eq_true rfl, Nat.le_of_ble_eq_true rfl⟩) hW (fun z st1 hp H locs hW => ?_)
  obtain ⟨e1, e2⟩ := hp
  subst e1
  rw [e2] at hW
  refine mk_bipush hx hb (-91) (by decide +kernel) dL_refuses_590 ?_
  refine mk_icmp_ne (tgt := 599) hx hb dL_refuses_592 (by decide) (by decide) (by decide) (fun h => absurd h (by decide)) (fun _ => ?_)
  refine mk_iconst hx hb (1) dL_refuses_595 ?_
  refine lv_goto (tgt := 600) hx hb dL_refuses_596 (by decide) ?_
  refine lv_istore (lv' := [(12, .int (iI 1)), (13, .int (iI 16)), (11, .int (iI 1000001)), (10, .int (iI 1001)), (9, .int (iI 5)), (8, .int (iI 1825)), (7, .int (iI 3)), (6, .int (iI (-2147483648))), (5, .int (iI 1)), (4, .int (iI 2147483647)), (3, .int (iI (bH b 0 1824 / fla (bSD b 0) (bSF b 0) (bM b 0) 1824))), (2, .int (iI (yN b (xR st) (xD st) 0))), (1, .int (iI (b 0 0))), (0, .ref (ad 0))]) hx hb dL_refuses_600 hl (by decide) rfl (fun ls hl => ?_)
  refine mk_iinc (w := 17) (lv' := [(13, .int (iI 17)), (12, .int (iI 1)), (11, .int (iI 1000001)), (10, .int (iI 1001)), (9, .int (iI 5)), (8, .int (iI 1825)), (7, .int (iI 3)), (6, .int (iI (-2147483648))), (5, .int (iI 1)), (4, .int (iI 2147483647)), (3, .int (iI (bH b 0 1824 / fla (bSD b 0) (bSF b 0) (bM b 0) 1824))), (2, .int (iI (yN b (xR st) (xD st) 0))), (1, .int (iI (b 0 0))), (0, .ref (ad 0))]) hx hb dL_refuses_602 hl (k := 1) rfl (by omega) (by decide) rfl (fun ls hl => ?_)
  refine lv_goto (tgt := 567) hx hb dL_refuses_605 (by decide) ?_
  refine lv_iload hx hb dL_refuses_567 (lv_at hl 0 rfl) ?_
  refine mk_bipush hx hb (18) (by decide +kernel) dL_refuses_569 ?_
  refine mk_icmp_ge (tgt := 608) hx hb dL_refuses_571 (by decide) (by decide) (by decide) (fun h => absurd h (by decide)) (fun _ => ?_)
  refine lv_iload hx hb dL_refuses_574 (lv_at hl 1 rfl) ?_
  refine mk_if_eq (tgt := 599) hx hb dL_refuses_576 (by decide) (by decide) (fun h => absurd h (by decide)) (fun _ => ?_)
  refine lv_aload_n hx hb dL_refuses_579 rfl (lv_at hl 13 rfl) ?_
  refine lv_iload hx hb dL_refuses_580 (lv_at hl 0 rfl) ?_
  refine lv_iload hx hb dL_refuses_582 (lv_at hl 6 rfl) ?_
  refine mk_iconst hx hb (0) dL_refuses_584 ?_
  refine mk_iconst hx hb (0) dL_refuses_585 ?_
  refine mk_iconst hx hb (0) dL_refuses_586 ?_
  refine mw_goIs (vx_runSW (As := [.ref (ad 0), .int (iI 17), .int (iI 3), .int (iI 0), .int (iI 0), .int (iI 0)]) (rest := []) ⟨hx, hb, hml, hown, hts⟩ (c_L_act_matches_no1 l cg D ad st 3 0 0 0 (c_X5_matches_noA l cg D ad st hst 3 (by decide +kernel) (by decide +kernel))) (vx_cwSW 6 hts gL_refuses_L_act rfl rfl rfl (by decide +kernel) ⟨Nat.le_of_ble_eq_true rfl, Nat.le_of_ble_eq_true rfl⟩) (mw_preS hK hN hxK hxZ hxN hW) rfl rfl hl.1 rfl (lv_room (Nat.le_of_ble_eq_true rfl)) dL_refuses_587 ⟨Nat.le_of_ble_eq_true rfl, Nat.le_of_ble_eq_true rfl⟩) hW (fun z st1 hp H locs hW => ?_)
  obtain ⟨e1, e2⟩ := hp
  subst e1
  rw [e2] at hW
  refine mk_bipush hx hb (-91) (by decide +kernel) dL_refuses_590 ?_
  refine mk_icmp_ne (tgt := 599) hx hb dL_refuses_592 (by decide) (by decide) (by decide) (fun h => absurd h (by decide)) (fun _ => ?_)
  refine mk_iconst hx hb (1) dL_refuses_595 ?_
  refine lv_goto (tgt := 600) hx hb dL_refuses_596 (by decide) ?_
  refine lv_istore (lv' := [(12, .int (iI 1)), (13, .int (iI 17)), (11, .int (iI 1000001)), (10, .int (iI 1001)), (9, .int (iI 5)), (8, .int (iI 1825)), (7, .int (iI 3)), (6, .int (iI (-2147483648))), (5, .int (iI 1)), (4, .int (iI 2147483647)), (3, .int (iI (bH b 0 1824 / fla (bSD b 0) (bSF b 0) (bM b 0) 1824))), (2, .int (iI (yN b (xR st) (xD st) 0))), (1, .int (iI (b 0 0))), (0, .ref (ad 0))]) hx hb dL_refuses_600 hl (by decide) rfl (fun ls hl => ?_)
  refine mk_iinc (w := 18) (lv' := [(13, .int (iI 18)), (12, .int (iI 1)), (11, .int (iI 1000001)), (10, .int (iI 1001)), (9, .int (iI 5)), (8, .int (iI 1825)), (7, .int (iI 3)), (6, .int (iI (-2147483648))), (5, .int (iI 1)), (4, .int (iI 2147483647)), (3, .int (iI (bH b 0 1824 / fla (bSD b 0) (bSF b 0) (bM b 0) 1824))), (2, .int (iI (yN b (xR st) (xD st) 0))), (1, .int (iI (b 0 0))), (0, .ref (ad 0))]) hx hb dL_refuses_602 hl (k := 1) rfl (by omega) (by decide) rfl (fun ls hl => ?_)
  refine lv_goto (tgt := 567) hx hb dL_refuses_605 (by decide) ?_
  refine lv_iload hx hb dL_refuses_567 (lv_at hl 0 rfl) ?_
  refine mk_bipush hx hb (18) (by decide +kernel) dL_refuses_569 ?_
  refine mk_icmp_ge (tgt := 608) hx hb dL_refuses_571 (by decide) (by decide) (by decide) (fun _ => ?_) (fun h => absurd h (by decide))
  exact kk _ _ _ hl hW
set_option maxHeartbeats 4000000 in
set_option maxRecDepth 100000 in
theorem rs_1_h (F : LX p l s m args meth c cL_refuses 14 wsL_refuses cg D (wA 73 ad)) (hW : GW D vwCl 73 (celX cg) ad (wA 73 ad) s.heap st H locs) (hX : XI st b) (hl : lv_has ls 14 [(13, .int (iI 18)), (12, .int (iI 1)), (11, .int (iI 1000001)), (10, .int (iI 1001)), (9, .int (iI 5)), (8, .int (iI 1825)), (7, .int (iI 3)), (6, .int (iI (-2147483648))), (5, .int (iI 1)), (4, .int (iI 2147483647)), (3, .int (iI (bH b 0 1824 / fla (bSD b 0) (bSF b 0) (bM b 0) 1824))), (2, .int (iI (yN b (xR st) (xD st) 0))), (1, .int (iI (b 0 0))), (0, .ref (ad 0))])
    (kk : ∀ (ls : Array Slot) (H : Heap) (locs : List Loc), lv_has ls 14 [(13, .int (iI 21)), (12, .int (iI 1)), (11, .int (iI 1000001)), (10, .int (iI 1001)), (9, .int (iI 5)), (8, .int (iI 1825)), (7, .int (iI 3)), (6, .int (iI (-2147483648))), (5, .int (iI 1)), (4, .int (iI 2147483647)), (3, .int (iI (bH b 0 1824 / fla (bSD b 0) (bSF b 0) (bM b 0) 1824))), (2, .int (iI (yN b (xR st) (xD st) 0))), (1, .int (iI (b 0 0))), (0, .ref (ad 0))] → GW D vwCl 73 (celX cg) ad (wA 73 ad) s.heap st H locs → W p l e (headSpec wsL_refuses ({ frames := 10, cells := 164, slots := 984, locals := 210 })).room s m args below meth c H locs 82 492 Q (F0 m 653 ls [])) : W p l e (headSpec wsL_refuses ({ frames := 10, cells := 164, slots := 984, locals := 210 })).room s m args below meth c H locs 79 474 Q (F0 m 608 ls []) := by
  obtain ⟨hx, hb, hml, hown, hts, hlocks, hst, hK, hN, hxK, hxZ, hxN⟩ := id F
  have hn0 := hX.1.1
  have hn6 := hX.1.n60
  have hlen : (bAA b 0 (xR st 0) (xD st 0)).length ≤ 60 := (hX.2.2.1 0 (by decide)).len hX.1 (by decide)
  refine mk_bipush hx hb (18) (by decide +kernel) dL_refuses_608 ?_
  refine lv_istore (lv' := [(13, .int (iI 18)), (12, .int (iI 1)), (11, .int (iI 1000001)), (10, .int (iI 1001)), (9, .int (iI 5)), (8, .int (iI 1825)), (7, .int (iI 3)), (6, .int (iI (-2147483648))), (5, .int (iI 1)), (4, .int (iI 2147483647)), (3, .int (iI (bH b 0 1824 / fla (bSD b 0) (bSF b 0) (bM b 0) 1824))), (2, .int (iI (yN b (xR st) (xD st) 0))), (1, .int (iI (b 0 0))), (0, .ref (ad 0))]) hx hb dL_refuses_610 hl (by decide) rfl (fun ls hl => ?_)
  refine lv_iload hx hb dL_refuses_612 (lv_at hl 0 rfl) ?_
  refine mk_bipush hx hb (21) (by decide +kernel) dL_refuses_614 ?_
  refine mk_icmp_ge (tgt := 653) hx hb dL_refuses_616 (by decide) (by decide) (by decide) (fun h => absurd h (by decide)) (fun _ => ?_)
  refine lv_iload hx hb dL_refuses_619 (lv_at hl 1 rfl) ?_
  refine mk_if_eq (tgt := 644) hx hb dL_refuses_621 (by decide) (by decide) (fun h => absurd h (by decide)) (fun _ => ?_)
  refine lv_aload_n hx hb dL_refuses_624 rfl (lv_at hl 13 rfl) ?_
  refine lv_iload hx hb dL_refuses_625 (lv_at hl 0 rfl) ?_
  refine lv_iload hx hb dL_refuses_627 (lv_at hl 4 rfl) ?_
  refine mk_iconst hx hb (0) dL_refuses_629 ?_
  refine mk_iconst hx hb (0) dL_refuses_630 ?_
  refine mk_iconst hx hb (0) dL_refuses_631 ?_
  refine mw_goIs (vx_runSW (As := [.ref (ad 0), .int (iI 18), .int (iI 5), .int (iI 0), .int (iI 0), .int (iI 0)]) (rest := []) ⟨hx, hb, hml, hown, hts⟩ (c_L_act_net_no1 l cg D ad st 5 0 0 0 (c_X5_net_no l cg D ad st hst 5 (by decide +kernel) (by decide +kernel))) (vx_cwSW 6 hts gL_refuses_L_act rfl rfl rfl (by decide +kernel) ⟨Nat.le_of_ble_eq_true rfl, Nat.le_of_ble_eq_true rfl⟩) (mw_preS hK hN hxK hxZ hxN hW) rfl rfl hl.1 rfl (lv_room (Nat.le_of_ble_eq_true rfl)) dL_refuses_632 ⟨Nat.le_of_ble_eq_true rfl, Nat.le_of_ble_eq_true rfl⟩) hW (fun z st1 hp H locs hW => ?_)
  obtain ⟨e1, e2⟩ := hp
  subst e1
  rw [e2] at hW
  refine mk_bipush hx hb (-91) (by decide +kernel) dL_refuses_635 ?_
  refine mk_icmp_ne (tgt := 644) hx hb dL_refuses_637 (by decide) (by decide) (by decide) (fun h => absurd h (by decide)) (fun _ => ?_)
  refine mk_iconst hx hb (1) dL_refuses_640 ?_
  refine lv_goto (tgt := 645) hx hb dL_refuses_641 (by decide) ?_
  refine lv_istore (lv' := [(12, .int (iI 1)), (13, .int (iI 18)), (11, .int (iI 1000001)), (10, .int (iI 1001)), (9, .int (iI 5)), (8, .int (iI 1825)), (7, .int (iI 3)), (6, .int (iI (-2147483648))), (5, .int (iI 1)), (4, .int (iI 2147483647)), (3, .int (iI (bH b 0 1824 / fla (bSD b 0) (bSF b 0) (bM b 0) 1824))), (2, .int (iI (yN b (xR st) (xD st) 0))), (1, .int (iI (b 0 0))), (0, .ref (ad 0))]) hx hb dL_refuses_645 hl (by decide) rfl (fun ls hl => ?_)
  refine mk_iinc (w := 19) (lv' := [(13, .int (iI 19)), (12, .int (iI 1)), (11, .int (iI 1000001)), (10, .int (iI 1001)), (9, .int (iI 5)), (8, .int (iI 1825)), (7, .int (iI 3)), (6, .int (iI (-2147483648))), (5, .int (iI 1)), (4, .int (iI 2147483647)), (3, .int (iI (bH b 0 1824 / fla (bSD b 0) (bSF b 0) (bM b 0) 1824))), (2, .int (iI (yN b (xR st) (xD st) 0))), (1, .int (iI (b 0 0))), (0, .ref (ad 0))]) hx hb dL_refuses_647 hl (k := 1) rfl (by omega) (by decide) rfl (fun ls hl => ?_)
  refine lv_goto (tgt := 612) hx hb dL_refuses_650 (by decide) ?_
  refine lv_iload hx hb dL_refuses_612 (lv_at hl 0 rfl) ?_
  refine mk_bipush hx hb (21) (by decide +kernel) dL_refuses_614 ?_
  refine mk_icmp_ge (tgt := 653) hx hb dL_refuses_616 (by decide) (by decide) (by decide) (fun h => absurd h (by decide)) (fun _ => ?_)
  refine lv_iload hx hb dL_refuses_619 (lv_at hl 1 rfl) ?_
  refine mk_if_eq (tgt := 644) hx hb dL_refuses_621 (by decide) (by decide) (fun h => absurd h (by decide)) (fun _ => ?_)
  refine lv_aload_n hx hb dL_refuses_624 rfl (lv_at hl 13 rfl) ?_
  refine lv_iload hx hb dL_refuses_625 (lv_at hl 0 rfl) ?_
  refine lv_iload hx hb dL_refuses_627 (lv_at hl 4 rfl) ?_
  refine mk_iconst hx hb (0) dL_refuses_629 ?_
  refine mk_iconst hx hb (0) dL_refuses_630 ?_
  refine mk_iconst hx hb (0) dL_refuses_631 ?_
  refine mw_goIs (vx_runSW (As := [.ref (ad 0), .int (iI 19), .int (iI 5), .int (iI 0), .int (iI 0), .int (iI 0)]) (rest := []) ⟨hx, hb, hml, hown, hts⟩ (c_L_act_carried_no1 l cg D ad st 5 0 0 0 (c_X5_carried_no l cg D ad st hst 5 (by decide +kernel) (by decide +kernel))) (vx_cwSW 6 hts gL_refuses_L_act rfl rfl rfl (by decide +kernel) ⟨Nat.le_of_ble_eq_true rfl, Nat.le_of_ble_eq_true rfl⟩) (mw_preS hK hN hxK hxZ hxN hW) rfl rfl hl.1 rfl (lv_room (Nat.le_of_ble_eq_true rfl)) dL_refuses_632 ⟨Nat.le_of_ble_eq_true rfl, Nat.le_of_ble_eq_true rfl⟩) hW (fun z st1 hp H locs hW => ?_)
  obtain ⟨e1, e2⟩ := hp
  subst e1
  rw [e2] at hW
  refine mk_bipush hx hb (-91) (by decide +kernel) dL_refuses_635 ?_
  refine mk_icmp_ne (tgt := 644) hx hb dL_refuses_637 (by decide) (by decide) (by decide) (fun h => absurd h (by decide)) (fun _ => ?_)
  refine mk_iconst hx hb (1) dL_refuses_640 ?_
  refine lv_goto (tgt := 645) hx hb dL_refuses_641 (by decide) ?_
  refine lv_istore (lv' := [(12, .int (iI 1)), (13, .int (iI 19)), (11, .int (iI 1000001)), (10, .int (iI 1001)), (9, .int (iI 5)), (8, .int (iI 1825)), (7, .int (iI 3)), (6, .int (iI (-2147483648))), (5, .int (iI 1)), (4, .int (iI 2147483647)), (3, .int (iI (bH b 0 1824 / fla (bSD b 0) (bSF b 0) (bM b 0) 1824))), (2, .int (iI (yN b (xR st) (xD st) 0))), (1, .int (iI (b 0 0))), (0, .ref (ad 0))]) hx hb dL_refuses_645 hl (by decide) rfl (fun ls hl => ?_)
  refine mk_iinc (w := 20) (lv' := [(13, .int (iI 20)), (12, .int (iI 1)), (11, .int (iI 1000001)), (10, .int (iI 1001)), (9, .int (iI 5)), (8, .int (iI 1825)), (7, .int (iI 3)), (6, .int (iI (-2147483648))), (5, .int (iI 1)), (4, .int (iI 2147483647)), (3, .int (iI (bH b 0 1824 / fla (bSD b 0) (bSF b 0) (bM b 0) 1824))), (2, .int (iI (yN b (xR st) (xD st) 0))), (1, .int (iI (b 0 0))), (0, .ref (ad 0))]) hx hb dL_refuses_647 hl (k := 1) rfl (by omega) (by decide) rfl (fun ls hl => ?_)
  refine lv_goto (tgt := 612) hx hb dL_refuses_650 (by decide) ?_
  refine lv_iload hx hb dL_refuses_612 (lv_at hl 0 rfl) ?_
  refine mk_bipush hx hb (21) (by decide +kernel) dL_refuses_614 ?_
  refine mk_icmp_ge (tgt := 653) hx hb dL_refuses_616 (by decide) (by decide) (by decide) (fun h => absurd h (by decide)) (fun _ => ?_)
  refine lv_iload hx hb dL_refuses_619 (lv_at hl 1 rfl) ?_
  refine mk_if_eq (tgt := 644) hx hb dL_refuses_621 (by decide) (by decide) (fun h => absurd h (by decide)) (fun _ => ?_)
  refine lv_aload_n hx hb dL_refuses_624 rfl (lv_at hl 13 rfl) ?_
  refine lv_iload hx hb dL_refuses_625 (lv_at hl 0 rfl) ?_
  refine lv_iload hx hb dL_refuses_627 (lv_at hl 4 rfl) ?_
  refine mk_iconst hx hb (0) dL_refuses_629 ?_
  refine mk_iconst hx hb (0) dL_refuses_630 ?_
  refine mk_iconst hx hb (0) dL_refuses_631 ?_
  refine mw_goIs (vx_runSW (As := [.ref (ad 0), .int (iI 20), .int (iI 5), .int (iI 0), .int (iI 0), .int (iI 0)]) (rest := []) ⟨hx, hb, hml, hown, hts⟩ (c_L_act_taxable_no1 l cg D ad st 5 0 0 0 (c_X5_taxable_no l cg D ad st hst 5 (by decide +kernel) (by decide +kernel))) (vx_cwSW 6 hts gL_refuses_L_act rfl rfl rfl (by decide +kernel) ⟨Nat.le_of_ble_eq_true rfl, Nat.le_of_ble_eq_true rfl⟩) (mw_preS hK hN hxK hxZ hxN hW) rfl rfl hl.1 rfl (lv_room (Nat.le_of_ble_eq_true rfl)) dL_refuses_632 ⟨Nat.le_of_ble_eq_true rfl, Nat.le_of_ble_eq_true rfl⟩) hW (fun z st1 hp H locs hW => ?_)
  obtain ⟨e1, e2⟩ := hp
  subst e1
  rw [e2] at hW
  refine mk_bipush hx hb (-91) (by decide +kernel) dL_refuses_635 ?_
  refine mk_icmp_ne (tgt := 644) hx hb dL_refuses_637 (by decide) (by decide) (by decide) (fun h => absurd h (by decide)) (fun _ => ?_)
  refine mk_iconst hx hb (1) dL_refuses_640 ?_
  refine lv_goto (tgt := 645) hx hb dL_refuses_641 (by decide) ?_
  refine lv_istore (lv' := [(12, .int (iI 1)), (13, .int (iI 20)), (11, .int (iI 1000001)), (10, .int (iI 1001)), (9, .int (iI 5)), (8, .int (iI 1825)), (7, .int (iI 3)), (6, .int (iI (-2147483648))), (5, .int (iI 1)), (4, .int (iI 2147483647)), (3, .int (iI (bH b 0 1824 / fla (bSD b 0) (bSF b 0) (bM b 0) 1824))), (2, .int (iI (yN b (xR st) (xD st) 0))), (1, .int (iI (b 0 0))), (0, .ref (ad 0))]) hx hb dL_refuses_645 hl (by decide) rfl (fun ls hl => ?_)
  refine mk_iinc (w := 21) (lv' := [(13, .int (iI 21)), (12, .int (iI 1)), (11, .int (iI 1000001)), (10, .int (iI 1001)), (9, .int (iI 5)), (8, .int (iI 1825)), (7, .int (iI 3)), (6, .int (iI (-2147483648))), (5, .int (iI 1)), (4, .int (iI 2147483647)), (3, .int (iI (bH b 0 1824 / fla (bSD b 0) (bSF b 0) (bM b 0) 1824))), (2, .int (iI (yN b (xR st) (xD st) 0))), (1, .int (iI (b 0 0))), (0, .ref (ad 0))]) hx hb dL_refuses_647 hl (k := 1) rfl (by omega) (by decide) rfl (fun ls hl => ?_)
  refine lv_goto (tgt := 612) hx hb dL_refuses_650 (by decide) ?_
  refine lv_iload hx hb dL_refuses_612 (lv_at hl 0 rfl) ?_
  refine mk_bipush hx hb (21) (by decide +kernel) dL_refuses_614 ?_
  refine mk_icmp_ge (tgt := 653) hx hb dL_refuses_616 (by decide) (by decide) (by decide) (fun _ => ?_) (fun h => absurd h (by decide))
  exact kk _ _ _ hl hW
set_option maxHeartbeats 4000000 in
set_option maxRecDepth 100000 in
theorem rs_1_i (F : LX p l s m args meth c cL_refuses 14 wsL_refuses cg D (wA 73 ad)) (hW : GW D vwCl 73 (celX cg) ad (wA 73 ad) s.heap st H locs) (hX : XI st b) (hl : lv_has ls 14 [(13, .int (iI 21)), (12, .int (iI 1)), (11, .int (iI 1000001)), (10, .int (iI 1001)), (9, .int (iI 5)), (8, .int (iI 1825)), (7, .int (iI 3)), (6, .int (iI (-2147483648))), (5, .int (iI 1)), (4, .int (iI 2147483647)), (3, .int (iI (bH b 0 1824 / fla (bSD b 0) (bSF b 0) (bM b 0) 1824))), (2, .int (iI (yN b (xR st) (xD st) 0))), (1, .int (iI (b 0 0))), (0, .ref (ad 0))])
    (kk : ∀ (ls : Array Slot) (H : Heap) (locs : List Loc), lv_has ls 14 [(5, .int (iI 2)), (13, .int (iI 21)), (12, .int (iI 1)), (11, .int (iI 1000001)), (10, .int (iI 1001)), (9, .int (iI 5)), (8, .int (iI 1825)), (7, .int (iI 3)), (6, .int (iI (-2147483648))), (4, .int (iI 2147483647)), (3, .int (iI (bH b 0 1824 / fla (bSD b 0) (bSF b 0) (bM b 0) 1824))), (2, .int (iI (yN b (xR st) (xD st) 0))), (1, .int (iI (b 0 0))), (0, .ref (ad 0))] → GW D vwCl 73 (celX cg) ad (wA 73 ad) s.heap st H locs → W p l e (headSpec wsL_refuses ({ frames := 10, cells := 164, slots := 984, locals := 210 })).room s m args below meth c H locs 82 492 Q (F0 m 27 ls [])) : W p l e (headSpec wsL_refuses ({ frames := 10, cells := 164, slots := 984, locals := 210 })).room s m args below meth c H locs 82 492 Q (F0 m 653 ls []) := by
  obtain ⟨hx, hb, hml, hown, hts, hlocks, hst, hK, hN, hxK, hxZ, hxN⟩ := id F
  have hn0 := hX.1.1
  have hn6 := hX.1.n60
  have hlen : (bAA b 0 (xR st 0) (xD st 0)).length ≤ 60 := (hX.2.2.1 0 (by decide)).len hX.1 (by decide)
  refine lv_iload hx hb dL_refuses_653 (lv_at hl 1 rfl) ?_
  refine mk_if_ne (tgt := 660) hx hb dL_refuses_655 (by decide) (by decide) (fun _ => ?_) (fun h => absurd h (by decide))
  refine mk_iinc (w := 2) (lv' := [(5, .int (iI 2)), (13, .int (iI 21)), (12, .int (iI 1)), (11, .int (iI 1000001)), (10, .int (iI 1001)), (9, .int (iI 5)), (8, .int (iI 1825)), (7, .int (iI 3)), (6, .int (iI (-2147483648))), (4, .int (iI 2147483647)), (3, .int (iI (bH b 0 1824 / fla (bSD b 0) (bSF b 0) (bM b 0) 1824))), (2, .int (iI (yN b (xR st) (xD st) 0))), (1, .int (iI (b 0 0))), (0, .ref (ad 0))]) hx hb dL_refuses_660 hl (k := 8) rfl (by omega) (by decide) rfl (fun ls hl => ?_)
  refine lv_goto (tgt := 27) hx hb dL_refuses_663 (by decide) ?_
  exact kk _ _ _ hl hW
end RFS
