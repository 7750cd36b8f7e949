-- refuses
section RFS
variable {p : Program} {l : Launch} {e : Env} {s : State} {m : MethodId} {args : Array Value} {below : List Frame} {meth : Method} {c : Code} {H : Heap} {locs : List Loc} {Q : State → Prop} {ls : Array Slot} {D : va_G} {cg : Nat → ClassId} {ad : Nat → Nat} {st b : Nat → Nat → Int}
set_option maxHeartbeats 4000000 in
set_option maxRecDepth 100000 in
theorem rs_head (F : LX p l s m args meth c cL_refuses 14 wsL_refuses cg D (wA 73 ad)) (hW : GW D vwCl 73 (celX cg) ad (wA 73 ad) s.heap st H locs) (hX : XI st b) (hl : lv_has ls 14 [(0, .ref (ad 0))])
    (kk : ∀ (ls : Array Slot) (H : Heap) (locs : List Loc), lv_has ls 14 [(5, .int (iI 0)), (4, .int (iI 2147483647)), (3, .int (iI (bH b 0 1824 / fla (bSD b 0) (bSF b 0) (bM b 0) 1824))), (2, .int (iI (yN b (xR st) (xD st) 0))), (1, .int (iI (b 0 0))), (0, .ref (ad 0))] → GW D vwCl 73 (celX cg) ad (wA 73 ad) s.heap st H locs → W p l e (headSpec wsL_refuses ({ frames := 10, cells := 164, slots := 984, locals := 210 })).room s m args below meth c H locs 0 0 Q (F0 m 27 ls [])) : W p l e (headSpec wsL_refuses ({ frames := 10, cells := 164, slots := 984, locals := 210 })).room s m args below meth c H locs 0 0 Q (F0 m 0 ls []) := by
  obtain ⟨hx, hb, hml, hown, hts, hlocks, hst, hK, hN, hxK, hxZ, hxN⟩ := id F
  have hn0 := hX.1.1
  have hn6 := hX.1.n60
  have hlen : (bAA b 0 (xR st 0) (xD st 0)).length ≤ 60 := (hX.2.2.1 0 (by decide)).len hX.1 (by decide)
  refine lv_aload_n hx hb dL_refuses_0 rfl (lv_at hl 0 rfl) ?_
  refine mk_goI (va_runV (As := []) (rest := []) ⟨hx, hb, hml, hown, hts⟩ (c_X5_trades l cg D ad st b hX) (cwV 0 hts gL_refuses_X5_trades rfl rfl rfl (by decide +kernel) ⟨Nat.le_of_ble_eq_true rfl, Nat.le_of_ble_eq_true rfl⟩) (mk_preV hK hN hW 0 (by decide) rfl rfl rfl) rfl rfl hl.1 rfl (lv_room (Nat.le_of_ble_eq_true rfl)) dL_refuses_1 ⟨Nat.le_of_ble_eq_true rfl, Nat.le_of_ble_eq_true rfl⟩) hW (fun z st1 hp H locs hW => ?_)
  obtain ⟨e1, e2⟩ := hp
  rw [e1] at hW
  subst e2
  refine lv_istore_n (lv' := [(1, .int (iI (b 0 0))), (0, .ref (ad 0))]) hx hb dL_refuses_4 rfl hl (by decide) rfl (fun ls hl => ?_)
  refine lv_aload_n hx hb dL_refuses_5 rfl (lv_at hl 1 rfl) ?_
  refine mk_iconst hx hb (0) dL_refuses_6 ?_
  refine mk_goI (va_runV (As := [.int (iI 0)]) (rest := []) ⟨hx, hb, hml, hown, hts⟩ (c_X5_net l cg D ad st b hX 0 (by decide)) (cwV 1 hts gL_refuses_X5_net rfl rfl rfl (by decide +kernel) ⟨Nat.le_of_ble_eq_true rfl, Nat.le_of_ble_eq_true rfl⟩) (mk_preV hK hN hW 0 (by decide) rfl rfl rfl) rfl rfl hl.1 rfl (lv_room (Nat.le_of_ble_eq_true rfl)) dL_refuses_7 ⟨Nat.le_of_ble_eq_true rfl, Nat.le_of_ble_eq_true rfl⟩) hW (fun z st1 hp H locs hW => ?_)
  obtain ⟨e1, e2⟩ := hp
  rw [e1] at hW
  subst e2
  refine lv_istore_n (lv' := [(2, .int (iI (yN b (xR st) (xD st) 0))), (1, .int (iI (b 0 0))), (0, .ref (ad 0))]) hx hb dL_refuses_10 rfl hl (by decide) rfl (fun ls hl => ?_)
  refine lv_aload_n hx hb dL_refuses_11 rfl (lv_at hl 2 rfl) ?_
  refine mk_iconst hx hb (0) dL_refuses_12 ?_
  refine mk_sipush hx hb (1824) (by decide +kernel) dL_refuses_13 ?_
  refine mk_goI (va_runV (As := [.int (iI 0), .int (iI 1824)]) (rest := []) ⟨hx, hb, hml, hown, hts⟩ (c_X5_holding_0 l cg D ad st b hX 1824 (by decide)) (cwV 2 hts gL_refuses_X5_holding rfl rfl rfl (by decide +kernel) ⟨Nat.le_of_ble_eq_true rfl, Nat.le_of_ble_eq_true rfl⟩) (mk_preV hK hN hW 0 (by decide) rfl rfl rfl) rfl rfl hl.1 rfl (lv_room (Nat.le_of_ble_eq_true rfl)) dL_refuses_16 ⟨Nat.le_of_ble_eq_true rfl, Nat.le_of_ble_eq_true rfl⟩) hW (fun z st1 hp H locs hW => ?_)
  obtain ⟨e1, e2⟩ := hp
  rw [e1] at hW
  subst e2
  refine lv_istore_n (lv' := [(3, .int (iI (bH b 0 1824 / fla (bSD b 0) (bSF b 0) (bM b 0) 1824))), (2, .int (iI (yN b (xR st) (xD st) 0))), (1, .int (iI (b 0 0))), (0, .ref (ad 0))]) hx hb dL_refuses_19 rfl hl (by decide) rfl (fun ls hl => ?_)
  refine mk_ldc hx hb (2147483647) hown (hts (.constant RL 90 (2147483647)) (by decide +kernel)) dL_refuses_20 ?_
  refine lv_istore (lv' := [(4, .int (iI 2147483647)), (3, .int (iI (bH b 0 1824 / fla (bSD b 0) (bSF b 0) (bM b 0) 1824))), (2, .int (iI (yN b (xR st) (xD st) 0))), (1, .int (iI (b 0 0))), (0, .ref (ad 0))]) hx hb dL_refuses_22 hl (by decide) rfl (fun ls hl => ?_)
  refine mk_iconst hx hb (0) dL_refuses_24 ?_
  refine lv_istore (lv' := [(5, .int (iI 0)), (4, .int (iI 2147483647)), (3, .int (iI (bH b 0 1824 / fla (bSD b 0) (bSF b 0) (bM b 0) 1824))), (2, .int (iI (yN b (xR st) (xD st) 0))), (1, .int (iI (b 0 0))), (0, .ref (ad 0))]) hx hb dL_refuses_25 hl (by decide) rfl (fun ls hl => ?_)
  exact kk _ _ _ hl hW
set_option maxHeartbeats 4000000 in
set_option maxRecDepth 100000 in
theorem rs_out (F : LX p l s m args meth c cL_refuses 14 wsL_refuses cg D (wA 73 ad)) (hW : GW D vwCl 73 (celX cg) ad (wA 73 ad) s.heap st H locs) (hX : XI st b) (hl : lv_has ls 14 [(5, .int (iI 4)), (13, .int (iI 21)), (12, .int (iI 1)), (11, .int (iI (-2147483648))), (10, .int (iI (-2147483648))), (9, .int (iI (-2147483648))), (8, .int (iI (-2147483648))), (7, .int (iI (-2147483648))), (6, .int (iI (-2147483648))), (4, .int (iI 2147483647)), (3, .int (iI (bH b 0 1824 / fla (bSD b 0) (bSF b 0) (bM b 0) 1824))), (2, .int (iI (yN b (xR st) (xD st) 0))), (1, .int (iI (b 0 0))), (0, .ref (ad 0))])
    (kk : ∀ (ls : Array Slot) (H : Heap) (locs : List Loc), lv_has ls 14 [(5, .int (iI 4)), (13, .int (iI 21)), (12, .int (iI 1)), (11, .int (iI (-2147483648))), (10, .int (iI (-2147483648))), (9, .int (iI (-2147483648))), (8, .int (iI (-2147483648))), (7, .int (iI (-2147483648))), (6, .int (iI (-2147483648))), (4, .int (iI 2147483647)), (3, .int (iI (bH b 0 1824 / fla (bSD b 0) (bSF b 0) (bM b 0) 1824))), (2, .int (iI (yN b (xR st) (xD st) 0))), (1, .int (iI (b 0 0))), (0, .ref (ad 0))] → GW D vwCl 73 (celX cg) ad (wA 73 ad) s.heap st H locs → W p l e (headSpec wsL_refuses ({ frames := 10, cells := 164, slots := 984, locals := 210 })).room s m args below meth c H locs 164 984 Q (F0 m 666 ls [])) : W p l e (headSpec wsL_refuses ({ frames := 10, cells := 164, slots := 984, locals := 210 })).room s m args below meth c H locs 164 984 Q (F0 m 27 ls []) := by
  obtain ⟨hx, hb, hml, hown, hts, hlocks, hst, hK, hN, hxK, hxZ, hxN⟩ := id F
  have hn0 := hX.1.1
  have hn6 := hX.1.n60
  have hlen : (bAA b 0 (xR st 0) (xD st 0)).length ≤ 60 := (hX.2.2.1 0 (by decide)).len hX.1 (by decide)
  refine lv_iload hx hb dL_refuses_27 (lv_at hl 0 rfl) ?_
  refine mk_iconst hx hb (4) dL_refuses_29 ?_
  refine mk_icmp_ge (tgt := 666) hx hb dL_refuses_30 (by decide) (by decide) (by decide) (fun _ => ?_) (fun h => absurd h (by decide))
  exact kk _ _ _ hl hW
end RFS
