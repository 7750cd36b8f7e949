set_option maxHeartbeats 4000000 in
set_option maxRecDepth 100000 in
theorem c_L_cancel_cancel_ok (l : Launch) (cg : Nat → ClassId) (D : va_G) (ad : Nat → Nat) (st : Nat → Nat → Int) (q_a : Int) (Pq : (Nat → Nat → Int) → Prop) (hM : MV l yX5_cancel wsX5_cancel ({ frames := 5, cells := 0, slots := 0, locals := 130 }) D vwCl (TY cg) 73 (celX cg) ad st [.ref (ad 0), .int (iI q_a)] Pq) : WI l yL_cancel wsL_cancel ({ frames := 9, cells := 1, slots := 6, locals := 180 }) D vwCl (TY cg) 73 (celX cg) ad st [.ref (ad 0), .int (iI q_a)] (fun z st1 => z = 0 ∧ Pq st1) := by
  refine mw_open (cc := cL_cancel) (maxL := 3) (ret := (some .int)) (hh := [(0, 6, 7, 13), (0, 6, 11, 15)]) (by decide) rfl (Nat.le_of_ble_eq_true rfl) ?_
  intro p e s m args below meth c hx hb hml hr hown hts hlocks hK hN hargs ls hl hW hxK hxZ hxN htab
  have hown : s.vm.findClass RL = some m.cls := hown
  refine W.widen (Nat.zero_le 1) (Nat.zero_le 6) ?_
  have hl : lv_has ls 3 [(0, .ref (ad 0)), (1, .int (iI q_a))] := hl
  refine lv_aload_n hx hb dL_cancel_0 rfl (lv_at hl 0 rfl) ?_
  refine lv_iload_n hx hb dL_cancel_1 rfl (lv_at hl 1 rfl) ?_
  refine mk_goV (va_runV (As := [.int (iI q_a)]) (rest := []) ⟨hx, hb, hml, hown, hts⟩ hM (cwV 1 hts gL_cancel_X5_cancel rfl rfl rfl (by decide +kernel) ⟨Nat.le_of_ble_eq_true rfl, Nat.le_of_ble_eq_true rfl⟩) (mk_preV hK hN hW 0 (by decide) rfl rfl rfl) rfl rfl hl.1 rfl (lv_room (Nat.le_of_ble_eq_true rfl)) dL_cancel_2 ⟨Nat.le_refl _, Nat.le_refl _⟩) hW (fun st1 hq H locs hW => ?_)
  refine mk_iconst hx hb (0) dL_cancel_5 ?_
  exact mw_retI hx hb hr hlocks hW ⟨rfl, hq⟩ dL_cancel_6

set_option maxHeartbeats 4000000 in
set_option maxRecDepth 100000 in
theorem c_L_cancel_cancel_no1 (l : Launch) (cg : Nat → ClassId) (D : va_G) (ad : Nat → Nat) (st : Nat → Nat → Int) (q_a : Int) (hT : TX l yX5_cancel wsX5_cancel ({ frames := 8, cells := 1, slots := 6, locals := 150 }) D vwCl (TY cg) 73 (celX cg) ad st [.ref (ad 0), .int (iI q_a)] xE1) : WI l yL_cancel wsL_cancel ({ frames := 9, cells := 1, slots := 6, locals := 180 }) D vwCl (TY cg) 73 (celX cg) ad st [.ref (ad 0), .int (iI q_a)] (fun z st1 => z = -91 ∧ st1 = st) := by
  refine mw_open (cc := cL_cancel) (maxL := 3) (ret := (some .int)) (hh := [(0, 6, 7, 13), (0, 6, 11, 15)]) (by decide) rfl (Nat.le_of_ble_eq_true rfl) ?_
  intro p e s m args below meth c hx hb hml hr hown hts hlocks hK hN hargs ls hl hW hxK hxZ hxN htab
  have hown : s.vm.findClass RL = some m.cls := hown
  have hl : lv_has ls 3 [(0, .ref (ad 0)), (1, .int (iI q_a))] := hl
  refine lv_aload_n hx hb dL_cancel_0 rfl (lv_at hl 0 rfl) ?_
  refine lv_iload_n hx hb dL_cancel_1 rfl (lv_at hl 1 rfl) ?_
  refine mx_go (vx_runV (As := [.int (iI q_a)]) (rest := []) ⟨hx, hb, hml, hown, hts⟩ hT (cwV 1 hts gL_cancel_X5_cancel rfl rfl rfl (by decide +kernel) ⟨Nat.le_of_ble_eq_true rfl, Nat.le_of_ble_eq_true rfl⟩) (mx_preV hK hN hxK hxZ hW 0 (by decide) rfl rfl rfl) rfl rfl hl.1 rfl (lv_room (Nat.le_of_ble_eq_true rfl)) dL_cancel_2 ⟨Nat.le_refl _, Nat.le_refl _⟩) hW (fun ce q9 H locs hW _ hce hcv hcl => ?_)
  refine mw_catch (hh := [(0, 6, 7, 13), (0, 6, 11, 15)]) (h9 := 7) hown htab [] ⟨0, 6, 7, 13⟩ [⟨0, 6, 11, 15⟩] rfl (fun z hz => by simp at hz) (by decide) (by decide) (hts (.classLink RL 13 xE1) (by decide +kernel)) (hxK.use _ (by decide +kernel)) hce hcv hcl rfl ?_
  refine lv_astore_n (lv' := [(2, .ref q9), (0, .ref (ad 0)), (1, .int (iI q_a))]) hx hb dL_cancel_7 rfl hl (by decide) rfl (fun ls hl => ?_)
  refine mk_bipush hx hb (-91) (by decide +kernel) dL_cancel_8 ?_
  exact mw_retI hx hb hr hlocks hW ⟨rfl, rfl⟩ dL_cancel_10

set_option maxHeartbeats 4000000 in
set_option maxRecDepth 100000 in
theorem c_L_cancel_cancel_no3 (l : Launch) (cg : Nat → ClassId) (D : va_G) (ad : Nat → Nat) (st : Nat → Nat → Int) (q_a : Int) (hT : TX l yX5_cancel wsX5_cancel ({ frames := 8, cells := 1, slots := 6, locals := 150 }) D vwCl (TY cg) 73 (celX cg) ad st [.ref (ad 0), .int (iI q_a)] xE3) : WI l yL_cancel wsL_cancel ({ frames := 9, cells := 1, slots := 6, locals := 180 }) D vwCl (TY cg) 73 (celX cg) ad st [.ref (ad 0), .int (iI q_a)] (fun z st1 => z = -93 ∧ st1 = st) := by
  refine mw_open (cc := cL_cancel) (maxL := 3) (ret := (some .int)) (hh := [(0, 6, 7, 13), (0, 6, 11, 15)]) (by decide) rfl (Nat.le_of_ble_eq_true rfl) ?_
  intro p e s m args below meth c hx hb hml hr hown hts hlocks hK hN hargs ls hl hW hxK hxZ hxN htab
  have hown : s.vm.findClass RL = some m.cls := hown
  have hl : lv_has ls 3 [(0, .ref (ad 0)), (1, .int (iI q_a))] := hl
  refine lv_aload_n hx hb dL_cancel_0 rfl (lv_at hl 0 rfl) ?_
  refine lv_iload_n hx hb dL_cancel_1 rfl (lv_at hl 1 rfl) ?_
  refine mx_go (vx_runV (As := [.int (iI q_a)]) (rest := []) ⟨hx, hb, hml, hown, hts⟩ hT (cwV 1 hts gL_cancel_X5_cancel rfl rfl rfl (by decide +kernel) ⟨Nat.le_of_ble_eq_true rfl, Nat.le_of_ble_eq_true rfl⟩) (mx_preV hK hN hxK hxZ hW 0 (by decide) rfl rfl rfl) rfl rfl hl.1 rfl (lv_room (Nat.le_of_ble_eq_true rfl)) dL_cancel_2 ⟨Nat.le_refl _, Nat.le_refl _⟩) hW (fun ce q9 H locs hW _ hce hcv hcl => ?_)
  refine mw_catch (hh := [(0, 6, 7, 13), (0, 6, 11, 15)]) (h9 := 11) hown htab [⟨0, 6, 7, 13⟩] ⟨0, 6, 11, 15⟩ [] rfl (fun z hz => by
      simp only [List.mem_cons, List.not_mem_nil, or_false] at hz
      rcases hz with rfl
      · exact Or.inr ⟨by decide, xE1, (hts (.classLink RL 13 xE1) (by decide +kernel)), hxN.2.1⟩) (by decide) (by decide) (hts (.classLink RL 15 xE3) (by decide +kernel)) (hxK.use _ (by decide +kernel)) hce hcv hcl rfl ?_
  refine lv_astore_n (lv' := [(2, .ref q9), (0, .ref (ad 0)), (1, .int (iI q_a))]) hx hb dL_cancel_11 rfl hl (by decide) rfl (fun ls hl => ?_)
  refine mk_bipush hx hb (-93) (by decide +kernel) dL_cancel_12 ?_
  exact mw_retI hx hb hr hlocks hW ⟨rfl, rfl⟩ dL_cancel_14

set_option maxHeartbeats 4000000 in
set_option maxRecDepth 100000 in
theorem c_L_act_buy_ok (l : Launch) (cg : Nat → ClassId) (D : va_G) (ad : Nat → Nat) (st : Nat → Nat → Int) (q_a q_b q_c q_d : Int) (Pq : Int → (Nat → Nat → Int) → Prop) (hM : MI l yX5_buy wsX5_buy ({ frames := 5, cells := 0, slots := 0, locals := 130 }) D vwCl (TY cg) 73 (celX cg) ad st [.ref (ad 0), .int (iI q_a), .int (iI q_b), .int (iI q_c), .int (iI q_d)] Pq) : WI l yL_act wsL_act ({ frames := 9, cells := 1, slots := 6, locals := 180 }) D vwCl (TY cg) 73 (celX cg) ad st [.ref (ad 0), .int (iI 0), .int (iI q_a), .int (iI q_b), .int (iI q_c), .int (iI q_d)] Pq := by
  refine mw_open (cc := cL_act) (maxL := 7) (ret := (some .int)) (hh := [(0, 302, 303, 13), (0, 302, 308, 84), (0, 302, 313, 15)]) (by decide) rfl (Nat.le_of_ble_eq_true rfl) ?_
  intro p e s m args below meth c hx hb hml hr hown hts hlocks hK hN hargs ls hl hW hxK hxZ hxN htab
  have hown : s.vm.findClass RL = some m.cls := hown
  refine W.widen (Nat.zero_le 1) (Nat.zero_le 6) ?_
  have hl : lv_has ls 7 [(0, .ref (ad 0)), (1, .int (iI 0)), (2, .int (iI q_a)), (3, .int (iI q_b)), (4, .int (iI q_c)), (5, .int (iI q_d))] := hl
  refine lv_iload_n hx hb dL_act_0 rfl (lv_at hl 1 rfl) ?_
  refine mk_if_ne (tgt := 17) hx hb dL_act_1 (by decide) (by decide) (fun h => absurd h (by decide)) (fun _ => ?_)
  refine lv_aload_n hx hb dL_act_4 rfl (lv_at hl 0 rfl) ?_
  refine lv_iload_n hx hb dL_act_5 rfl (lv_at hl 2 rfl) ?_
  refine lv_iload_n hx hb dL_act_6 rfl (lv_at hl 3 rfl) ?_
  refine lv_iload hx hb dL_act_7 (lv_at hl 4 rfl) ?_
  refine lv_iload hx hb dL_act_9 (lv_at hl 5 rfl) ?_
  refine mk_goI (va_runV (As := [.int (iI q_a), .int (iI q_b), .int (iI q_c), .int (iI q_d)]) (rest := []) ⟨hx, hb, hml, hown, hts⟩ hM (cwV 4 hts gL_act_X5_buy rfl rfl rfl (by decide +kernel) ⟨Nat.le_of_ble_eq_true rfl, Nat.le_of_ble_eq_true rfl⟩) (mk_preV hK hN hW 0 (by decide) rfl rfl rfl) rfl rfl hl.1 rfl (lv_room (Nat.le_of_ble_eq_true rfl)) dL_act_11 ⟨Nat.le_refl _, Nat.le_refl _⟩) hW (fun v st1 hq H locs hW => ?_)
  refine lv_goto (tgt := 302) hx hb dL_act_14 (by decide) ?_
  exact mw_retI hx hb hr hlocks hW hq dL_act_302

set_option maxHeartbeats 4000000 in
set_option maxRecDepth 100000 in
theorem c_L_act_buy_no1 (l : Launch) (cg : Nat → ClassId) (D : va_G) (ad : Nat → Nat) (st : Nat → Nat → Int) (q_a q_b q_c q_d : Int) (hT : TX l yX5_buy wsX5_buy ({ frames := 8, cells := 1, slots := 6, locals := 150 }) D vwCl (TY cg) 73 (celX cg) ad st [.ref (ad 0), .int (iI q_a), .int (iI q_b), .int (iI q_c), .int (iI q_d)] xE1) : WI l yL_act wsL_act ({ frames := 9, cells := 1, slots := 6, locals := 180 }) D vwCl (TY cg) 73 (celX cg) ad st [.ref (ad 0), .int (iI 0), .int (iI q_a), .int (iI q_b), .int (iI q_c), .int (iI q_d)] (fun z st1 => z = -91 ∧ st1 = st) := by
  refine mw_open (cc := cL_act) (maxL := 7) (ret := (some .int)) (hh := [(0, 302, 303, 13), (0, 302, 308, 84), (0, 302, 313, 15)]) (by decide) rfl (Nat.le_of_ble_eq_true rfl) ?_
  intro p e s m args below meth c hx hb hml hr hown hts hlocks hK hN hargs ls hl hW hxK hxZ hxN htab
  have hown : s.vm.findClass RL = some m.cls := hown
  have hl : lv_has ls 7 [(0, .ref (ad 0)), (1, .int (iI 0)), (2, .int (iI q_a)), (3, .int (iI q_b)), (4, .int (iI q_c)), (5, .int (iI q_d))] := hl
  refine lv_iload_n hx hb dL_act_0 rfl (lv_at hl 1 rfl) ?_
  refine mk_if_ne (tgt := 17) hx hb dL_act_1 (by decide) (by decide) (fun h => absurd h (by decide)) (fun _ => ?_)
  refine lv_aload_n hx hb dL_act_4 rfl (lv_at hl 0 rfl) ?_
  refine lv_iload_n hx hb dL_act_5 rfl (lv_at hl 2 rfl) ?_
  refine lv_iload_n hx hb dL_act_6 rfl (lv_at hl 3 rfl) ?_
  refine lv_iload hx hb dL_act_7 (lv_at hl 4 rfl) ?_
  refine lv_iload hx hb dL_act_9 (lv_at hl 5 rfl) ?_
  refine mx_go (vx_runV (As := [.int (iI q_a), .int (iI q_b), .int (iI q_c), .int (iI q_d)]) (rest := []) ⟨hx, hb, hml, hown, hts⟩ hT (cwV 4 hts gL_act_X5_buy rfl rfl rfl (by decide +kernel) ⟨Nat.le_of_ble_eq_true rfl, Nat.le_of_ble_eq_true rfl⟩) (mx_preV hK hN hxK hxZ hW 0 (by decide) rfl rfl rfl) rfl rfl hl.1 rfl (lv_room (Nat.le_of_ble_eq_true rfl)) dL_act_11 ⟨Nat.le_refl _, Nat.le_refl _⟩) hW (fun ce q9 H locs hW _ hce hcv hcl => ?_)
  refine mw_catch (hh := [(0, 302, 303, 13), (0, 302, 308, 84), (0, 302, 313, 15)]) (h9 := 303) hown htab [] ⟨0, 302, 303, 13⟩ [⟨0, 302, 308, 84⟩, ⟨0, 302, 313, 15⟩] rfl (fun z hz => by simp at hz) (by decide) (by decide) (hts (.classLink RL 13 xE1) (by decide +kernel)) (hxK.use _ (by decide +kernel)) hce hcv hcl rfl ?_
  refine lv_astore (lv' := [(6, .ref q9), (0, .ref (ad 0)), (1, .int (iI 0)), (2, .int (iI q_a)), (3, .int (iI q_b)), (4, .int (iI q_c)), (5, .int (iI q_d))]) hx hb dL_act_303 hl (by decide) rfl (fun ls hl => ?_)
  refine mk_bipush hx hb (-91) (by decide +kernel) dL_act_305 ?_
  exact mw_retI hx hb hr hlocks hW ⟨rfl, rfl⟩ dL_act_307

set_option maxHeartbeats 4000000 in
set_option maxRecDepth 100000 in
theorem c_L_act_buy_no2 (l : Launch) (cg : Nat → ClassId) (D : va_G) (ad : Nat → Nat) (st : Nat → Nat → Int) (q_a q_b q_c q_d : Int) (hT : TX l yX5_buy wsX5_buy ({ frames := 8, cells := 1, slots := 6, locals := 150 }) D vwCl (TY cg) 73 (celX cg) ad st [.ref (ad 0), .int (iI q_a), .int (iI q_b), .int (iI q_c), .int (iI q_d)] xE2) : WI l yL_act wsL_act ({ frames := 9, cells := 1, slots := 6, locals := 180 }) D vwCl (TY cg) 73 (celX cg) ad st [.ref (ad 0), .int (iI 0), .int (iI q_a), .int (iI q_b), .int (iI q_c), .int (iI q_d)] (fun z st1 => z = -92 ∧ st1 = st) := by
  refine mw_open (cc := cL_act) (maxL := 7) (ret := (some .int)) (hh := [(0, 302, 303, 13), (0, 302, 308, 84), (0, 302, 313, 15)]) (by decide) rfl (Nat.le_of_ble_eq_true rfl) ?_
  intro p e s m args below meth c hx hb hml hr hown hts hlocks hK hN hargs ls hl hW hxK hxZ hxN htab
  have hown : s.vm.findClass RL = some m.cls := hown
  have hl : lv_has ls 7 [(0, .ref (ad 0)), (1, .int (iI 0)), (2, .int (iI q_a)), (3, .int (iI q_b)), (4, .int (iI q_c)), (5, .int (iI q_d))] := hl
  refine lv_iload_n hx hb dL_act_0 rfl (lv_at hl 1 rfl) ?_
  refine mk_if_ne (tgt := 17) hx hb dL_act_1 (by decide) (by decide) (fun h => absurd h (by decide)) (fun _ => ?_)
  refine lv_aload_n hx hb dL_act_4 rfl (lv_at hl 0 rfl) ?_
  refine lv_iload_n hx hb dL_act_5 rfl (lv_at hl 2 rfl) ?_
  refine lv_iload_n hx hb dL_act_6 rfl (lv_at hl 3 rfl) ?_
  refine lv_iload hx hb dL_act_7 (lv_at hl 4 rfl) ?_
  refine lv_iload hx hb dL_act_9 (lv_at hl 5 rfl) ?_
  refine mx_go (vx_runV (As := [.int (iI q_a), .int (iI q_b), .int (iI q_c), .int (iI q_d)]) (rest := []) ⟨hx, hb, hml, hown, hts⟩ hT (cwV 4 hts gL_act_X5_buy rfl rfl rfl (by decide +kernel) ⟨Nat.le_of_ble_eq_true rfl, Nat.le_of_ble_eq_true rfl⟩) (mx_preV hK hN hxK hxZ hW 0 (by decide) rfl rfl rfl) rfl rfl hl.1 rfl (lv_room (Nat.le_of_ble_eq_true rfl)) dL_act_11 ⟨Nat.le_refl _, Nat.le_refl _⟩) hW (fun ce q9 H locs hW _ hce hcv hcl => ?_)
  refine mw_catch (hh := [(0, 302, 303, 13), (0, 302, 308, 84), (0, 302, 313, 15)]) (h9 := 308) hown htab [⟨0, 302, 303, 13⟩] ⟨0, 302, 308, 84⟩ [⟨0, 302, 313, 15⟩] rfl (fun z hz => by
      simp only [List.mem_cons, List.not_mem_nil, or_false] at hz
      rcases hz with rfl
      · exact Or.inr ⟨by decide, xE1, (hts (.classLink RL 13 xE1) (by decide +kernel)), hxN.1⟩) (by decide) (by decide) (hts (.classLink RL 84 xE2) (by decide +kernel)) (hxK.use _ (by decide +kernel)) hce hcv hcl rfl ?_
  refine lv_astore (lv' := [(6, .ref q9), (0, .ref (ad 0)), (1, .int (iI 0)), (2, .int (iI q_a)), (3, .int (iI q_b)), (4, .int (iI q_c)), (5, .int (iI q_d))]) hx hb dL_act_308 hl (by decide) rfl (fun ls hl => ?_)
  refine mk_bipush hx hb (-92) (by decide +kernel) dL_act_310 ?_
  exact mw_retI hx hb hr hlocks hW ⟨rfl, rfl⟩ dL_act_312

set_option maxHeartbeats 4000000 in
set_option maxRecDepth 100000 in
theorem c_L_act_buy_no3 (l : Launch) (cg : Nat → ClassId) (D : va_G) (ad : Nat → Nat) (st : Nat → Nat → Int) (q_a q_b q_c q_d : Int) (hT : TX l yX5_buy wsX5_buy ({ frames := 8, cells := 1, slots := 6, locals := 150 }) D vwCl (TY cg) 73 (celX cg) ad st [.ref (ad 0), .int (iI q_a), .int (iI q_b), .int (iI q_c), .int (iI q_d)] xE3) : WI l yL_act wsL_act ({ frames := 9, cells := 1, slots := 6, locals := 180 }) D vwCl (TY cg) 73 (celX cg) ad st [.ref (ad 0), .int (iI 0), .int (iI q_a), .int (iI q_b), .int (iI q_c), .int (iI q_d)] (fun z st1 => z = -93 ∧ st1 = st) := by
  refine mw_open (cc := cL_act) (maxL := 7) (ret := (some .int)) (hh := [(0, 302, 303, 13), (0, 302, 308, 84), (0, 302, 313, 15)]) (by decide) rfl (Nat.le_of_ble_eq_true rfl) ?_
  intro p e s m args below meth c hx hb hml hr hown hts hlocks hK hN hargs ls hl hW hxK hxZ hxN htab
  have hown : s.vm.findClass RL = some m.cls := hown
  have hl : lv_has ls 7 [(0, .ref (ad 0)), (1, .int (iI 0)), (2, .int (iI q_a)), (3, .int (iI q_b)), (4, .int (iI q_c)), (5, .int (iI q_d))] := hl
  refine lv_iload_n hx hb dL_act_0 rfl (lv_at hl 1 rfl) ?_
  refine mk_if_ne (tgt := 17) hx hb dL_act_1 (by decide) (by decide) (fun h => absurd h (by decide)) (fun _ => ?_)
  refine lv_aload_n hx hb dL_act_4 rfl (lv_at hl 0 rfl) ?_
  refine lv_iload_n hx hb dL_act_5 rfl (lv_at hl 2 rfl) ?_
  refine lv_iload_n hx hb dL_act_6 rfl (lv_at hl 3 rfl) ?_
  refine lv_iload hx hb dL_act_7 (lv_at hl 4 rfl) ?_
  refine lv_iload hx hb dL_act_9 (lv_at hl 5 rfl) ?_
  refine mx_go (vx_runV (As := [.int (iI q_a), .int (iI q_b), .int (iI q_c), .int (iI q_d)]) (rest := []) ⟨hx, hb, hml, hown, hts⟩ hT (cwV 4 hts gL_act_X5_buy rfl rfl rfl (by decide +kernel) ⟨Nat.le_of_ble_eq_true rfl, Nat.le_of_ble_eq_true rfl⟩) (mx_preV hK hN hxK hxZ hW 0 (by decide) rfl rfl rfl) rfl rfl hl.1 rfl (lv_room (Nat.le_of_ble_eq_true rfl)) dL_act_11 ⟨Nat.le_refl _, Nat.le_refl _⟩) hW (fun ce q9 H locs hW _ hce hcv hcl => ?_)
  refine mw_catch (hh := [(0, 302, 303, 13), (0, 302, 308, 84), (0, 302, 313, 15)]) (h9 := 313) hown htab [⟨0, 302, 303, 13⟩, ⟨0, 302, 308, 84⟩] ⟨0, 302, 313, 15⟩ [] rfl (fun z hz => by
      simp only [List.mem_cons, List.not_mem_nil, or_false] at hz
      rcases hz with rfl | rfl
      · exact Or.inr ⟨by decide, xE1, (hts (.classLink RL 13 xE1) (by decide +kernel)), hxN.2.1⟩
      · exact Or.inr ⟨by decide, xE2, (hts (.classLink RL 84 xE2) (by decide +kernel)), hxN.2.2⟩) (by decide) (by decide) (hts (.classLink RL 15 xE3) (by decide +kernel)) (hxK.use _ (by decide +kernel)) hce hcv hcl rfl ?_
  refine lv_astore (lv' := [(6, .ref q9), (0, .ref (ad 0)), (1, .int (iI 0)), (2, .int (iI q_a)), (3, .int (iI q_b)), (4, .int (iI q_c)), (5, .int (iI q_d))]) hx hb dL_act_313 hl (by decide) rfl (fun ls hl => ?_)
  refine mk_bipush hx hb (-93) (by decide +kernel) dL_act_315 ?_
  exact mw_retI hx hb hr hlocks hW ⟨rfl, rfl⟩ dL_act_317

set_option maxHeartbeats 4000000 in
set_option maxRecDepth 100000 in
theorem c_L_act_sell_ok (l : Launch) (cg : Nat → ClassId) (D : va_G) (ad : Nat → Nat) (st : Nat → Nat → Int) (q_a q_b q_c q_d : Int) (Pq : Int → (Nat → Nat → Int) → Prop) (hM : MI l yX5_sell wsX5_sell ({ frames := 5, cells := 0, slots := 0, locals := 130 }) D vwCl (TY cg) 73 (celX cg) ad st [.ref (ad 0), .int (iI q_a), .int (iI q_b), .int (iI q_c), .int (iI q_d)] Pq) : WI l yL_act wsL_act ({ frames := 9, cells := 1, slots := 6, locals := 180 }) D vwCl (TY cg) 73 (celX cg) ad st [.ref (ad 0), .int (iI 1), .int (iI q_a), .int (iI q_b), .int (iI q_c), .int (iI q_d)] Pq := by
  refine mw_open (cc := cL_act) (maxL := 7) (ret := (some .int)) (hh := [(0, 302, 303, 13), (0, 302, 308, 84), (0, 302, 313, 15)]) (by decide) rfl (Nat.le_of_ble_eq_true rfl) ?_
  intro p e s m args below meth c hx hb hml hr hown hts hlocks hK hN hargs ls hl hW hxK hxZ hxN htab
  have hown : s.vm.findClass RL = some m.cls := hown
  refine W.widen (Nat.zero_le 1) (Nat.zero_le 6) ?_
  have hl : lv_has ls 7 [(0, .ref (ad 0)), (1, .int (iI 1)), (2, .int (iI q_a)), (3, .int (iI q_b)), (4, .int (iI q_c)), (5, .int (iI q_d))] := hl
  refine lv_iload_n hx hb dL_act_0 rfl (lv_at hl 1 rfl) ?_
  refine mk_if_ne (tgt := 17) hx hb dL_act_1 (by decide) (by decide) (fun _ => ?_) (fun h => absurd h (by decide))
  refine lv_iload_n hx hb dL_act_17 rfl (lv_at hl 1 rfl) ?_
  refine mk_iconst hx hb (1) dL_act_18 ?_
  refine mk_icmp_ne (tgt := 35) hx hb dL_act_19 (by decide) (by decide) (by decide) (fun h => absurd h (by decide)) (fun _ => ?_)
  refine lv_aload_n hx hb dL_act_22 rfl (lv_at hl 0 rfl) ?_
  refine lv_iload_n hx hb dL_act_23 rfl (lv_at hl 2 rfl) ?_
  refine lv_iload_n hx hb dL_act_24 rfl (lv_at hl 3 rfl) ?_
  refine lv_iload hx hb dL_act_25 (lv_at hl 4 rfl) ?_
  refine lv_iload hx hb dL_act_27 (lv_at hl 5 rfl) ?_
  refine mk_goI (va_runV (As := [.int (iI q_a), .int (iI q_b), .int (iI q_c), .int (iI q_d)]) (rest := []) ⟨hx, hb, hml, hown, hts⟩ hM (cwV 4 hts gL_act_X5_sell rfl rfl rfl (by decide +kernel) ⟨Nat.le_of_ble_eq_true rfl, Nat.le_of_ble_eq_true rfl⟩) (mk_preV hK hN hW 0 (by decide) rfl rfl rfl) rfl rfl hl.1 rfl (lv_room (Nat.le_of_ble_eq_true rfl)) dL_act_29 ⟨Nat.le_refl _, Nat.le_refl _⟩) hW (fun v st1 hq H locs hW => ?_)
  refine lv_goto (tgt := 302) hx hb dL_act_32 (by decide) ?_
  exact mw_retI hx hb hr hlocks hW hq dL_act_302

set_option maxHeartbeats 4000000 in
set_option maxRecDepth 100000 in
theorem c_L_act_sell_no1 (l : Launch) (cg : Nat → ClassId) (D : va_G) (ad : Nat → Nat) (st : Nat → Nat → Int) (q_a q_b q_c q_d : Int) (hT : TX l yX5_sell wsX5_sell ({ frames := 8, cells := 1, slots := 6, locals := 150 }) D vwCl (TY cg) 73 (celX cg) ad st [.ref (ad 0), .int (iI q_a), .int (iI q_b), .int (iI q_c), .int (iI q_d)] xE1) : WI l yL_act wsL_act ({ frames := 9, cells := 1, slots := 6, locals := 180 }) D vwCl (TY cg) 73 (celX cg) ad st [.ref (ad 0), .int (iI 1), .int (iI q_a), .int (iI q_b), .int (iI q_c), .int (iI q_d)] (fun z st1 => z = -91 ∧ st1 = st) := by
  refine mw_open (cc := cL_act) (maxL := 7) (ret := (some .int)) (hh := [(0, 302, 303, 13), (0, 302, 308, 84), (0, 302, 313, 15)]) (by decide) rfl (Nat.le_of_ble_eq_true rfl) ?_
  intro p e s m args below meth c hx hb hml hr hown hts hlocks hK hN hargs ls hl hW hxK hxZ hxN htab
  have hown : s.vm.findClass RL = some m.cls := hown
  have hl : lv_has ls 7 [(0, .ref (ad 0)), (1, .int (iI 1)), (2, .int (iI q_a)), (3, .int (iI q_b)), (4, .int (iI q_c)), (5, .int (iI q_d))] := hl
  refine lv_iload_n hx hb dL_act_0 rfl (lv_at hl 1 rfl) ?_
  refine mk_if_ne (tgt := 17) hx hb dL_act_1 (by decide) (by decide) (fun _ => ?_) (fun h => absurd h (by decide))
  refine lv_iload_n hx hb dL_act_17 rfl (lv_at hl 1 rfl) ?_
  refine mk_iconst hx hb (1) dL_act_18 ?_
  refine mk_icmp_ne (tgt := 35) hx hb dL_act_19 (by decide) (by decide) (by decide) (fun h => absurd h (by decide)) (fun _ => ?_)
  refine lv_aload_n hx hb dL_act_22 rfl (lv_at hl 0 rfl) ?_
  refine lv_iload_n hx hb dL_act_23 rfl (lv_at hl 2 rfl) ?_
  refine lv_iload_n hx hb dL_act_24 rfl (lv_at hl 3 rfl) ?_
  refine lv_iload hx hb dL_act_25 (lv_at hl 4 rfl) ?_
  refine lv_iload hx hb dL_act_27 (lv_at hl 5 rfl) ?_
  refine mx_go (vx_runV (As := [.int (iI q_a), .int (iI q_b), .int (iI q_c), .int (iI q_d)]) (rest := []) ⟨hx, hb, hml, hown, hts⟩ hT (cwV 4 hts gL_act_X5_sell rfl rfl rfl (by decide +kernel) ⟨Nat.le_of_ble_eq_true rfl, Nat.le_of_ble_eq_true rfl⟩) (mx_preV hK hN hxK hxZ hW 0 (by decide) rfl rfl rfl) rfl rfl hl.1 rfl (lv_room (Nat.le_of_ble_eq_true rfl)) dL_act_29 ⟨Nat.le_refl _, Nat.le_refl _⟩) hW (fun ce q9 H locs hW _ hce hcv hcl => ?_)
  refine mw_catch (hh := [(0, 302, 303, 13), (0, 302, 308, 84), (0, 302, 313, 15)]) (h9 := 303) hown htab [] ⟨0, 302, 303, 13⟩ [⟨0, 302, 308, 84⟩, ⟨0, 302, 313, 15⟩] rfl (fun z hz => by simp at hz) (by decide) (by decide) (hts (.classLink RL 13 xE1) (by decide +kernel)) (hxK.use _ (by decide +kernel)) hce hcv hcl rfl ?_
  refine lv_astore (lv' := [(6, .ref q9), (0, .ref (ad 0)), (1, .int (iI 1)), (2, .int (iI q_a)), (3, .int (iI q_b)), (4, .int (iI q_c)), (5, .int (iI q_d))]) hx hb dL_act_303 hl (by decide) rfl (fun ls hl => ?_)
  refine mk_bipush hx hb (-91) (by decide +kernel) dL_act_305 ?_
  exact mw_retI hx hb hr hlocks hW ⟨rfl, rfl⟩ dL_act_307

set_option maxHeartbeats 4000000 in
set_option maxRecDepth 100000 in
theorem c_L_act_sell_no2 (l : Launch) (cg : Nat → ClassId) (D : va_G) (ad : Nat → Nat) (st : Nat → Nat → Int) (q_a q_b q_c q_d : Int) (hT : TX l yX5_sell wsX5_sell ({ frames := 8, cells := 1, slots := 6, locals := 150 }) D vwCl (TY cg) 73 (celX cg) ad st [.ref (ad 0), .int (iI q_a), .int (iI q_b), .int (iI q_c), .int (iI q_d)] xE2) : WI l yL_act wsL_act ({ frames := 9, cells := 1, slots := 6, locals := 180 }) D vwCl (TY cg) 73 (celX cg) ad st [.ref (ad 0), .int (iI 1), .int (iI q_a), .int (iI q_b), .int (iI q_c), .int (iI q_d)] (fun z st1 => z = -92 ∧ st1 = st) := by
  refine mw_open (cc := cL_act) (maxL := 7) (ret := (some .int)) (hh := [(0, 302, 303, 13), (0, 302, 308, 84), (0, 302, 313, 15)]) (by decide) rfl (Nat.le_of_ble_eq_true rfl) ?_
  intro p e s m args below meth c hx hb hml hr hown hts hlocks hK hN hargs ls hl hW hxK hxZ hxN htab
  have hown : s.vm.findClass RL = some m.cls := hown
  have hl : lv_has ls 7 [(0, .ref (ad 0)), (1, .int (iI 1)), (2, .int (iI q_a)), (3, .int (iI q_b)), (4, .int (iI q_c)), (5, .int (iI q_d))] := hl
  refine lv_iload_n hx hb dL_act_0 rfl (lv_at hl 1 rfl) ?_
  refine mk_if_ne (tgt := 17) hx hb dL_act_1 (by decide) (by decide) (fun _ => ?_) (fun h => absurd h (by decide))
  refine lv_iload_n hx hb dL_act_17 rfl (lv_at hl 1 rfl) ?_
  refine mk_iconst hx hb (1) dL_act_18 ?_
  refine mk_icmp_ne (tgt := 35) hx hb dL_act_19 (by decide) (by decide) (by decide) (fun h => absurd h (by decide)) (fun _ => ?_)
  refine lv_aload_n hx hb dL_act_22 rfl (lv_at hl 0 rfl) ?_
  refine lv_iload_n hx hb dL_act_23 rfl (lv_at hl 2 rfl) ?_
  refine lv_iload_n hx hb dL_act_24 rfl (lv_at hl 3 rfl) ?_
  refine lv_iload hx hb dL_act_25 (lv_at hl 4 rfl) ?_
  refine lv_iload hx hb dL_act_27 (lv_at hl 5 rfl) ?_
  refine mx_go (vx_runV (As := [.int (iI q_a), .int (iI q_b), .int (iI q_c), .int (iI q_d)]) (rest := []) ⟨hx, hb, hml, hown, hts⟩ hT (cwV 4 hts gL_act_X5_sell rfl rfl rfl (by decide +kernel) ⟨Nat.le_of_ble_eq_true rfl, Nat.le_of_ble_eq_true rfl⟩) (mx_preV hK hN hxK hxZ hW 0 (by decide) rfl rfl rfl) rfl rfl hl.1 rfl (lv_room (Nat.le_of_ble_eq_true rfl)) dL_act_29 ⟨Nat.le_refl _, Nat.le_refl _⟩) hW (fun ce q9 H locs hW _ hce hcv hcl => ?_)
  refine mw_catch (hh := [(0, 302, 303, 13), (0, 302, 308, 84), (0, 302, 313, 15)]) (h9 := 308) hown htab [⟨0, 302, 303, 13⟩] ⟨0, 302, 308, 84⟩ [⟨0, 302, 313, 15⟩] rfl (fun z hz => by
      simp only [List.mem_cons, List.not_mem_nil, or_false] at hz
      rcases hz with rfl
      · exact Or.inr ⟨by decide, xE1, (hts (.classLink RL 13 xE1) (by decide +kernel)), hxN.1⟩) (by decide) (by decide) (hts (.classLink RL 84 xE2) (by decide +kernel)) (hxK.use _ (by decide +kernel)) hce hcv hcl rfl ?_
  refine lv_astore (lv' := [(6, .ref q9), (0, .ref (ad 0)), (1, .int (iI 1)), (2, .int (iI q_a)), (3, .int (iI q_b)), (4, .int (iI q_c)), (5, .int (iI q_d))]) hx hb dL_act_308 hl (by decide) rfl (fun ls hl => ?_)
  refine mk_bipush hx hb (-92) (by decide +kernel) dL_act_310 ?_
  exact mw_retI hx hb hr hlocks hW ⟨rfl, rfl⟩ dL_act_312

set_option maxHeartbeats 4000000 in
set_option maxRecDepth 100000 in
theorem c_L_act_sell_no3 (l : Launch) (cg : Nat → ClassId) (D : va_G) (ad : Nat → Nat) (st : Nat → Nat → Int) (q_a q_b q_c q_d : Int) (hT : TX l yX5_sell wsX5_sell ({ frames := 8, cells := 1, slots := 6, locals := 150 }) D vwCl (TY cg) 73 (celX cg) ad st [.ref (ad 0), .int (iI q_a), .int (iI q_b), .int (iI q_c), .int (iI q_d)] xE3) : WI l yL_act wsL_act ({ frames := 9, cells := 1, slots := 6, locals := 180 }) D vwCl (TY cg) 73 (celX cg) ad st [.ref (ad 0), .int (iI 1), .int (iI q_a), .int (iI q_b), .int (iI q_c), .int (iI q_d)] (fun z st1 => z = -93 ∧ st1 = st) := by
  refine mw_open (cc := cL_act) (maxL := 7) (ret := (some .int)) (hh := [(0, 302, 303, 13), (0, 302, 308, 84), (0, 302, 313, 15)]) (by decide) rfl (Nat.le_of_ble_eq_true rfl) ?_
  intro p e s m args below meth c hx hb hml hr hown hts hlocks hK hN hargs ls hl hW hxK hxZ hxN htab
  have hown : s.vm.findClass RL = some m.cls := hown
  have hl : lv_has ls 7 [(0, .ref (ad 0)), (1, .int (iI 1)), (2, .int (iI q_a)), (3, .int (iI q_b)), (4, .int (iI q_c)), (5, .int (iI q_d))] := hl
  refine lv_iload_n hx hb dL_act_0 rfl (lv_at hl 1 rfl) ?_
  refine mk_if_ne (tgt := 17) hx hb dL_act_1 (by decide) (by decide) (fun _ => ?_) (fun h => absurd h (by decide))
  refine lv_iload_n hx hb dL_act_17 rfl (lv_at hl 1 rfl) ?_
  refine mk_iconst hx hb (1) dL_act_18 ?_
  refine mk_icmp_ne (tgt := 35) hx hb dL_act_19 (by decide) (by decide) (by decide) (fun h => absurd h (by decide)) (fun _ => ?_)
  refine lv_aload_n hx hb dL_act_22 rfl (lv_at hl 0 rfl) ?_
  refine lv_iload_n hx hb dL_act_23 rfl (lv_at hl 2 rfl) ?_
  refine lv_iload_n hx hb dL_act_24 rfl (lv_at hl 3 rfl) ?_
  refine lv_iload hx hb dL_act_25 (lv_at hl 4 rfl) ?_
  refine lv_iload hx hb dL_act_27 (lv_at hl 5 rfl) ?_
  refine mx_go (vx_runV (As := [.int (iI q_a), .int (iI q_b), .int (iI q_c), .int (iI q_d)]) (rest := []) ⟨hx, hb, hml, hown, hts⟩ hT (cwV 4 hts gL_act_X5_sell rfl rfl rfl (by decide +kernel) ⟨Nat.le_of_ble_eq_true rfl, Nat.le_of_ble_eq_true rfl⟩) (mx_preV hK hN hxK hxZ hW 0 (by decide) rfl rfl rfl) rfl rfl hl.1 rfl (lv_room (Nat.le_of_ble_eq_true rfl)) dL_act_29 ⟨Nat.le_refl _, Nat.le_refl _⟩) hW (fun ce q9 H locs hW _ hce hcv hcl => ?_)
  refine mw_catch (hh := [(0, 302, 303, 13), (0, 302, 308, 84), (0, 302, 313, 15)]) (h9 := 313) hown htab [⟨0, 302, 303, 13⟩, ⟨0, 302, 308, 84⟩] ⟨0, 302, 313, 15⟩ [] rfl (fun z hz => by
      simp only [List.mem_cons, List.not_mem_nil, or_false] at hz
      rcases hz with rfl | rfl
      · exact Or.inr ⟨by decide, xE1, (hts (.classLink RL 13 xE1) (by decide +kernel)), hxN.2.1⟩
      · exact Or.inr ⟨by decide, xE2, (hts (.classLink RL 84 xE2) (by decide +kernel)), hxN.2.2⟩) (by decide) (by decide) (hts (.classLink RL 15 xE3) (by decide +kernel)) (hxK.use _ (by decide +kernel)) hce hcv hcl rfl ?_
  refine lv_astore (lv' := [(6, .ref q9), (0, .ref (ad 0)), (1, .int (iI 1)), (2, .int (iI q_a)), (3, .int (iI q_b)), (4, .int (iI q_c)), (5, .int (iI q_d))]) hx hb dL_act_313 hl (by decide) rfl (fun ls hl => ?_)
  refine mk_bipush hx hb (-93) (by decide +kernel) dL_act_315 ?_
  exact mw_retI hx hb hr hlocks hW ⟨rfl, rfl⟩ dL_act_317

set_option maxHeartbeats 4000000 in
set_option maxRecDepth 100000 in
theorem c_L_act_split_no1 (l : Launch) (cg : Nat → ClassId) (D : va_G) (ad : Nat → Nat) (st : Nat → Nat → Int) (q_a q_b q_c q_d : Int) (hT : TX l yX5_split wsX5_split ({ frames := 8, cells := 1, slots := 6, locals := 150 }) D vwCl (TY cg) 73 (celX cg) ad st [.ref (ad 0), .int (iI q_a), .int (iI q_b), .int (iI q_c)] xE1) : WI l yL_act wsL_act ({ frames := 9, cells := 1, slots := 6, locals := 180 }) D vwCl (TY cg) 73 (celX cg) ad st [.ref (ad 0), .int (iI 2), .int (iI q_a), .int (iI q_b), .int (iI q_c), .int (iI q_d)] (fun z st1 => z = -91 ∧ st1 = st) := by
  refine mw_open (cc := cL_act) (maxL := 7) (ret := (some .int)) (hh := [(0, 302, 303, 13), (0, 302, 308, 84), (0, 302, 313, 15)]) (by decide) rfl (Nat.le_of_ble_eq_true rfl) ?_
  intro p e s m args below meth c hx hb hml hr hown hts hlocks hK hN hargs ls hl hW hxK hxZ hxN htab
  have hown : s.vm.findClass RL = some m.cls := hown
  have hl : lv_has ls 7 [(0, .ref (ad 0)), (1, .int (iI 2)), (2, .int (iI q_a)), (3, .int (iI q_b)), (4, .int (iI q_c)), (5, .int (iI q_d))] := hl
  refine lv_iload_n hx hb dL_act_0 rfl (lv_at hl 1 rfl) ?_
  refine mk_if_ne (tgt := 17) hx hb dL_act_1 (by decide) (by decide) (fun _ => ?_) (fun h => absurd h (by decide))
  refine lv_iload_n hx hb dL_act_17 rfl (lv_at hl 1 rfl) ?_
  refine mk_iconst hx hb (1) dL_act_18 ?_
  refine mk_icmp_ne (tgt := 35) hx hb dL_act_19 (by decide) (by decide) (by decide) (fun _ => ?_) (fun h => absurd h (by decide))
  refine lv_iload_n hx hb dL_act_35 rfl (lv_at hl 1 rfl) ?_
  refine mk_iconst hx hb (2) dL_act_36 ?_
  refine mk_icmp_ne (tgt := 51) hx hb dL_act_37 (by decide) (by decide) (by decide) (fun h => absurd h (by decide)) (fun _ => ?_)
  refine lv_aload_n hx hb dL_act_40 rfl (lv_at hl 0 rfl) ?_
  refine lv_iload_n hx hb dL_act_41 rfl (lv_at hl 2 rfl) ?_
  refine lv_iload_n hx hb dL_act_42 rfl (lv_at hl 3 rfl) ?_
  refine lv_iload hx hb dL_act_43 (lv_at hl 4 rfl) ?_
  refine mx_go (vx_runV (As := [.int (iI q_a), .int (iI q_b), .int (iI q_c)]) (rest := []) ⟨hx, hb, hml, hown, hts⟩ hT (cwV 3 hts gL_act_X5_split rfl rfl rfl (by decide +kernel) ⟨Nat.le_of_ble_eq_true rfl, Nat.le_of_ble_eq_true rfl⟩) (mx_preV hK hN hxK hxZ hW 0 (by decide) rfl rfl rfl) rfl rfl hl.1 rfl (lv_room (Nat.le_of_ble_eq_true rfl)) dL_act_45 ⟨Nat.le_refl _, Nat.le_refl _⟩) hW (fun ce q9 H locs hW _ hce hcv hcl => ?_)
  refine mw_catch (hh := [(0, 302, 303, 13), (0, 302, 308, 84), (0, 302, 313, 15)]) (h9 := 303) hown htab [] ⟨0, 302, 303, 13⟩ [⟨0, 302, 308, 84⟩, ⟨0, 302, 313, 15⟩] rfl (fun z hz => by simp at hz) (by decide) (by decide) (hts (.classLink RL 13 xE1) (by decide +kernel)) (hxK.use _ (by decide +kernel)) hce hcv hcl rfl ?_
  refine lv_astore (lv' := [(6, .ref q9), (0, .ref (ad 0)), (1, .int (iI 2)), (2, .int (iI q_a)), (3, .int (iI q_b)), (4, .int (iI q_c)), (5, .int (iI q_d))]) hx hb dL_act_303 hl (by decide) rfl (fun ls hl => ?_)
  refine mk_bipush hx hb (-91) (by decide +kernel) dL_act_305 ?_
  exact mw_retI hx hb hr hlocks hW ⟨rfl, rfl⟩ dL_act_307

set_option maxHeartbeats 4000000 in
set_option maxRecDepth 100000 in
theorem c_L_act_split_no2 (l : Launch) (cg : Nat → ClassId) (D : va_G) (ad : Nat → Nat) (st : Nat → Nat → Int) (q_a q_b q_c q_d : Int) (hT : TX l yX5_split wsX5_split ({ frames := 8, cells := 1, slots := 6, locals := 150 }) D vwCl (TY cg) 73 (celX cg) ad st [.ref (ad 0), .int (iI q_a), .int (iI q_b), .int (iI q_c)] xE2) : WI l yL_act wsL_act ({ frames := 9, cells := 1, slots := 6, locals := 180 }) D vwCl (TY cg) 73 (celX cg) ad st [.ref (ad 0), .int (iI 2), .int (iI q_a), .int (iI q_b), .int (iI q_c), .int (iI q_d)] (fun z st1 => z = -92 ∧ st1 = st) := by
  refine mw_open (cc := cL_act) (maxL := 7) (ret := (some .int)) (hh := [(0, 302, 303, 13), (0, 302, 308, 84), (0, 302, 313, 15)]) (by decide) rfl (Nat.le_of_ble_eq_true rfl) ?_
  intro p e s m args below meth c hx hb hml hr hown hts hlocks hK hN hargs ls hl hW hxK hxZ hxN htab
  have hown : s.vm.findClass RL = some m.cls := hown
  have hl : lv_has ls 7 [(0, .ref (ad 0)), (1, .int (iI 2)), (2, .int (iI q_a)), (3, .int (iI q_b)), (4, .int (iI q_c)), (5, .int (iI q_d))] := hl
  refine lv_iload_n hx hb dL_act_0 rfl (lv_at hl 1 rfl) ?_
  refine mk_if_ne (tgt := 17) hx hb dL_act_1 (by decide) (by decide) (fun _ => ?_) (fun h => absurd h (by decide))
  refine lv_iload_n hx hb dL_act_17 rfl (lv_at hl 1 rfl) ?_
  refine mk_iconst hx hb (1) dL_act_18 ?_
  refine mk_icmp_ne (tgt := 35) hx hb dL_act_19 (by decide) (by decide) (by decide) (fun _ => ?_) (fun h => absurd h (by decide))
  refine lv_iload_n hx hb dL_act_35 rfl (lv_at hl 1 rfl) ?_
  refine mk_iconst hx hb (2) dL_act_36 ?_
  refine mk_icmp_ne (tgt := 51) hx hb dL_act_37 (by decide) (by decide) (by decide) (fun h => absurd h (by decide)) (fun _ => ?_)
  refine lv_aload_n hx hb dL_act_40 rfl (lv_at hl 0 rfl) ?_
  refine lv_iload_n hx hb dL_act_41 rfl (lv_at hl 2 rfl) ?_
  refine lv_iload_n hx hb dL_act_42 rfl (lv_at hl 3 rfl) ?_
  refine lv_iload hx hb dL_act_43 (lv_at hl 4 rfl) ?_
  refine mx_go (vx_runV (As := [.int (iI q_a), .int (iI q_b), .int (iI q_c)]) (rest := []) ⟨hx, hb, hml, hown, hts⟩ hT (cwV 3 hts gL_act_X5_split rfl rfl rfl (by decide +kernel) ⟨Nat.le_of_ble_eq_true rfl, Nat.le_of_ble_eq_true rfl⟩) (mx_preV hK hN hxK hxZ hW 0 (by decide) rfl rfl rfl) rfl rfl hl.1 rfl (lv_room (Nat.le_of_ble_eq_true rfl)) dL_act_45 ⟨Nat.le_refl _, Nat.le_refl _⟩) hW (fun ce q9 H locs hW _ hce hcv hcl => ?_)
  refine mw_catch (hh := [(0, 302, 303, 13), (0, 302, 308, 84), (0, 302, 313, 15)]) (h9 := 308) hown htab [⟨0, 302, 303, 13⟩] ⟨0, 302, 308, 84⟩ [⟨0, 302, 313, 15⟩] rfl (fun z hz => by
      simp only [List.mem_cons, List.not_mem_nil, or_false] at hz
      rcases hz with rfl
      · exact Or.inr ⟨by decide, xE1, (hts (.classLink RL 13 xE1) (by decide +kernel)), hxN.1⟩) (by decide) (by decide) (hts (.classLink RL 84 xE2) (by decide +kernel)) (hxK.use _ (by decide +kernel)) hce hcv hcl rfl ?_
  refine lv_astore (lv' := [(6, .ref q9), (0, .ref (ad 0)), (1, .int (iI 2)), (2, .int (iI q_a)), (3, .int (iI q_b)), (4, .int (iI q_c)), (5, .int (iI q_d))]) hx hb dL_act_308 hl (by decide) rfl (fun ls hl => ?_)
  refine mk_bipush hx hb (-92) (by decide +kernel) dL_act_310 ?_
  exact mw_retI hx hb hr hlocks hW ⟨rfl, rfl⟩ dL_act_312

set_option maxHeartbeats 4000000 in
set_option maxRecDepth 100000 in
theorem c_L_act_split_no3 (l : Launch) (cg : Nat → ClassId) (D : va_G) (ad : Nat → Nat) (st : Nat → Nat → Int) (q_a q_b q_c q_d : Int) (hT : TX l yX5_split wsX5_split ({ frames := 8, cells := 1, slots := 6, locals := 150 }) D vwCl (TY cg) 73 (celX cg) ad st [.ref (ad 0), .int (iI q_a), .int (iI q_b), .int (iI q_c)] xE3) : WI l yL_act wsL_act ({ frames := 9, cells := 1, slots := 6, locals := 180 }) D vwCl (TY cg) 73 (celX cg) ad st [.ref (ad 0), .int (iI 2), .int (iI q_a), .int (iI q_b), .int (iI q_c), .int (iI q_d)] (fun z st1 => z = -93 ∧ st1 = st) := by
  refine mw_open (cc := cL_act) (maxL := 7) (ret := (some .int)) (hh := [(0, 302, 303, 13), (0, 302, 308, 84), (0, 302, 313, 15)]) (by decide) rfl (Nat.le_of_ble_eq_true rfl) ?_
  intro p e s m args below meth c hx hb hml hr hown hts hlocks hK hN hargs ls hl hW hxK hxZ hxN htab
  have hown : s.vm.findClass RL = some m.cls := hown
  have hl : lv_has ls 7 [(0, .ref (ad 0)), (1, .int (iI 2)), (2, .int (iI q_a)), (3, .int (iI q_b)), (4, .int (iI q_c)), (5, .int (iI q_d))] := hl
  refine lv_iload_n hx hb dL_act_0 rfl (lv_at hl 1 rfl) ?_
  refine mk_if_ne (tgt := 17) hx hb dL_act_1 (by decide) (by decide) (fun _ => ?_) (fun h => absurd h (by decide))
  refine lv_iload_n hx hb dL_act_17 rfl (lv_at hl 1 rfl) ?_
  refine mk_iconst hx hb (1) dL_act_18 ?_
  refine mk_icmp_ne (tgt := 35) hx hb dL_act_19 (by decide) (by decide) (by decide) (fun _ => ?_) (fun h => absurd h (by decide))
  refine lv_iload_n hx hb dL_act_35 rfl (lv_at hl 1 rfl) ?_
  refine mk_iconst hx hb (2) dL_act_36 ?_
  refine mk_icmp_ne (tgt := 51) hx hb dL_act_37 (by decide) (by decide) (by decide) (fun h => absurd h (by decide)) (fun _ => ?_)
  refine lv_aload_n hx hb dL_act_40 rfl (lv_at hl 0 rfl) ?_
  refine lv_iload_n hx hb dL_act_41 rfl (lv_at hl 2 rfl) ?_
  refine lv_iload_n hx hb dL_act_42 rfl (lv_at hl 3 rfl) ?_
  refine lv_iload hx hb dL_act_43 (lv_at hl 4 rfl) ?_
  refine mx_go (vx_runV (As := [.int (iI q_a), .int (iI q_b), .int (iI q_c)]) (rest := []) ⟨hx, hb, hml, hown, hts⟩ hT (cwV 3 hts gL_act_X5_split rfl rfl rfl (by decide +kernel) ⟨Nat.le_of_ble_eq_true rfl, Nat.le_of_ble_eq_true rfl⟩) (mx_preV hK hN hxK hxZ hW 0 (by decide) rfl rfl rfl) rfl rfl hl.1 rfl (lv_room (Nat.le_of_ble_eq_true rfl)) dL_act_45 ⟨Nat.le_refl _, Nat.le_refl _⟩) hW (fun ce q9 H locs hW _ hce hcv hcl => ?_)
  refine mw_catch (hh := [(0, 302, 303, 13), (0, 302, 308, 84), (0, 302, 313, 15)]) (h9 := 313) hown htab [⟨0, 302, 303, 13⟩, ⟨0, 302, 308, 84⟩] ⟨0, 302, 313, 15⟩ [] rfl (fun z hz => by
      simp only [List.mem_cons, List.not_mem_nil, or_false] at hz
      rcases hz with rfl | rfl
      · exact Or.inr ⟨by decide, xE1, (hts (.classLink RL 13 xE1) (by decide +kernel)), hxN.2.1⟩
      · exact Or.inr ⟨by decide, xE2, (hts (.classLink RL 84 xE2) (by decide +kernel)), hxN.2.2⟩) (by decide) (by decide) (hts (.classLink RL 15 xE3) (by decide +kernel)) (hxK.use _ (by decide +kernel)) hce hcv hcl rfl ?_
  refine lv_astore (lv' := [(6, .ref q9), (0, .ref (ad 0)), (1, .int (iI 2)), (2, .int (iI q_a)), (3, .int (iI q_b)), (4, .int (iI q_c)), (5, .int (iI q_d))]) hx hb dL_act_313 hl (by decide) rfl (fun ls hl => ?_)
  refine mk_bipush hx hb (-93) (by decide +kernel) dL_act_315 ?_
  exact mw_retI hx hb hr hlocks hW ⟨rfl, rfl⟩ dL_act_317

set_option maxHeartbeats 4000000 in
set_option maxRecDepth 100000 in
theorem c_L_act_setAllowance_no1 (l : Launch) (cg : Nat → ClassId) (D : va_G) (ad : Nat → Nat) (st : Nat → Nat → Int) (q_a q_b q_c q_d : Int) (hT : TX l yX5_setAllowance wsX5_setAllowance ({ frames := 8, cells := 1, slots := 6, locals := 150 }) D vwCl (TY cg) 73 (celX cg) ad st [.ref (ad 0), .int (iI q_a), .int (iI q_b)] xE1) : WI l yL_act wsL_act ({ frames := 9, cells := 1, slots := 6, locals := 180 }) D vwCl (TY cg) 73 (celX cg) ad st [.ref (ad 0), .int (iI 3), .int (iI q_a), .int (iI q_b), .int (iI q_c), .int (iI q_d)] (fun z st1 => z = -91 ∧ st1 = st) := by
  refine mw_open (cc := cL_act) (maxL := 7) (ret := (some .int)) (hh := [(0, 302, 303, 13), (0, 302, 308, 84), (0, 302, 313, 15)]) (by decide) rfl (Nat.le_of_ble_eq_true rfl) ?_
  intro p e s m args below meth c hx hb hml hr hown hts hlocks hK hN hargs ls hl hW hxK hxZ hxN htab
  have hown : s.vm.findClass RL = some m.cls := hown
  have hl : lv_has ls 7 [(0, .ref (ad 0)), (1, .int (iI 3)), (2, .int (iI q_a)), (3, .int (iI q_b)), (4, .int (iI q_c)), (5, .int (iI q_d))] := hl
  refine lv_iload_n hx hb dL_act_0 rfl (lv_at hl 1 rfl) ?_
  refine mk_if_ne (tgt := 17) hx hb dL_act_1 (by decide) (by decide) (fun _ => ?_) (fun h => absurd h (by decide))
  refine lv_iload_n hx hb dL_act_17 rfl (lv_at hl 1 rfl) ?_
  refine mk_iconst hx hb (1) dL_act_18 ?_
  refine mk_icmp_ne (tgt := 35) hx hb dL_act_19 (by decide) (by decide) (by decide) (fun _ => ?_) (fun h => absurd h (by decide))
  refine lv_iload_n hx hb dL_act_35 rfl (lv_at hl 1 rfl) ?_
  refine mk_iconst hx hb (2) dL_act_36 ?_
  refine mk_icmp_ne (tgt := 51) hx hb dL_act_37 (by decide) (by decide) (by decide) (fun _ => ?_) (fun h => absurd h (by decide))
  refine lv_iload_n hx hb dL_act_51 rfl (lv_at hl 1 rfl) ?_
  refine mk_iconst hx hb (3) dL_act_52 ?_
  refine mk_icmp_ne (tgt := 65) hx hb dL_act_53 (by decide) (by decide) (by decide) (fun h => absurd h (by decide)) (fun _ => ?_)
  refine lv_aload_n hx hb dL_act_56 rfl (lv_at hl 0 rfl) ?_
  refine lv_iload_n hx hb dL_act_57 rfl (lv_at hl 2 rfl) ?_
  refine lv_iload_n hx hb dL_act_58 rfl (lv_at hl 3 rfl) ?_
  refine mx_go (vx_runV (As := [.int (iI q_a), .int (iI q_b)]) (rest := []) ⟨hx, hb, hml, hown, hts⟩ hT (cwV 2 hts gL_act_X5_setAllowance rfl rfl rfl (by decide +kernel) ⟨Nat.le_of_ble_eq_true rfl, Nat.le_of_ble_eq_true rfl⟩) (mx_preV hK hN hxK hxZ hW 0 (by decide) rfl rfl rfl) rfl rfl hl.1 rfl (lv_room (Nat.le_of_ble_eq_true rfl)) dL_act_59 ⟨Nat.le_refl _, Nat.le_refl _⟩) hW (fun ce q9 H locs hW _ hce hcv hcl => ?_)
  refine mw_catch (hh := [(0, 302, 303, 13), (0, 302, 308, 84), (0, 302, 313, 15)]) (h9 := 303) hown htab [] ⟨0, 302, 303, 13⟩ [⟨0, 302, 308, 84⟩, ⟨0, 302, 313, 15⟩] rfl (fun z hz => by simp at hz) (by decide) (by decide) (hts (.classLink RL 13 xE1) (by decide +kernel)) (hxK.use _ (by decide +kernel)) hce hcv hcl rfl ?_
  refine lv_astore (lv' := [(6, .ref q9), (0, .ref (ad 0)), (1, .int (iI 3)), (2, .int (iI q_a)), (3, .int (iI q_b)), (4, .int (iI q_c)), (5, .int (iI q_d))]) hx hb dL_act_303 hl (by decide) rfl (fun ls hl => ?_)
  refine mk_bipush hx hb (-91) (by decide +kernel) dL_act_305 ?_
  exact mw_retI hx hb hr hlocks hW ⟨rfl, rfl⟩ dL_act_307

set_option maxHeartbeats 4000000 in
set_option maxRecDepth 100000 in
theorem c_L_act_setAllowance_no2 (l : Launch) (cg : Nat → ClassId) (D : va_G) (ad : Nat → Nat) (st : Nat → Nat → Int) (q_a q_b q_c q_d : Int) (hT : TX l yX5_setAllowance wsX5_setAllowance ({ frames := 8, cells := 1, slots := 6, locals := 150 }) D vwCl (TY cg) 73 (celX cg) ad st [.ref (ad 0), .int (iI q_a), .int (iI q_b)] xE2) : WI l yL_act wsL_act ({ frames := 9, cells := 1, slots := 6, locals := 180 }) D vwCl (TY cg) 73 (celX cg) ad st [.ref (ad 0), .int (iI 3), .int (iI q_a), .int (iI q_b), .int (iI q_c), .int (iI q_d)] (fun z st1 => z = -92 ∧ st1 = st) := by
  refine mw_open (cc := cL_act) (maxL := 7) (ret := (some .int)) (hh := [(0, 302, 303, 13), (0, 302, 308, 84), (0, 302, 313, 15)]) (by decide) rfl (Nat.le_of_ble_eq_true rfl) ?_
  intro p e s m args below meth c hx hb hml hr hown hts hlocks hK hN hargs ls hl hW hxK hxZ hxN htab
  have hown : s.vm.findClass RL = some m.cls := hown
  have hl : lv_has ls 7 [(0, .ref (ad 0)), (1, .int (iI 3)), (2, .int (iI q_a)), (3, .int (iI q_b)), (4, .int (iI q_c)), (5, .int (iI q_d))] := hl
  refine lv_iload_n hx hb dL_act_0 rfl (lv_at hl 1 rfl) ?_
  refine mk_if_ne (tgt := 17) hx hb dL_act_1 (by decide) (by decide) (fun _ => ?_) (fun h => absurd h (by decide))
  refine lv_iload_n hx hb dL_act_17 rfl (lv_at hl 1 rfl) ?_
  refine mk_iconst hx hb (1) dL_act_18 ?_
  refine mk_icmp_ne (tgt := 35) hx hb dL_act_19 (by decide) (by decide) (by decide) (fun _ => ?_) (fun h => absurd h (by decide))
  refine lv_iload_n hx hb dL_act_35 rfl (lv_at hl 1 rfl) ?_
  refine mk_iconst hx hb (2) dL_act_36 ?_
  refine mk_icmp_ne (tgt := 51) hx hb dL_act_37 (by decide) (by decide) (by decide) (fun _ => ?_) (fun h => absurd h (by decide))
  refine lv_iload_n hx hb dL_act_51 rfl (lv_at hl 1 rfl) ?_
  refine mk_iconst hx hb (3) dL_act_52 ?_
  refine mk_icmp_ne (tgt := 65) hx hb dL_act_53 (by decide) (by decide) (by decide) (fun h => absurd h (by decide)) (fun _ => ?_)
  refine lv_aload_n hx hb dL_act_56 rfl (lv_at hl 0 rfl) ?_
  refine lv_iload_n hx hb dL_act_57 rfl (lv_at hl 2 rfl) ?_
  refine lv_iload_n hx hb dL_act_58 rfl (lv_at hl 3 rfl) ?_
  refine mx_go (vx_runV (As := [.int (iI q_a), .int (iI q_b)]) (rest := []) ⟨hx, hb, hml, hown, hts⟩ hT (cwV 2 hts gL_act_X5_setAllowance rfl rfl rfl (by decide +kernel) ⟨Nat.le_of_ble_eq_true rfl, Nat.le_of_ble_eq_true rfl⟩) (mx_preV hK hN hxK hxZ hW 0 (by decide) rfl rfl rfl) rfl rfl hl.1 rfl (lv_room (Nat.le_of_ble_eq_true rfl)) dL_act_59 ⟨Nat.le_refl _, Nat.le_refl _⟩) hW (fun ce q9 H locs hW _ hce hcv hcl => ?_)
  refine mw_catch (hh := [(0, 302, 303, 13), (0, 302, 308, 84), (0, 302, 313, 15)]) (h9 := 308) hown htab [⟨0, 302, 303, 13⟩] ⟨0, 302, 308, 84⟩ [⟨0, 302, 313, 15⟩] rfl (fun z hz => by
      simp only [List.mem_cons, List.not_mem_nil, or_false] at hz
      rcases hz with rfl
      · exact Or.inr ⟨by decide, xE1, (hts (.classLink RL 13 xE1) (by decide +kernel)), hxN.1⟩) (by decide) (by decide) (hts (.classLink RL 84 xE2) (by decide +kernel)) (hxK.use _ (by decide +kernel)) hce hcv hcl rfl ?_
  refine lv_astore (lv' := [(6, .ref q9), (0, .ref (ad 0)), (1, .int (iI 3)), (2, .int (iI q_a)), (3, .int (iI q_b)), (4, .int (iI q_c)), (5, .int (iI q_d))]) hx hb dL_act_308 hl (by decide) rfl (fun ls hl => ?_)
  refine mk_bipush hx hb (-92) (by decide +kernel) dL_act_310 ?_
  exact mw_retI hx hb hr hlocks hW ⟨rfl, rfl⟩ dL_act_312

set_option maxHeartbeats 4000000 in
set_option maxRecDepth 100000 in
theorem c_L_act_setWindow_no2 (l : Launch) (cg : Nat → ClassId) (D : va_G) (ad : Nat → Nat) (st : Nat → Nat → Int) (q_a q_b q_c q_d : Int) (hT : TX l yX5_setWindow wsX5_setWindow ({ frames := 8, cells := 1, slots := 6, locals := 150 }) D vwCl (TY cg) 73 (celX cg) ad st [.ref (ad 0), .int (iI q_a)] xE2) : WI l yL_act wsL_act ({ frames := 9, cells := 1, slots := 6, locals := 180 }) D vwCl (TY cg) 73 (celX cg) ad st [.ref (ad 0), .int (iI 4), .int (iI q_a), .int (iI q_b), .int (iI q_c), .int (iI q_d)] (fun z st1 => z = -92 ∧ st1 = st) := by
  refine mw_open (cc := cL_act) (maxL := 7) (ret := (some .int)) (hh := [(0, 302, 303, 13), (0, 302, 308, 84), (0, 302, 313, 15)]) (by decide) rfl (Nat.le_of_ble_eq_true rfl) ?_
  intro p e s m args below meth c hx hb hml hr hown hts hlocks hK hN hargs ls hl hW hxK hxZ hxN htab
  have hown : s.vm.findClass RL = some m.cls := hown
  have hl : lv_has ls 7 [(0, .ref (ad 0)), (1, .int (iI 4)), (2, .int (iI q_a)), (3, .int (iI q_b)), (4, .int (iI q_c)), (5, .int (iI q_d))] := hl
  refine lv_iload_n hx hb dL_act_0 rfl (lv_at hl 1 rfl) ?_
  refine mk_if_ne (tgt := 17) hx hb dL_act_1 (by decide) (by decide) (fun _ => ?_) (fun h => absurd h (by decide))
  refine lv_iload_n hx hb dL_act_17 rfl (lv_at hl 1 rfl) ?_
  refine mk_iconst hx hb (1) dL_act_18 ?_
  refine mk_icmp_ne (tgt := 35) hx hb dL_act_19 (by decide) (by decide) (by decide) (fun _ => ?_) (fun h => absurd h (by decide))
  refine lv_iload_n hx hb dL_act_35 rfl (lv_at hl 1 rfl) ?_
  refine mk_iconst hx hb (2) dL_act_36 ?_
  refine mk_icmp_ne (tgt := 51) hx hb dL_act_37 (by decide) (by decide) (by decide) (fun _ => ?_) (fun h => absurd h (by decide))
  refine lv_iload_n hx hb dL_act_51 rfl (lv_at hl 1 rfl) ?_
  refine mk_iconst hx hb (3) dL_act_52 ?_
  refine mk_icmp_ne (tgt := 65) hx hb dL_act_53 (by decide) (by decide) (by decide) (fun _ => ?_) (fun h => absurd h (by decide))
  refine lv_iload_n hx hb dL_act_65 rfl (lv_at hl 1 rfl) ?_
  refine mk_iconst hx hb (4) dL_act_66 ?_
  refine mk_icmp_ne (tgt := 78) hx hb dL_act_67 (by decide) (by decide) (by decide) (fun h => absurd h (by decide)) (fun _ => ?_)
  refine lv_aload_n hx hb dL_act_70 rfl (lv_at hl 0 rfl) ?_
  refine lv_iload_n hx hb dL_act_71 rfl (lv_at hl 2 rfl) ?_
  refine mx_go (vx_runV (As := [.int (iI q_a)]) (rest := []) ⟨hx, hb, hml, hown, hts⟩ hT (cwV 1 hts gL_act_X5_setWindow rfl rfl rfl (by decide +kernel) ⟨Nat.le_of_ble_eq_true rfl, Nat.le_of_ble_eq_true rfl⟩) (mx_preV hK hN hxK hxZ hW 0 (by decide) rfl rfl rfl) rfl rfl hl.1 rfl (lv_room (Nat.le_of_ble_eq_true rfl)) dL_act_72 ⟨Nat.le_refl _, Nat.le_refl _⟩) hW (fun ce q9 H locs hW _ hce hcv hcl => ?_)
  refine mw_catch (hh := [(0, 302, 303, 13), (0, 302, 308, 84), (0, 302, 313, 15)]) (h9 := 308) hown htab [⟨0, 302, 303, 13⟩] ⟨0, 302, 308, 84⟩ [⟨0, 302, 313, 15⟩] rfl (fun z hz => by
      simp only [List.mem_cons, List.not_mem_nil, or_false] at hz
      rcases hz with rfl
      · exact Or.inr ⟨by decide, xE1, (hts (.classLink RL 13 xE1) (by decide +kernel)), hxN.1⟩) (by decide) (by decide) (hts (.classLink RL 84 xE2) (by decide +kernel)) (hxK.use _ (by decide +kernel)) hce hcv hcl rfl ?_
  refine lv_astore (lv' := [(6, .ref q9), (0, .ref (ad 0)), (1, .int (iI 4)), (2, .int (iI q_a)), (3, .int (iI q_b)), (4, .int (iI q_c)), (5, .int (iI q_d))]) hx hb dL_act_308 hl (by decide) rfl (fun ls hl => ?_)
  refine mk_bipush hx hb (-92) (by decide +kernel) dL_act_310 ?_
  exact mw_retI hx hb hr hlocks hW ⟨rfl, rfl⟩ dL_act_312

set_option maxHeartbeats 4000000 in
set_option maxRecDepth 100000 in
theorem c_L_act_holding_no1 (l : Launch) (cg : Nat → ClassId) (D : va_G) (ad : Nat → Nat) (st : Nat → Nat → Int) (q_a q_b q_c q_d : Int) (hT : TX l yX5_holding wsX5_holding ({ frames := 8, cells := 1, slots := 6, locals := 150 }) D vwCl (TY cg) 73 (celX cg) ad st [.ref (ad 0), .int (iI q_a), .int (iI q_b)] xE1) : WI l yL_act wsL_act ({ frames := 9, cells := 1, slots := 6, locals := 180 }) D vwCl (TY cg) 73 (celX cg) ad st [.ref (ad 0), .int (iI 5), .int (iI q_a), .int (iI q_b), .int (iI q_c), .int (iI q_d)] (fun z st1 => z = -91 ∧ st1 = st) := by
  refine mw_open (cc := cL_act) (maxL := 7) (ret := (some .int)) (hh := [(0, 302, 303, 13), (0, 302, 308, 84), (0, 302, 313, 15)]) (by decide) rfl (Nat.le_of_ble_eq_true rfl) ?_
  intro p e s m args below meth c hx hb hml hr hown hts hlocks hK hN hargs ls hl hW hxK hxZ hxN htab
  have hown : s.vm.findClass RL = some m.cls := hown
  have hl : lv_has ls 7 [(0, .ref (ad 0)), (1, .int (iI 5)), (2, .int (iI q_a)), (3, .int (iI q_b)), (4, .int (iI q_c)), (5, .int (iI q_d))] := hl
  refine lv_iload_n hx hb dL_act_0 rfl (lv_at hl 1 rfl) ?_
  refine mk_if_ne (tgt := 17) hx hb dL_act_1 (by decide) (by decide) (fun _ => ?_) (fun h => absurd h (by decide))
  refine lv_iload_n hx hb dL_act_17 rfl (lv_at hl 1 rfl) ?_
  refine mk_iconst hx hb (1) dL_act_18 ?_
  refine mk_icmp_ne (tgt := 35) hx hb dL_act_19 (by decide) (by decide) (by decide) (fun _ => ?_) (fun h => absurd h (by decide))
  refine lv_iload_n hx hb dL_act_35 rfl (lv_at hl 1 rfl) ?_
  refine mk_iconst hx hb (2) dL_act_36 ?_
  refine mk_icmp_ne (tgt := 51) hx hb dL_act_37 (by decide) (by decide) (by decide) (fun _ => ?_) (fun h => absurd h (by decide))
  refine lv_iload_n hx hb dL_act_51 rfl (lv_at hl 1 rfl) ?_
  refine mk_iconst hx hb (3) dL_act_52 ?_
  refine mk_icmp_ne (tgt := 65) hx hb dL_act_53 (by decide) (by decide) (by decide) (fun _ => ?_) (fun h => absurd h (by decide))
  refine lv_iload_n hx hb dL_act_65 rfl (lv_at hl 1 rfl) ?_
  refine mk_iconst hx hb (4) dL_act_66 ?_
  refine mk_icmp_ne (tgt := 78) hx hb dL_act_67 (by decide) (by decide) (by decide) (fun _ => ?_) (fun h => absurd h (by decide))
  refine lv_iload_n hx hb dL_act_78 rfl (lv_at hl 1 rfl) ?_
  refine mk_iconst hx hb (5) dL_act_79 ?_
  refine mk_icmp_ne (tgt := 92) hx hb dL_act_80 (by decide) (by decide) (by decide) (fun h => absurd h (by decide)) (fun _ => ?_)
  refine lv_aload_n hx hb dL_act_83 rfl (lv_at hl 0 rfl) ?_
  refine lv_iload_n hx hb dL_act_84 rfl (lv_at hl 2 rfl) ?_
  refine lv_iload_n hx hb dL_act_85 rfl (lv_at hl 3 rfl) ?_
  refine mx_go (vx_runV (As := [.int (iI q_a), .int (iI q_b)]) (rest := []) ⟨hx, hb, hml, hown, hts⟩ hT (cwV 2 hts gL_act_X5_holding rfl rfl rfl (by decide +kernel) ⟨Nat.le_of_ble_eq_true rfl, Nat.le_of_ble_eq_true rfl⟩) (mx_preV hK hN hxK hxZ hW 0 (by decide) rfl rfl rfl) rfl rfl hl.1 rfl (lv_room (Nat.le_of_ble_eq_true rfl)) dL_act_86 ⟨Nat.le_refl _, Nat.le_refl _⟩) hW (fun ce q9 H locs hW _ hce hcv hcl => ?_)
  refine mw_catch (hh := [(0, 302, 303, 13), (0, 302, 308, 84), (0, 302, 313, 15)]) (h9 := 303) hown htab [] ⟨0, 302, 303, 13⟩ [⟨0, 302, 308, 84⟩, ⟨0, 302, 313, 15⟩] rfl (fun z hz => by simp at hz) (by decide) (by decide) (hts (.classLink RL 13 xE1) (by decide +kernel)) (hxK.use _ (by decide +kernel)) hce hcv hcl rfl ?_
  refine lv_astore (lv' := [(6, .ref q9), (0, .ref (ad 0)), (1, .int (iI 5)), (2, .int (iI q_a)), (3, .int (iI q_b)), (4, .int (iI q_c)), (5, .int (iI q_d))]) hx hb dL_act_303 hl (by decide) rfl (fun ls hl => ?_)
  refine mk_bipush hx hb (-91) (by decide +kernel) dL_act_305 ?_
  exact mw_retI hx hb hr hlocks hW ⟨rfl, rfl⟩ dL_act_307

set_option maxHeartbeats 4000000 in
set_option maxRecDepth 100000 in
theorem c_L_act_poolUnits_no1 (l : Launch) (cg : Nat → ClassId) (D : va_G) (ad : Nat → Nat) (st : Nat → Nat → Int) (q_a q_b q_c q_d : Int) (hT : TX l yX5_poolUnits wsX5_poolUnits ({ frames := 8, cells := 1, slots := 6, locals := 150 }) D vwCl (TY cg) 73 (celX cg) ad st [.ref (ad 0), .int (iI q_a), .int (iI q_b)] xE1) : WI l yL_act wsL_act ({ frames := 9, cells := 1, slots := 6, locals := 180 }) D vwCl (TY cg) 73 (celX cg) ad st [.ref (ad 0), .int (iI 6), .int (iI q_a), .int (iI q_b), .int (iI q_c), .int (iI q_d)] (fun z st1 => z = -91 ∧ st1 = st) := by
  refine mw_open (cc := cL_act) (maxL := 7) (ret := (some .int)) (hh := [(0, 302, 303, 13), (0, 302, 308, 84), (0, 302, 313, 15)]) (by decide) rfl (Nat.le_of_ble_eq_true rfl) ?_
  intro p e s m args below meth c hx hb hml hr hown hts hlocks hK hN hargs ls hl hW hxK hxZ hxN htab
  have hown : s.vm.findClass RL = some m.cls := hown
  have hl : lv_has ls 7 [(0, .ref (ad 0)), (1, .int (iI 6)), (2, .int (iI q_a)), (3, .int (iI q_b)), (4, .int (iI q_c)), (5, .int (iI q_d))] := hl
  refine lv_iload_n hx hb dL_act_0 rfl (lv_at hl 1 rfl) ?_
  refine mk_if_ne (tgt := 17) hx hb dL_act_1 (by decide) (by decide) (fun _ => ?_) (fun h => absurd h (by decide))
  refine lv_iload_n hx hb dL_act_17 rfl (lv_at hl 1 rfl) ?_
  refine mk_iconst hx hb (1) dL_act_18 ?_
  refine mk_icmp_ne (tgt := 35) hx hb dL_act_19 (by decide) (by decide) (by decide) (fun _ => ?_) (fun h => absurd h (by decide))
  refine lv_iload_n hx hb dL_act_35 rfl (lv_at hl 1 rfl) ?_
  refine mk_iconst hx hb (2) dL_act_36 ?_
  refine mk_icmp_ne (tgt := 51) hx hb dL_act_37 (by decide) (by decide) (by decide) (fun _ => ?_) (fun h => absurd h (by decide))
  refine lv_iload_n hx hb dL_act_51 rfl (lv_at hl 1 rfl) ?_
  refine mk_iconst hx hb (3) dL_act_52 ?_
  refine mk_icmp_ne (tgt := 65) hx hb dL_act_53 (by decide) (by decide) (by decide) (fun _ => ?_) (fun h => absurd h (by decide))
  refine lv_iload_n hx hb dL_act_65 rfl (lv_at hl 1 rfl) ?_
  refine mk_iconst hx hb (4) dL_act_66 ?_
  refine mk_icmp_ne (tgt := 78) hx hb dL_act_67 (by decide) (by decide) (by decide) (fun _ => ?_) (fun h => absurd h (by decide))
  refine lv_iload_n hx hb dL_act_78 rfl (lv_at hl 1 rfl) ?_
  refine mk_iconst hx hb (5) dL_act_79 ?_
  refine mk_icmp_ne (tgt := 92) hx hb dL_act_80 (by decide) (by decide) (by decide) (fun _ => ?_) (fun h => absurd h (by decide))
  refine lv_iload_n hx hb dL_act_92 rfl (lv_at hl 1 rfl) ?_
  refine mk_bipush hx hb (6) (by decide +kernel) dL_act_93 ?_
  refine mk_icmp_ne (tgt := 107) hx hb dL_act_95 (by decide) (by decide) (by decide) (fun h => absurd h (by decide)) (fun _ => ?_)
  refine lv_aload_n hx hb dL_act_98 rfl (lv_at hl 0 rfl) ?_
  refine lv_iload_n hx hb dL_act_99 rfl (lv_at hl 2 rfl) ?_
  refine lv_iload_n hx hb dL_act_100 rfl (lv_at hl 3 rfl) ?_
  refine mx_go (vx_runV (As := [.int (iI q_a), .int (iI q_b)]) (rest := []) ⟨hx, hb, hml, hown, hts⟩ hT (cwV 2 hts gL_act_X5_poolUnits rfl rfl rfl (by decide +kernel) ⟨Nat.le_of_ble_eq_true rfl, Nat.le_of_ble_eq_true rfl⟩) (mx_preV hK hN hxK hxZ hW 0 (by decide) rfl rfl rfl) rfl rfl hl.1 rfl (lv_room (Nat.le_of_ble_eq_true rfl)) dL_act_101 ⟨Nat.le_refl _, Nat.le_refl _⟩) hW (fun ce q9 H locs hW _ hce hcv hcl => ?_)
  refine mw_catch (hh := [(0, 302, 303, 13), (0, 302, 308, 84), (0, 302, 313, 15)]) (h9 := 303) hown htab [] ⟨0, 302, 303, 13⟩ [⟨0, 302, 308, 84⟩, ⟨0, 302, 313, 15⟩] rfl (fun z hz => by simp at hz) (by decide) (by decide) (hts (.classLink RL 13 xE1) (by decide +kernel)) (hxK.use _ (by decide +kernel)) hce hcv hcl rfl ?_
  refine lv_astore (lv' := [(6, .ref q9), (0, .ref (ad 0)), (1, .int (iI 6)), (2, .int (iI q_a)), (3, .int (iI q_b)), (4, .int (iI q_c)), (5, .int (iI q_d))]) hx hb dL_act_303 hl (by decide) rfl (fun ls hl => ?_)
  refine mk_bipush hx hb (-91) (by decide +kernel) dL_act_305 ?_
  exact mw_retI hx hb hr hlocks hW ⟨rfl, rfl⟩ dL_act_307

set_option maxHeartbeats 4000000 in
set_option maxRecDepth 100000 in
theorem c_L_act_poolCost_no1 (l : Launch) (cg : Nat → ClassId) (D : va_G) (ad : Nat → Nat) (st : Nat → Nat → Int) (q_a q_b q_c q_d : Int) (hT : TX l yX5_poolCost wsX5_poolCost ({ frames := 8, cells := 1, slots := 6, locals := 150 }) D vwCl (TY cg) 73 (celX cg) ad st [.ref (ad 0), .int (iI q_a), .int (iI q_b)] xE1) : WI l yL_act wsL_act ({ frames := 9, cells := 1, slots := 6, locals := 180 }) D vwCl (TY cg) 73 (celX cg) ad st [.ref (ad 0), .int (iI 7), .int (iI q_a), .int (iI q_b), .int (iI q_c), .int (iI q_d)] (fun z st1 => z = -91 ∧ st1 = st) := by
  refine mw_open (cc := cL_act) (maxL := 7) (ret := (some .int)) (hh := [(0, 302, 303, 13), (0, 302, 308, 84), (0, 302, 313, 15)]) (by decide) rfl (Nat.le_of_ble_eq_true rfl) ?_
  intro p e s m args below meth c hx hb hml hr hown hts hlocks hK hN hargs ls hl hW hxK hxZ hxN htab
  have hown : s.vm.findClass RL = some m.cls := hown
  have hl : lv_has ls 7 [(0, .ref (ad 0)), (1, .int (iI 7)), (2, .int (iI q_a)), (3, .int (iI q_b)), (4, .int (iI q_c)), (5, .int (iI q_d))] := hl
  refine lv_iload_n hx hb dL_act_0 rfl (lv_at hl 1 rfl) ?_
  refine mk_if_ne (tgt := 17) hx hb dL_act_1 (by decide) (by decide) (fun _ => ?_) (fun h => absurd h (by decide))
  refine lv_iload_n hx hb dL_act_17 rfl (lv_at hl 1 rfl) ?_
  refine mk_iconst hx hb (1) dL_act_18 ?_
  refine mk_icmp_ne (tgt := 35) hx hb dL_act_19 (by decide) (by decide) (by decide) (fun _ => ?_) (fun h => absurd h (by decide))
  refine lv_iload_n hx hb dL_act_35 rfl (lv_at hl 1 rfl) ?_
  refine mk_iconst hx hb (2) dL_act_36 ?_
  refine mk_icmp_ne (tgt := 51) hx hb dL_act_37 (by decide) (by decide) (by decide) (fun _ => ?_) (fun h => absurd h (by decide))
  refine lv_iload_n hx hb dL_act_51 rfl (lv_at hl 1 rfl) ?_
  refine mk_iconst hx hb (3) dL_act_52 ?_
  refine mk_icmp_ne (tgt := 65) hx hb dL_act_53 (by decide) (by decide) (by decide) (fun _ => ?_) (fun h => absurd h (by decide))
  refine lv_iload_n hx hb dL_act_65 rfl (lv_at hl 1 rfl) ?_
  refine mk_iconst hx hb (4) dL_act_66 ?_
  refine mk_icmp_ne (tgt := 78) hx hb dL_act_67 (by decide) (by decide) (by decide) (fun _ => ?_) (fun h => absurd h (by decide))
  refine lv_iload_n hx hb dL_act_78 rfl (lv_at hl 1 rfl) ?_
  refine mk_iconst hx hb (5) dL_act_79 ?_
  refine mk_icmp_ne (tgt := 92) hx hb dL_act_80 (by decide) (by decide) (by decide) (fun _ => ?_) (fun h => absurd h (by decide))
  refine lv_iload_n hx hb dL_act_92 rfl (lv_at hl 1 rfl) ?_
  refine mk_bipush hx hb (6) (by decide +kernel) dL_act_93 ?_
  refine mk_icmp_ne (tgt := 107) hx hb dL_act_95 (by decide) (by decide) (by decide) (fun _ => ?_) (fun h => absurd h (by decide))
  refine lv_iload_n hx hb dL_act_107 rfl (lv_at hl 1 rfl) ?_
  refine mk_bipush hx hb (7) (by decide +kernel) dL_act_108 ?_
  refine mk_icmp_ne (tgt := 122) hx hb dL_act_110 (by decide) (by decide) (by decide) (fun h => absurd h (by decide)) (fun _ => ?_)
  refine lv_aload_n hx hb dL_act_113 rfl (lv_at hl 0 rfl) ?_
  refine lv_iload_n hx hb dL_act_114 rfl (lv_at hl 2 rfl) ?_
  refine lv_iload_n hx hb dL_act_115 rfl (lv_at hl 3 rfl) ?_
  refine mx_go (vx_runV (As := [.int (iI q_a), .int (iI q_b)]) (rest := []) ⟨hx, hb, hml, hown, hts⟩ hT (cwV 2 hts gL_act_X5_poolCost rfl rfl rfl (by decide +kernel) ⟨Nat.le_of_ble_eq_true rfl, Nat.le_of_ble_eq_true rfl⟩) (mx_preV hK hN hxK hxZ hW 0 (by decide) rfl rfl rfl) rfl rfl hl.1 rfl (lv_room (Nat.le_of_ble_eq_true rfl)) dL_act_116 ⟨Nat.le_refl _, Nat.le_refl _⟩) hW (fun ce q9 H locs hW _ hce hcv hcl => ?_)
  refine mw_catch (hh := [(0, 302, 303, 13), (0, 302, 308, 84), (0, 302, 313, 15)]) (h9 := 303) hown htab [] ⟨0, 302, 303, 13⟩ [⟨0, 302, 308, 84⟩, ⟨0, 302, 313, 15⟩] rfl (fun z hz => by simp at hz) (by decide) (by decide) (hts (.classLink RL 13 xE1) (by decide +kernel)) (hxK.use _ (by decide +kernel)) hce hcv hcl rfl ?_
  refine lv_astore (lv' := [(6, .ref q9), (0, .ref (ad 0)), (1, .int (iI 7)), (2, .int (iI q_a)), (3, .int (iI q_b)), (4, .int (iI q_c)), (5, .int (iI q_d))]) hx hb dL_act_303 hl (by decide) rfl (fun ls hl => ?_)
  refine mk_bipush hx hb (-91) (by decide +kernel) dL_act_305 ?_
  exact mw_retI hx hb hr hlocks hW ⟨rfl, rfl⟩ dL_act_307

set_option maxHeartbeats 4000000 in
set_option maxRecDepth 100000 in
theorem c_L_act_gain_no1 (l : Launch) (cg : Nat → ClassId) (D : va_G) (ad : Nat → Nat) (st : Nat → Nat → Int) (q_a q_b q_c q_d : Int) (hT : TX l yX5_gain wsX5_gain ({ frames := 8, cells := 1, slots := 6, locals := 150 }) D vwCl (TY cg) 73 (celX cg) ad st [.ref (ad 0), .int (iI q_a), .int (iI q_b)] xE1) : WI l yL_act wsL_act ({ frames := 9, cells := 1, slots := 6, locals := 180 }) D vwCl (TY cg) 73 (celX cg) ad st [.ref (ad 0), .int (iI 8), .int (iI q_a), .int (iI q_b), .int (iI q_c), .int (iI q_d)] (fun z st1 => z = -91 ∧ st1 = st) := by
  refine mw_open (cc := cL_act) (maxL := 7) (ret := (some .int)) (hh := [(0, 302, 303, 13), (0, 302, 308, 84), (0, 302, 313, 15)]) (by decide) rfl (Nat.le_of_ble_eq_true rfl) ?_
  intro p e s m args below meth c hx hb hml hr hown hts hlocks hK hN hargs ls hl hW hxK hxZ hxN htab
  have hown : s.vm.findClass RL = some m.cls := hown
  have hl : lv_has ls 7 [(0, .ref (ad 0)), (1, .int (iI 8)), (2, .int (iI q_a)), (3, .int (iI q_b)), (4, .int (iI q_c)), (5, .int (iI q_d))] := hl
  refine lv_iload_n hx hb dL_act_0 rfl (lv_at hl 1 rfl) ?_
  refine mk_if_ne (tgt := 17) hx hb dL_act_1 (by decide) (by decide) (fun _ => ?_) (fun h => absurd h (by decide))
  refine lv_iload_n hx hb dL_act_17 rfl (lv_at hl 1 rfl) ?_
  refine mk_iconst hx hb (1) dL_act_18 ?_
  refine mk_icmp_ne (tgt := 35) hx hb dL_act_19 (by decide) (by decide) (by decide) (fun _ => ?_) (fun h => absurd h (by decide))
  refine lv_iload_n hx hb dL_act_35 rfl (lv_at hl 1 rfl) ?_
  refine mk_iconst hx hb (2) dL_act_36 ?_
  refine mk_icmp_ne (tgt := 51) hx hb dL_act_37 (by decide) (by decide) (by decide) (fun _ => ?_) (fun h => absurd h (by decide))
  refine lv_iload_n hx hb dL_act_51 rfl (lv_at hl 1 rfl) ?_
  refine mk_iconst hx hb (3) dL_act_52 ?_
  refine mk_icmp_ne (tgt := 65) hx hb dL_act_53 (by decide) (by decide) (by decide) (fun _ => ?_) (fun h => absurd h (by decide))
  refine lv_iload_n hx hb dL_act_65 rfl (lv_at hl 1 rfl) ?_
  refine mk_iconst hx hb (4) dL_act_66 ?_
  refine mk_icmp_ne (tgt := 78) hx hb dL_act_67 (by decide) (by decide) (by decide) (fun _ => ?_) (fun h => absurd h (by decide))
  refine lv_iload_n hx hb dL_act_78 rfl (lv_at hl 1 rfl) ?_
  refine mk_iconst hx hb (5) dL_act_79 ?_
  refine mk_icmp_ne (tgt := 92) hx hb dL_act_80 (by decide) (by decide) (by decide) (fun _ => ?_) (fun h => absurd h (by decide))
  refine lv_iload_n hx hb dL_act_92 rfl (lv_at hl 1 rfl) ?_
  refine mk_bipush hx hb (6) (by decide +kernel) dL_act_93 ?_
  refine mk_icmp_ne (tgt := 107) hx hb dL_act_95 (by decide) (by decide) (by decide) (fun _ => ?_) (fun h => absurd h (by decide))
  refine lv_iload_n hx hb dL_act_107 rfl (lv_at hl 1 rfl) ?_
  refine mk_bipush hx hb (7) (by decide +kernel) dL_act_108 ?_
  refine mk_icmp_ne (tgt := 122) hx hb dL_act_110 (by decide) (by decide) (by decide) (fun _ => ?_) (fun h => absurd h (by decide))
  refine lv_iload_n hx hb dL_act_122 rfl (lv_at hl 1 rfl) ?_
  refine mk_bipush hx hb (8) (by decide +kernel) dL_act_123 ?_
  refine mk_icmp_ne (tgt := 137) hx hb dL_act_125 (by decide) (by decide) (by decide) (fun h => absurd h (by decide)) (fun _ => ?_)
  refine lv_aload_n hx hb dL_act_128 rfl (lv_at hl 0 rfl) ?_
  refine lv_iload_n hx hb dL_act_129 rfl (lv_at hl 2 rfl) ?_
  refine lv_iload_n hx hb dL_act_130 rfl (lv_at hl 3 rfl) ?_
  refine mx_go (vx_runV (As := [.int (iI q_a), .int (iI q_b)]) (rest := []) ⟨hx, hb, hml, hown, hts⟩ hT (cwV 2 hts gL_act_X5_gain rfl rfl rfl (by decide +kernel) ⟨Nat.le_of_ble_eq_true rfl, Nat.le_of_ble_eq_true rfl⟩) (mx_preV hK hN hxK hxZ hW 0 (by decide) rfl rfl rfl) rfl rfl hl.1 rfl (lv_room (Nat.le_of_ble_eq_true rfl)) dL_act_131 ⟨Nat.le_refl _, Nat.le_refl _⟩) hW (fun ce q9 H locs hW _ hce hcv hcl => ?_)
  refine mw_catch (hh := [(0, 302, 303, 13), (0, 302, 308, 84), (0, 302, 313, 15)]) (h9 := 303) hown htab [] ⟨0, 302, 303, 13⟩ [⟨0, 302, 308, 84⟩, ⟨0, 302, 313, 15⟩] rfl (fun z hz => by simp at hz) (by decide) (by decide) (hts (.classLink RL 13 xE1) (by decide +kernel)) (hxK.use _ (by decide +kernel)) hce hcv hcl rfl ?_
  refine lv_astore (lv' := [(6, .ref q9), (0, .ref (ad 0)), (1, .int (iI 8)), (2, .int (iI q_a)), (3, .int (iI q_b)), (4, .int (iI q_c)), (5, .int (iI q_d))]) hx hb dL_act_303 hl (by decide) rfl (fun ls hl => ?_)
  refine mk_bipush hx hb (-91) (by decide +kernel) dL_act_305 ?_
  exact mw_retI hx hb hr hlocks hW ⟨rfl, rfl⟩ dL_act_307

set_option maxHeartbeats 4000000 in
set_option maxRecDepth 100000 in
theorem c_L_act_kindOf_no1 (l : Launch) (cg : Nat → ClassId) (D : va_G) (ad : Nat → Nat) (st : Nat → Nat → Int) (q_a q_b q_c q_d : Int) (hT : TX l yX5_kindOf wsX5_kindOf ({ frames := 8, cells := 1, slots := 6, locals := 150 }) D vwCl (TY cg) 73 (celX cg) ad st [.ref (ad 0), .int (iI q_a), .int (iI q_b)] xE1) : WI l yL_act wsL_act ({ frames := 9, cells := 1, slots := 6, locals := 180 }) D vwCl (TY cg) 73 (celX cg) ad st [.ref (ad 0), .int (iI 9), .int (iI q_a), .int (iI q_b), .int (iI q_c), .int (iI q_d)] (fun z st1 => z = -91 ∧ st1 = st) := by
  refine mw_open (cc := cL_act) (maxL := 7) (ret := (some .int)) (hh := [(0, 302, 303, 13), (0, 302, 308, 84), (0, 302, 313, 15)]) (by decide) rfl (Nat.le_of_ble_eq_true rfl) ?_
  intro p e s m args below meth c hx hb hml hr hown hts hlocks hK hN hargs ls hl hW hxK hxZ hxN htab
  have hown : s.vm.findClass RL = some m.cls := hown
  have hl : lv_has ls 7 [(0, .ref (ad 0)), (1, .int (iI 9)), (2, .int (iI q_a)), (3, .int (iI q_b)), (4, .int (iI q_c)), (5, .int (iI q_d))] := hl
  refine lv_iload_n hx hb dL_act_0 rfl (lv_at hl 1 rfl) ?_
  refine mk_if_ne (tgt := 17) hx hb dL_act_1 (by decide) (by decide) (fun _ => ?_) (fun h => absurd h (by decide))
  refine lv_iload_n hx hb dL_act_17 rfl (lv_at hl 1 rfl) ?_
  refine mk_iconst hx hb (1) dL_act_18 ?_
  refine mk_icmp_ne (tgt := 35) hx hb dL_act_19 (by decide) (by decide) (by decide) (fun _ => ?_) (fun h => absurd h (by decide))
  refine lv_iload_n hx hb dL_act_35 rfl (lv_at hl 1 rfl) ?_
  refine mk_iconst hx hb (2) dL_act_36 ?_
  refine mk_icmp_ne (tgt := 51) hx hb dL_act_37 (by decide) (by decide) (by decide) (fun _ => ?_) (fun h => absurd h (by decide))
  refine lv_iload_n hx hb dL_act_51 rfl (lv_at hl 1 rfl) ?_
  refine mk_iconst hx hb (3) dL_act_52 ?_
  refine mk_icmp_ne (tgt := 65) hx hb dL_act_53 (by decide) (by decide) (by decide) (fun _ => ?_) (fun h => absurd h (by decide))
  refine lv_iload_n hx hb dL_act_65 rfl (lv_at hl 1 rfl) ?_
  refine mk_iconst hx hb (4) dL_act_66 ?_
  refine mk_icmp_ne (tgt := 78) hx hb dL_act_67 (by decide) (by decide) (by decide) (fun _ => ?_) (fun h => absurd h (by decide))
  refine lv_iload_n hx hb dL_act_78 rfl (lv_at hl 1 rfl) ?_
  refine mk_iconst hx hb (5) dL_act_79 ?_
  refine mk_icmp_ne (tgt := 92) hx hb dL_act_80 (by decide) (by decide) (by decide) (fun _ => ?_) (fun h => absurd h (by decide))
  refine lv_iload_n hx hb dL_act_92 rfl (lv_at hl 1 rfl) ?_
  refine mk_bipush hx hb (6) (by decide +kernel) dL_act_93 ?_
  refine mk_icmp_ne (tgt := 107) hx hb dL_act_95 (by decide) (by decide) (by decide) (fun _ => ?_) (fun h => absurd h (by decide))
  refine lv_iload_n hx hb dL_act_107 rfl (lv_at hl 1 rfl) ?_
  refine mk_bipush hx hb (7) (by decide +kernel) dL_act_108 ?_
  refine mk_icmp_ne (tgt := 122) hx hb dL_act_110 (by decide) (by decide) (by decide) (fun _ => ?_) (fun h => absurd h (by decide))
  refine lv_iload_n hx hb dL_act_122 rfl (lv_at hl 1 rfl) ?_
  refine mk_bipush hx hb (8) (by decide +kernel) dL_act_123 ?_
  refine mk_icmp_ne (tgt := 137) hx hb dL_act_125 (by decide) (by decide) (by decide) (fun _ => ?_) (fun h => absurd h (by decide))
  refine lv_iload_n hx hb dL_act_137 rfl (lv_at hl 1 rfl) ?_
  refine mk_bipush hx hb (9) (by decide +kernel) dL_act_138 ?_
  refine mk_icmp_ne (tgt := 152) hx hb dL_act_140 (by decide) (by decide) (by decide) (fun h => absurd h (by decide)) (fun _ => ?_)
  refine lv_aload_n hx hb dL_act_143 rfl (lv_at hl 0 rfl) ?_
  refine lv_iload_n hx hb dL_act_144 rfl (lv_at hl 2 rfl) ?_
  refine lv_iload_n hx hb dL_act_145 rfl (lv_at hl 3 rfl) ?_
  refine mx_go (vx_runV (As := [.int (iI q_a), .int (iI q_b)]) (rest := []) ⟨hx, hb, hml, hown, hts⟩ hT (cwV 2 hts gL_act_X5_kindOf rfl rfl rfl (by decide +kernel) ⟨Nat.le_of_ble_eq_true rfl, Nat.le_of_ble_eq_true rfl⟩) (mx_preV hK hN hxK hxZ hW 0 (by decide) rfl rfl rfl) rfl rfl hl.1 rfl (lv_room (Nat.le_of_ble_eq_true rfl)) dL_act_146 ⟨Nat.le_refl _, Nat.le_refl _⟩) hW (fun ce q9 H locs hW _ hce hcv hcl => ?_)
  refine mw_catch (hh := [(0, 302, 303, 13), (0, 302, 308, 84), (0, 302, 313, 15)]) (h9 := 303) hown htab [] ⟨0, 302, 303, 13⟩ [⟨0, 302, 308, 84⟩, ⟨0, 302, 313, 15⟩] rfl (fun z hz => by simp at hz) (by decide) (by decide) (hts (.classLink RL 13 xE1) (by decide +kernel)) (hxK.use _ (by decide +kernel)) hce hcv hcl rfl ?_
  refine lv_astore (lv' := [(6, .ref q9), (0, .ref (ad 0)), (1, .int (iI 9)), (2, .int (iI q_a)), (3, .int (iI q_b)), (4, .int (iI q_c)), (5, .int (iI q_d))]) hx hb dL_act_303 hl (by decide) rfl (fun ls hl => ?_)
  refine mk_bipush hx hb (-91) (by decide +kernel) dL_act_305 ?_
  exact mw_retI hx hb hr hlocks hW ⟨rfl, rfl⟩ dL_act_307

set_option maxHeartbeats 4000000 in
set_option maxRecDepth 100000 in
theorem c_L_act_saleDay_no1 (l : Launch) (cg : Nat → ClassId) (D : va_G) (ad : Nat → Nat) (st : Nat → Nat → Int) (q_a q_b q_c q_d : Int) (hT : TX l yX5_saleDay wsX5_saleDay ({ frames := 8, cells := 1, slots := 6, locals := 150 }) D vwCl (TY cg) 73 (celX cg) ad st [.ref (ad 0), .int (iI q_a), .int (iI q_b)] xE1) : WI l yL_act wsL_act ({ frames := 9, cells := 1, slots := 6, locals := 180 }) D vwCl (TY cg) 73 (celX cg) ad st [.ref (ad 0), .int (iI 10), .int (iI q_a), .int (iI q_b), .int (iI q_c), .int (iI q_d)] (fun z st1 => z = -91 ∧ st1 = st) := by
  refine mw_open (cc := cL_act) (maxL := 7) (ret := (some .int)) (hh := [(0, 302, 303, 13), (0, 302, 308, 84), (0, 302, 313, 15)]) (by decide) rfl (Nat.le_of_ble_eq_true rfl) ?_
  intro p e s m args below meth c hx hb hml hr hown hts hlocks hK hN hargs ls hl hW hxK hxZ hxN htab
  have hown : s.vm.findClass RL = some m.cls := hown
  have hl : lv_has ls 7 [(0, .ref (ad 0)), (1, .int (iI 10)), (2, .int (iI q_a)), (3, .int (iI q_b)), (4, .int (iI q_c)), (5, .int (iI q_d))] := hl
  refine lv_iload_n hx hb dL_act_0 rfl (lv_at hl 1 rfl) ?_
  refine mk_if_ne (tgt := 17) hx hb dL_act_1 (by decide) (by decide) (fun _ => ?_) (fun h => absurd h (by decide))
  refine lv_iload_n hx hb dL_act_17 rfl (lv_at hl 1 rfl) ?_
  refine mk_iconst hx hb (1) dL_act_18 ?_
  refine mk_icmp_ne (tgt := 35) hx hb dL_act_19 (by decide) (by decide) (by decide) (fun _ => ?_) (fun h => absurd h (by decide))
  refine lv_iload_n hx hb dL_act_35 rfl (lv_at hl 1 rfl) ?_
  refine mk_iconst hx hb (2) dL_act_36 ?_
  refine mk_icmp_ne (tgt := 51) hx hb dL_act_37 (by decide) (by decide) (by decide) (fun _ => ?_) (fun h => absurd h (by decide))
  refine lv_iload_n hx hb dL_act_51 rfl (lv_at hl 1 rfl) ?_
  refine mk_iconst hx hb (3) dL_act_52 ?_
  refine mk_icmp_ne (tgt := 65) hx hb dL_act_53 (by decide) (by decide) (by decide) (fun _ => ?_) (fun h => absurd h (by decide))
  refine lv_iload_n hx hb dL_act_65 rfl (lv_at hl 1 rfl) ?_
  refine mk_iconst hx hb (4) dL_act_66 ?_
  refine mk_icmp_ne (tgt := 78) hx hb dL_act_67 (by decide) (by decide) (by decide) (fun _ => ?_) (fun h => absurd h (by decide))
  refine lv_iload_n hx hb dL_act_78 rfl (lv_at hl 1 rfl) ?_
  refine mk_iconst hx hb (5) dL_act_79 ?_
  refine mk_icmp_ne (tgt := 92) hx hb dL_act_80 (by decide) (by decide) (by decide) (fun _ => ?_) (fun h => absurd h (by decide))
  refine lv_iload_n hx hb dL_act_92 rfl (lv_at hl 1 rfl) ?_
  refine mk_bipush hx hb (6) (by decide +kernel) dL_act_93 ?_
  refine mk_icmp_ne (tgt := 107) hx hb dL_act_95 (by decide) (by decide) (by decide) (fun _ => ?_) (fun h => absurd h (by decide))
  refine lv_iload_n hx hb dL_act_107 rfl (lv_at hl 1 rfl) ?_
  refine mk_bipush hx hb (7) (by decide +kernel) dL_act_108 ?_
  refine mk_icmp_ne (tgt := 122) hx hb dL_act_110 (by decide) (by decide) (by decide) (fun _ => ?_) (fun h => absurd h (by decide))
  refine lv_iload_n hx hb dL_act_122 rfl (lv_at hl 1 rfl) ?_
  refine mk_bipush hx hb (8) (by decide +kernel) dL_act_123 ?_
  refine mk_icmp_ne (tgt := 137) hx hb dL_act_125 (by decide) (by decide) (by decide) (fun _ => ?_) (fun h => absurd h (by decide))
  refine lv_iload_n hx hb dL_act_137 rfl (lv_at hl 1 rfl) ?_
  refine mk_bipush hx hb (9) (by decide +kernel) dL_act_138 ?_
  refine mk_icmp_ne (tgt := 152) hx hb dL_act_140 (by decide) (by decide) (by decide) (fun _ => ?_) (fun h => absurd h (by decide))
  refine lv_iload_n hx hb dL_act_152 rfl (lv_at hl 1 rfl) ?_
  refine mk_bipush hx hb (10) (by decide +kernel) dL_act_153 ?_
  refine mk_icmp_ne (tgt := 167) hx hb dL_act_155 (by decide) (by decide) (by decide) (fun h => absurd h (by decide)) (fun _ => ?_)
  refine lv_aload_n hx hb dL_act_158 rfl (lv_at hl 0 rfl) ?_
  refine lv_iload_n hx hb dL_act_159 rfl (lv_at hl 2 rfl) ?_
  refine lv_iload_n hx hb dL_act_160 rfl (lv_at hl 3 rfl) ?_
  refine mx_go (vx_runV (As := [.int (iI q_a), .int (iI q_b)]) (rest := []) ⟨hx, hb, hml, hown, hts⟩ hT (cwV 2 hts gL_act_X5_saleDay rfl rfl rfl (by decide +kernel) ⟨Nat.le_of_ble_eq_true rfl, Nat.le_of_ble_eq_true rfl⟩) (mx_preV hK hN hxK hxZ hW 0 (by decide) rfl rfl rfl) rfl rfl hl.1 rfl (lv_room (Nat.le_of_ble_eq_true rfl)) dL_act_161 ⟨Nat.le_refl _, Nat.le_refl _⟩) hW (fun ce q9 H locs hW _ hce hcv hcl => ?_)
  refine mw_catch (hh := [(0, 302, 303, 13), (0, 302, 308, 84), (0, 302, 313, 15)]) (h9 := 303) hown htab [] ⟨0, 302, 303, 13⟩ [⟨0, 302, 308, 84⟩, ⟨0, 302, 313, 15⟩] rfl (fun z hz => by simp at hz) (by decide) (by decide) (hts (.classLink RL 13 xE1) (by decide +kernel)) (hxK.use _ (by decide +kernel)) hce hcv hcl rfl ?_
  refine lv_astore (lv' := [(6, .ref q9), (0, .ref (ad 0)), (1, .int (iI 10)), (2, .int (iI q_a)), (3, .int (iI q_b)), (4, .int (iI q_c)), (5, .int (iI q_d))]) hx hb dL_act_303 hl (by decide) rfl (fun ls hl => ?_)
  refine mk_bipush hx hb (-91) (by decide +kernel) dL_act_305 ?_
  exact mw_retI hx hb hr hlocks hW ⟨rfl, rfl⟩ dL_act_307

set_option maxHeartbeats 4000000 in
set_option maxRecDepth 100000 in
theorem c_L_act_buyDay_no1 (l : Launch) (cg : Nat → ClassId) (D : va_G) (ad : Nat → Nat) (st : Nat → Nat → Int) (q_a q_b q_c q_d : Int) (hT : TX l yX5_buyDay wsX5_buyDay ({ frames := 8, cells := 1, slots := 6, locals := 150 }) D vwCl (TY cg) 73 (celX cg) ad st [.ref (ad 0), .int (iI q_a), .int (iI q_b)] xE1) : WI l yL_act wsL_act ({ frames := 9, cells := 1, slots := 6, locals := 180 }) D vwCl (TY cg) 73 (celX cg) ad st [.ref (ad 0), .int (iI 11), .int (iI q_a), .int (iI q_b), .int (iI q_c), .int (iI q_d)] (fun z st1 => z = -91 ∧ st1 = st) := by
  refine mw_open (cc := cL_act) (maxL := 7) (ret := (some .int)) (hh := [(0, 302, 303, 13), (0, 302, 308, 84), (0, 302, 313, 15)]) (by decide) rfl (Nat.le_of_ble_eq_true rfl) ?_
  intro p e s m args below meth c hx hb hml hr hown hts hlocks hK hN hargs ls hl hW hxK hxZ hxN htab
  have hown : s.vm.findClass RL = some m.cls := hown
  have hl : lv_has ls 7 [(0, .ref (ad 0)), (1, .int (iI 11)), (2, .int (iI q_a)), (3, .int (iI q_b)), (4, .int (iI q_c)), (5, .int (iI q_d))] := hl
  refine lv_iload_n hx hb dL_act_0 rfl (lv_at hl 1 rfl) ?_
  refine mk_if_ne (tgt := 17) hx hb dL_act_1 (by decide) (by decide) (fun _ => ?_) (fun h => absurd h (by decide))
  refine lv_iload_n hx hb dL_act_17 rfl (lv_at hl 1 rfl) ?_
  refine mk_iconst hx hb (1) dL_act_18 ?_
  refine mk_icmp_ne (tgt := 35) hx hb dL_act_19 (by decide) (by decide) (by decide) (fun _ => ?_) (fun h => absurd h (by decide))
  refine lv_iload_n hx hb dL_act_35 rfl (lv_at hl 1 rfl) ?_
  refine mk_iconst hx hb (2) dL_act_36 ?_
  refine mk_icmp_ne (tgt := 51) hx hb dL_act_37 (by decide) (by decide) (by decide) (fun _ => ?_) (fun h => absurd h (by decide))
  refine lv_iload_n hx hb dL_act_51 rfl (lv_at hl 1 rfl) ?_
  refine mk_iconst hx hb (3) dL_act_52 ?_
  refine mk_icmp_ne (tgt := 65) hx hb dL_act_53 (by decide) (by decide) (by decide) (fun _ => ?_) (fun h => absurd h (by decide))
  refine lv_iload_n hx hb dL_act_65 rfl (lv_at hl 1 rfl) ?_
  refine mk_iconst hx hb (4) dL_act_66 ?_
  refine mk_icmp_ne (tgt := 78) hx hb dL_act_67 (by decide) (by decide) (by decide) (fun _ => ?_) (fun h => absurd h (by decide))
  refine lv_iload_n hx hb dL_act_78 rfl (lv_at hl 1 rfl) ?_
  refine mk_iconst hx hb (5) dL_act_79 ?_
  refine mk_icmp_ne (tgt := 92) hx hb dL_act_80 (by decide) (by decide) (by decide) (fun _ => ?_) (fun h => absurd h (by decide))
  refine lv_iload_n hx hb dL_act_92 rfl (lv_at hl 1 rfl) ?_
  refine mk_bipush hx hb (6) (by decide +kernel) dL_act_93 ?_
  refine mk_icmp_ne (tgt := 107) hx hb dL_act_95 (by decide) (by decide) (by decide) (fun _ => ?_) (fun h => absurd h (by decide))
  refine lv_iload_n hx hb dL_act_107 rfl (lv_at hl 1 rfl) ?_
  refine mk_bipush hx hb (7) (by decide +kernel) dL_act_108 ?_
  refine mk_icmp_ne (tgt := 122) hx hb dL_act_110 (by decide) (by decide) (by decide) (fun _ => ?_) (fun h => absurd h (by decide))
  refine lv_iload_n hx hb dL_act_122 rfl (lv_at hl 1 rfl) ?_
  refine mk_bipush hx hb (8) (by decide +kernel) dL_act_123 ?_
  refine mk_icmp_ne (tgt := 137) hx hb dL_act_125 (by decide) (by decide) (by decide) (fun _ => ?_) (fun h => absurd h (by decide))
  refine lv_iload_n hx hb dL_act_137 rfl (lv_at hl 1 rfl) ?_
  refine mk_bipush hx hb (9) (by decide +kernel) dL_act_138 ?_
  refine mk_icmp_ne (tgt := 152) hx hb dL_act_140 (by decide) (by decide) (by decide) (fun _ => ?_) (fun h => absurd h (by decide))
  refine lv_iload_n hx hb dL_act_152 rfl (lv_at hl 1 rfl) ?_
  refine mk_bipush hx hb (10) (by decide +kernel) dL_act_153 ?_
  refine mk_icmp_ne (tgt := 167) hx hb dL_act_155 (by decide) (by decide) (by decide) (fun _ => ?_) (fun h => absurd h (by decide))
  refine lv_iload_n hx hb dL_act_167 rfl (lv_at hl 1 rfl) ?_
  refine mk_bipush hx hb (11) (by decide +kernel) dL_act_168 ?_
  refine mk_icmp_ne (tgt := 182) hx hb dL_act_170 (by decide) (by decide) (by decide) (fun h => absurd h (by decide)) (fun _ => ?_)
  refine lv_aload_n hx hb dL_act_173 rfl (lv_at hl 0 rfl) ?_
  refine lv_iload_n hx hb dL_act_174 rfl (lv_at hl 2 rfl) ?_
  refine lv_iload_n hx hb dL_act_175 rfl (lv_at hl 3 rfl) ?_
  refine mx_go (vx_runV (As := [.int (iI q_a), .int (iI q_b)]) (rest := []) ⟨hx, hb, hml, hown, hts⟩ hT (cwV 2 hts gL_act_X5_buyDay rfl rfl rfl (by decide +kernel) ⟨Nat.le_of_ble_eq_true rfl, Nat.le_of_ble_eq_true rfl⟩) (mx_preV hK hN hxK hxZ hW 0 (by decide) rfl rfl rfl) rfl rfl hl.1 rfl (lv_room (Nat.le_of_ble_eq_true rfl)) dL_act_176 ⟨Nat.le_refl _, Nat.le_refl _⟩) hW (fun ce q9 H locs hW _ hce hcv hcl => ?_)
  refine mw_catch (hh := [(0, 302, 303, 13), (0, 302, 308, 84), (0, 302, 313, 15)]) (h9 := 303) hown htab [] ⟨0, 302, 303, 13⟩ [⟨0, 302, 308, 84⟩, ⟨0, 302, 313, 15⟩] rfl (fun z hz => by simp at hz) (by decide) (by decide) (hts (.classLink RL 13 xE1) (by decide +kernel)) (hxK.use _ (by decide +kernel)) hce hcv hcl rfl ?_
  refine lv_astore (lv' := [(6, .ref q9), (0, .ref (ad 0)), (1, .int (iI 11)), (2, .int (iI q_a)), (3, .int (iI q_b)), (4, .int (iI q_c)), (5, .int (iI q_d))]) hx hb dL_act_303 hl (by decide) rfl (fun ls hl => ?_)
  refine mk_bipush hx hb (-91) (by decide +kernel) dL_act_305 ?_
  exact mw_retI hx hb hr hlocks hW ⟨rfl, rfl⟩ dL_act_307

set_option maxHeartbeats 4000000 in
set_option maxRecDepth 100000 in
theorem c_L_act_unitsOf_no1 (l : Launch) (cg : Nat → ClassId) (D : va_G) (ad : Nat → Nat) (st : Nat → Nat → Int) (q_a q_b q_c q_d : Int) (hT : TX l yX5_unitsOf wsX5_unitsOf ({ frames := 8, cells := 1, slots := 6, locals := 150 }) D vwCl (TY cg) 73 (celX cg) ad st [.ref (ad 0), .int (iI q_a), .int (iI q_b)] xE1) : WI l yL_act wsL_act ({ frames := 9, cells := 1, slots := 6, locals := 180 }) D vwCl (TY cg) 73 (celX cg) ad st [.ref (ad 0), .int (iI 12), .int (iI q_a), .int (iI q_b), .int (iI q_c), .int (iI q_d)] (fun z st1 => z = -91 ∧ st1 = st) := by
  refine mw_open (cc := cL_act) (maxL := 7) (ret := (some .int)) (hh := [(0, 302, 303, 13), (0, 302, 308, 84), (0, 302, 313, 15)]) (by decide) rfl (Nat.le_of_ble_eq_true rfl) ?_
  intro p e s m args below meth c hx hb hml hr hown hts hlocks hK hN hargs ls hl hW hxK hxZ hxN htab
  have hown : s.vm.findClass RL = some m.cls := hown
  have hl : lv_has ls 7 [(0, .ref (ad 0)), (1, .int (iI 12)), (2, .int (iI q_a)), (3, .int (iI q_b)), (4, .int (iI q_c)), (5, .int (iI q_d))] := hl
  refine lv_iload_n hx hb dL_act_0 rfl (lv_at hl 1 rfl) ?_
  refine mk_if_ne (tgt := 17) hx hb dL_act_1 (by decide) (by decide) (fun _ => ?_) (fun h => absurd h (by decide))
  refine lv_iload_n hx hb dL_act_17 rfl (lv_at hl 1 rfl) ?_
  refine mk_iconst hx hb (1) dL_act_18 ?_
  refine mk_icmp_ne (tgt := 35) hx hb dL_act_19 (by decide) (by decide) (by decide) (fun _ => ?_) (fun h => absurd h (by decide))
  refine lv_iload_n hx hb dL_act_35 rfl (lv_at hl 1 rfl) ?_
  refine mk_iconst hx hb (2) dL_act_36 ?_
  refine mk_icmp_ne (tgt := 51) hx hb dL_act_37 (by decide) (by decide) (by decide) (fun _ => ?_) (fun h => absurd h (by decide))
  refine lv_iload_n hx hb dL_act_51 rfl (lv_at hl 1 rfl) ?_
  refine mk_iconst hx hb (3) dL_act_52 ?_
  refine mk_icmp_ne (tgt := 65) hx hb dL_act_53 (by decide) (by decide) (by decide) (fun _ => ?_) (fun h => absurd h (by decide))
  refine lv_iload_n hx hb dL_act_65 rfl (lv_at hl 1 rfl) ?_
  refine mk_iconst hx hb (4) dL_act_66 ?_
  refine mk_icmp_ne (tgt := 78) hx hb dL_act_67 (by decide) (by decide) (by decide) (fun _ => ?_) (fun h => absurd h (by decide))
  refine lv_iload_n hx hb dL_act_78 rfl (lv_at hl 1 rfl) ?_
  refine mk_iconst hx hb (5) dL_act_79 ?_
  refine mk_icmp_ne (tgt := 92) hx hb dL_act_80 (by decide) (by decide) (by decide) (fun _ => ?_) (fun h => absurd h (by decide))
  refine lv_iload_n hx hb dL_act_92 rfl (lv_at hl 1 rfl) ?_
  refine mk_bipush hx hb (6) (by decide +kernel) dL_act_93 ?_
  refine mk_icmp_ne (tgt := 107) hx hb dL_act_95 (by decide) (by decide) (by decide) (fun _ => ?_) (fun h => absurd h (by decide))
  refine lv_iload_n hx hb dL_act_107 rfl (lv_at hl 1 rfl) ?_
  refine mk_bipush hx hb (7) (by decide +kernel) dL_act_108 ?_
  refine mk_icmp_ne (tgt := 122) hx hb dL_act_110 (by decide) (by decide) (by decide) (fun _ => ?_) (fun h => absurd h (by decide))
  refine lv_iload_n hx hb dL_act_122 rfl (lv_at hl 1 rfl) ?_
  refine mk_bipush hx hb (8) (by decide +kernel) dL_act_123 ?_
  refine mk_icmp_ne (tgt := 137) hx hb dL_act_125 (by decide) (by decide) (by decide) (fun _ => ?_) (fun h => absurd h (by decide))
  refine lv_iload_n hx hb dL_act_137 rfl (lv_at hl 1 rfl) ?_
  refine mk_bipush hx hb (9) (by decide +kernel) dL_act_138 ?_
  refine mk_icmp_ne (tgt := 152) hx hb dL_act_140 (by decide) (by decide) (by decide) (fun _ => ?_) (fun h => absurd h (by decide))
  refine lv_iload_n hx hb dL_act_152 rfl (lv_at hl 1 rfl) ?_
  refine mk_bipush hx hb (10) (by decide +kernel) dL_act_153 ?_
  refine mk_icmp_ne (tgt := 167) hx hb dL_act_155 (by decide) (by decide) (by decide) (fun _ => ?_) (fun h => absurd h (by decide))
  refine lv_iload_n hx hb dL_act_167 rfl (lv_at hl 1 rfl) ?_
  refine mk_bipush hx hb (11) (by decide +kernel) dL_act_168 ?_
  refine mk_icmp_ne (tgt := 182) hx hb dL_act_170 (by decide) (by decide) (by decide) (fun _ => ?_) (fun h => absurd h (by decide))
  refine lv_iload_n hx hb dL_act_182 rfl (lv_at hl 1 rfl) ?_
  refine mk_bipush hx hb (12) (by decide +kernel) dL_act_183 ?_
  refine mk_icmp_ne (tgt := 197) hx hb dL_act_185 (by decide) (by decide) (by decide) (fun h => absurd h (by decide)) (fun _ => ?_)
  refine lv_aload_n hx hb dL_act_188 rfl (lv_at hl 0 rfl) ?_
  refine lv_iload_n hx hb dL_act_189 rfl (lv_at hl 2 rfl) ?_
  refine lv_iload_n hx hb dL_act_190 rfl (lv_at hl 3 rfl) ?_
  refine mx_go (vx_runV (As := [.int (iI q_a), .int (iI q_b)]) (rest := []) ⟨hx, hb, hml, hown, hts⟩ hT (cwV 2 hts gL_act_X5_unitsOf rfl rfl rfl (by decide +kernel) ⟨Nat.le_of_ble_eq_true rfl, Nat.le_of_ble_eq_true rfl⟩) (mx_preV hK hN hxK hxZ hW 0 (by decide) rfl rfl rfl) rfl rfl hl.1 rfl (lv_room (Nat.le_of_ble_eq_true rfl)) dL_act_191 ⟨Nat.le_refl _, Nat.le_refl _⟩) hW (fun ce q9 H locs hW _ hce hcv hcl => ?_)
  refine mw_catch (hh := [(0, 302, 303, 13), (0, 302, 308, 84), (0, 302, 313, 15)]) (h9 := 303) hown htab [] ⟨0, 302, 303, 13⟩ [⟨0, 302, 308, 84⟩, ⟨0, 302, 313, 15⟩] rfl (fun z hz => by simp at hz) (by decide) (by decide) (hts (.classLink RL 13 xE1) (by decide +kernel)) (hxK.use _ (by decide +kernel)) hce hcv hcl rfl ?_
  refine lv_astore (lv' := [(6, .ref q9), (0, .ref (ad 0)), (1, .int (iI 12)), (2, .int (iI q_a)), (3, .int (iI q_b)), (4, .int (iI q_c)), (5, .int (iI q_d))]) hx hb dL_act_303 hl (by decide) rfl (fun ls hl => ?_)
  refine mk_bipush hx hb (-91) (by decide +kernel) dL_act_305 ?_
  exact mw_retI hx hb hr hlocks hW ⟨rfl, rfl⟩ dL_act_307

set_option maxHeartbeats 4000000 in
set_option maxRecDepth 100000 in
theorem c_L_act_costOf_no1 (l : Launch) (cg : Nat → ClassId) (D : va_G) (ad : Nat → Nat) (st : Nat → Nat → Int) (q_a q_b q_c q_d : Int) (hT : TX l yX5_costOf wsX5_costOf ({ frames := 8, cells := 1, slots := 6, locals := 150 }) D vwCl (TY cg) 73 (celX cg) ad st [.ref (ad 0), .int (iI q_a), .int (iI q_b)] xE1) : WI l yL_act wsL_act ({ frames := 9, cells := 1, slots := 6, locals := 180 }) D vwCl (TY cg) 73 (celX cg) ad st [.ref (ad 0), .int (iI 13), .int (iI q_a), .int (iI q_b), .int (iI q_c), .int (iI q_d)] (fun z st1 => z = -91 ∧ st1 = st) := by
  refine mw_open (cc := cL_act) (maxL := 7) (ret := (some .int)) (hh := [(0, 302, 303, 13), (0, 302, 308, 84), (0, 302, 313, 15)]) (by decide) rfl (Nat.le_of_ble_eq_true rfl) ?_
  intro p e s m args below meth c hx hb hml hr hown hts hlocks hK hN hargs ls hl hW hxK hxZ hxN htab
  have hown : s.vm.findClass RL = some m.cls := hown
  have hl : lv_has ls 7 [(0, .ref (ad 0)), (1, .int (iI 13)), (2, .int (iI q_a)), (3, .int (iI q_b)), (4, .int (iI q_c)), (5, .int (iI q_d))] := hl
  refine lv_iload_n hx hb dL_act_0 rfl (lv_at hl 1 rfl) ?_
  refine mk_if_ne (tgt := 17) hx hb dL_act_1 (by decide) (by decide) (fun _ => ?_) (fun h => absurd h (by decide))
  refine lv_iload_n hx hb dL_act_17 rfl (lv_at hl 1 rfl) ?_
  refine mk_iconst hx hb (1) dL_act_18 ?_
  refine mk_icmp_ne (tgt := 35) hx hb dL_act_19 (by decide) (by decide) (by decide) (fun _ => ?_) (fun h => absurd h (by decide))
  refine lv_iload_n hx hb dL_act_35 rfl (lv_at hl 1 rfl) ?_
  refine mk_iconst hx hb (2) dL_act_36 ?_
  refine mk_icmp_ne (tgt := 51) hx hb dL_act_37 (by decide) (by decide) (by decide) (fun _ => ?_) (fun h => absurd h (by decide))
  refine lv_iload_n hx hb dL_act_51 rfl (lv_at hl 1 rfl) ?_
  refine mk_iconst hx hb (3) dL_act_52 ?_
  refine mk_icmp_ne (tgt := 65) hx hb dL_act_53 (by decide) (by decide) (by decide) (fun _ => ?_) (fun h => absurd h (by decide))
  refine lv_iload_n hx hb dL_act_65 rfl (lv_at hl 1 rfl) ?_
  refine mk_iconst hx hb (4) dL_act_66 ?_
  refine mk_icmp_ne (tgt := 78) hx hb dL_act_67 (by decide) (by decide) (by decide) (fun _ => ?_) (fun h => absurd h (by decide))
  refine lv_iload_n hx hb dL_act_78 rfl (lv_at hl 1 rfl) ?_
  refine mk_iconst hx hb (5) dL_act_79 ?_
  refine mk_icmp_ne (tgt := 92) hx hb dL_act_80 (by decide) (by decide) (by decide) (fun _ => ?_) (fun h => absurd h (by decide))
  refine lv_iload_n hx hb dL_act_92 rfl (lv_at hl 1 rfl) ?_
  refine mk_bipush hx hb (6) (by decide +kernel) dL_act_93 ?_
  refine mk_icmp_ne (tgt := 107) hx hb dL_act_95 (by decide) (by decide) (by decide) (fun _ => ?_) (fun h => absurd h (by decide))
  refine lv_iload_n hx hb dL_act_107 rfl (lv_at hl 1 rfl) ?_
  refine mk_bipush hx hb (7) (by decide +kernel) dL_act_108 ?_
  refine mk_icmp_ne (tgt := 122) hx hb dL_act_110 (by decide) (by decide) (by decide) (fun _ => ?_) (fun h => absurd h (by decide))
  refine lv_iload_n hx hb dL_act_122 rfl (lv_at hl 1 rfl) ?_
  refine mk_bipush hx hb (8) (by decide +kernel) dL_act_123 ?_
  refine mk_icmp_ne (tgt := 137) hx hb dL_act_125 (by decide) (by decide) (by decide) (fun _ => ?_) (fun h => absurd h (by decide))
  refine lv_iload_n hx hb dL_act_137 rfl (lv_at hl 1 rfl) ?_
  refine mk_bipush hx hb (9) (by decide +kernel) dL_act_138 ?_
  refine mk_icmp_ne (tgt := 152) hx hb dL_act_140 (by decide) (by decide) (by decide) (fun _ => ?_) (fun h => absurd h (by decide))
  refine lv_iload_n hx hb dL_act_152 rfl (lv_at hl 1 rfl) ?_
  refine mk_bipush hx hb (10) (by decide +kernel) dL_act_153 ?_
  refine mk_icmp_ne (tgt := 167) hx hb dL_act_155 (by decide) (by decide) (by decide) (fun _ => ?_) (fun h => absurd h (by decide))
  refine lv_iload_n hx hb dL_act_167 rfl (lv_at hl 1 rfl) ?_
  refine mk_bipush hx hb (11) (by decide +kernel) dL_act_168 ?_
  refine mk_icmp_ne (tgt := 182) hx hb dL_act_170 (by decide) (by decide) (by decide) (fun _ => ?_) (fun h => absurd h (by decide))
  refine lv_iload_n hx hb dL_act_182 rfl (lv_at hl 1 rfl) ?_
  refine mk_bipush hx hb (12) (by decide +kernel) dL_act_183 ?_
  refine mk_icmp_ne (tgt := 197) hx hb dL_act_185 (by decide) (by decide) (by decide) (fun _ => ?_) (fun h => absurd h (by decide))
  refine lv_iload_n hx hb dL_act_197 rfl (lv_at hl 1 rfl) ?_
  refine mk_bipush hx hb (13) (by decide +kernel) dL_act_198 ?_
  refine mk_icmp_ne (tgt := 212) hx hb dL_act_200 (by decide) (by decide) (by decide) (fun h => absurd h (by decide)) (fun _ => ?_)
  refine lv_aload_n hx hb dL_act_203 rfl (lv_at hl 0 rfl) ?_
  refine lv_iload_n hx hb dL_act_204 rfl (lv_at hl 2 rfl) ?_
  refine lv_iload_n hx hb dL_act_205 rfl (lv_at hl 3 rfl) ?_
  refine mx_go (vx_runV (As := [.int (iI q_a), .int (iI q_b)]) (rest := []) ⟨hx, hb, hml, hown, hts⟩ hT (cwV 2 hts gL_act_X5_costOf rfl rfl rfl (by decide +kernel) ⟨Nat.le_of_ble_eq_true rfl, Nat.le_of_ble_eq_true rfl⟩) (mx_preV hK hN hxK hxZ hW 0 (by decide) rfl rfl rfl) rfl rfl hl.1 rfl (lv_room (Nat.le_of_ble_eq_true rfl)) dL_act_206 ⟨Nat.le_refl _, Nat.le_refl _⟩) hW (fun ce q9 H locs hW _ hce hcv hcl => ?_)
  refine mw_catch (hh := [(0, 302, 303, 13), (0, 302, 308, 84), (0, 302, 313, 15)]) (h9 := 303) hown htab [] ⟨0, 302, 303, 13⟩ [⟨0, 302, 308, 84⟩, ⟨0, 302, 313, 15⟩] rfl (fun z hz => by simp at hz) (by decide) (by decide) (hts (.classLink RL 13 xE1) (by decide +kernel)) (hxK.use _ (by decide +kernel)) hce hcv hcl rfl ?_
  refine lv_astore (lv' := [(6, .ref q9), (0, .ref (ad 0)), (1, .int (iI 13)), (2, .int (iI q_a)), (3, .int (iI q_b)), (4, .int (iI q_c)), (5, .int (iI q_d))]) hx hb dL_act_303 hl (by decide) rfl (fun ls hl => ?_)
  refine mk_bipush hx hb (-91) (by decide +kernel) dL_act_305 ?_
  exact mw_retI hx hb hr hlocks hW ⟨rfl, rfl⟩ dL_act_307

set_option maxHeartbeats 4000000 in
set_option maxRecDepth 100000 in
theorem c_L_act_proceedsOf_no1 (l : Launch) (cg : Nat → ClassId) (D : va_G) (ad : Nat → Nat) (st : Nat → Nat → Int) (q_a q_b q_c q_d : Int) (hT : TX l yX5_proceedsOf wsX5_proceedsOf ({ frames := 8, cells := 1, slots := 6, locals := 150 }) D vwCl (TY cg) 73 (celX cg) ad st [.ref (ad 0), .int (iI q_a), .int (iI q_b)] xE1) : WI l yL_act wsL_act ({ frames := 9, cells := 1, slots := 6, locals := 180 }) D vwCl (TY cg) 73 (celX cg) ad st [.ref (ad 0), .int (iI 14), .int (iI q_a), .int (iI q_b), .int (iI q_c), .int (iI q_d)] (fun z st1 => z = -91 ∧ st1 = st) := by
  refine mw_open (cc := cL_act) (maxL := 7) (ret := (some .int)) (hh := [(0, 302, 303, 13), (0, 302, 308, 84), (0, 302, 313, 15)]) (by decide) rfl (Nat.le_of_ble_eq_true rfl) ?_
  intro p e s m args below meth c hx hb hml hr hown hts hlocks hK hN hargs ls hl hW hxK hxZ hxN htab
  have hown : s.vm.findClass RL = some m.cls := hown
  have hl : lv_has ls 7 [(0, .ref (ad 0)), (1, .int (iI 14)), (2, .int (iI q_a)), (3, .int (iI q_b)), (4, .int (iI q_c)), (5, .int (iI q_d))] := hl
  refine lv_iload_n hx hb dL_act_0 rfl (lv_at hl 1 rfl) ?_
  refine mk_if_ne (tgt := 17) hx hb dL_act_1 (by decide) (by decide) (fun _ => ?_) (fun h => absurd h (by decide))
  refine lv_iload_n hx hb dL_act_17 rfl (lv_at hl 1 rfl) ?_
  refine mk_iconst hx hb (1) dL_act_18 ?_
  refine mk_icmp_ne (tgt := 35) hx hb dL_act_19 (by decide) (by decide) (by decide) (fun _ => ?_) (fun h => absurd h (by decide))
  refine lv_iload_n hx hb dL_act_35 rfl (lv_at hl 1 rfl) ?_
  refine mk_iconst hx hb (2) dL_act_36 ?_
  refine mk_icmp_ne (tgt := 51) hx hb dL_act_37 (by decide) (by decide) (by decide) (fun _ => ?_) (fun h => absurd h (by decide))
  refine lv_iload_n hx hb dL_act_51 rfl (lv_at hl 1 rfl) ?_
  refine mk_iconst hx hb (3) dL_act_52 ?_
  refine mk_icmp_ne (tgt := 65) hx hb dL_act_53 (by decide) (by decide) (by decide) (fun _ => ?_) (fun h => absurd h (by decide))
  refine lv_iload_n hx hb dL_act_65 rfl (lv_at hl 1 rfl) ?_
  refine mk_iconst hx hb (4) dL_act_66 ?_
  refine mk_icmp_ne (tgt := 78) hx hb dL_act_67 (by decide) (by decide) (by decide) (fun _ => ?_) (fun h => absurd h (by decide))
  refine lv_iload_n hx hb dL_act_78 rfl (lv_at hl 1 rfl) ?_
  refine mk_iconst hx hb (5) dL_act_79 ?_
  refine mk_icmp_ne (tgt := 92) hx hb dL_act_80 (by decide) (by decide) (by decide) (fun _ => ?_) (fun h => absurd h (by decide))
  refine lv_iload_n hx hb dL_act_92 rfl (lv_at hl 1 rfl) ?_
  refine mk_bipush hx hb (6) (by decide +kernel) dL_act_93 ?_
  refine mk_icmp_ne (tgt := 107) hx hb dL_act_95 (by decide) (by decide) (by decide) (fun _ => ?_) (fun h => absurd h (by decide))
  refine lv_iload_n hx hb dL_act_107 rfl (lv_at hl 1 rfl) ?_
  refine mk_bipush hx hb (7) (by decide +kernel) dL_act_108 ?_
  refine mk_icmp_ne (tgt := 122) hx hb dL_act_110 (by decide) (by decide) (by decide) (fun _ => ?_) (fun h => absurd h (by decide))
  refine lv_iload_n hx hb dL_act_122 rfl (lv_at hl 1 rfl) ?_
  refine mk_bipush hx hb (8) (by decide +kernel) dL_act_123 ?_
  refine mk_icmp_ne (tgt := 137) hx hb dL_act_125 (by decide) (by decide) (by decide) (fun _ => ?_) (fun h => absurd h (by decide))
  refine lv_iload_n hx hb dL_act_137 rfl (lv_at hl 1 rfl) ?_
  refine mk_bipush hx hb (9) (by decide +kernel) dL_act_138 ?_
  refine mk_icmp_ne (tgt := 152) hx hb dL_act_140 (by decide) (by decide) (by decide) (fun _ => ?_) (fun h => absurd h (by decide))
  refine lv_iload_n hx hb dL_act_152 rfl (lv_at hl 1 rfl) ?_
  refine mk_bipush hx hb (10) (by decide +kernel) dL_act_153 ?_
  refine mk_icmp_ne (tgt := 167) hx hb dL_act_155 (by decide) (by decide) (by decide) (fun _ => ?_) (fun h => absurd h (by decide))
  refine lv_iload_n hx hb dL_act_167 rfl (lv_at hl 1 rfl) ?_
  refine mk_bipush hx hb (11) (by decide +kernel) dL_act_168 ?_
  refine mk_icmp_ne (tgt := 182) hx hb dL_act_170 (by decide) (by decide) (by decide) (fun _ => ?_) (fun h => absurd h (by decide))
  refine lv_iload_n hx hb dL_act_182 rfl (lv_at hl 1 rfl) ?_
  refine mk_bipush hx hb (12) (by decide +kernel) dL_act_183 ?_
  refine mk_icmp_ne (tgt := 197) hx hb dL_act_185 (by decide) (by decide) (by decide) (fun _ => ?_) (fun h => absurd h (by decide))
  refine lv_iload_n hx hb dL_act_197 rfl (lv_at hl 1 rfl) ?_
  refine mk_bipush hx hb (13) (by decide +kernel) dL_act_198 ?_
  refine mk_icmp_ne (tgt := 212) hx hb dL_act_200 (by decide) (by decide) (by decide) (fun _ => ?_) (fun h => absurd h (by decide))
  refine lv_iload_n hx hb dL_act_212 rfl (lv_at hl 1 rfl) ?_
  refine mk_bipush hx hb (14) (by decide +kernel) dL_act_213 ?_
  refine mk_icmp_ne (tgt := 227) hx hb dL_act_215 (by decide) (by decide) (by decide) (fun h => absurd h (by decide)) (fun _ => ?_)
  refine lv_aload_n hx hb dL_act_218 rfl (lv_at hl 0 rfl) ?_
  refine lv_iload_n hx hb dL_act_219 rfl (lv_at hl 2 rfl) ?_
  refine lv_iload_n hx hb dL_act_220 rfl (lv_at hl 3 rfl) ?_
  refine mx_go (vx_runV (As := [.int (iI q_a), .int (iI q_b)]) (rest := []) ⟨hx, hb, hml, hown, hts⟩ hT (cwV 2 hts gL_act_X5_proceedsOf rfl rfl rfl (by decide +kernel) ⟨Nat.le_of_ble_eq_true rfl, Nat.le_of_ble_eq_true rfl⟩) (mx_preV hK hN hxK hxZ hW 0 (by decide) rfl rfl rfl) rfl rfl hl.1 rfl (lv_room (Nat.le_of_ble_eq_true rfl)) dL_act_221 ⟨Nat.le_refl _, Nat.le_refl _⟩) hW (fun ce q9 H locs hW _ hce hcv hcl => ?_)
  refine mw_catch (hh := [(0, 302, 303, 13), (0, 302, 308, 84), (0, 302, 313, 15)]) (h9 := 303) hown htab [] ⟨0, 302, 303, 13⟩ [⟨0, 302, 308, 84⟩, ⟨0, 302, 313, 15⟩] rfl (fun z hz => by simp at hz) (by decide) (by decide) (hts (.classLink RL 13 xE1) (by decide +kernel)) (hxK.use _ (by decide +kernel)) hce hcv hcl rfl ?_
  refine lv_astore (lv' := [(6, .ref q9), (0, .ref (ad 0)), (1, .int (iI 14)), (2, .int (iI q_a)), (3, .int (iI q_b)), (4, .int (iI q_c)), (5, .int (iI q_d))]) hx hb dL_act_303 hl (by decide) rfl (fun ls hl => ?_)
  refine mk_bipush hx hb (-91) (by decide +kernel) dL_act_305 ?_
  exact mw_retI hx hb hr hlocks hW ⟨rfl, rfl⟩ dL_act_307

set_option maxHeartbeats 4000000 in
set_option maxRecDepth 100000 in
theorem c_L_act_costIn_no1 (l : Launch) (cg : Nat → ClassId) (D : va_G) (ad : Nat → Nat) (st : Nat → Nat → Int) (q_a q_b q_c q_d : Int) (hT : TX l yX5_costIn wsX5_costIn ({ frames := 8, cells := 1, slots := 6, locals := 150 }) D vwCl (TY cg) 73 (celX cg) ad st [.ref (ad 0), .int (iI q_a)] xE1) : WI l yL_act wsL_act ({ frames := 9, cells := 1, slots := 6, locals := 180 }) D vwCl (TY cg) 73 (celX cg) ad st [.ref (ad 0), .int (iI 15), .int (iI q_a), .int (iI q_b), .int (iI q_c), .int (iI q_d)] (fun z st1 => z = -91 ∧ st1 = st) := by
  refine mw_open (cc := cL_act) (maxL := 7) (ret := (some .int)) (hh := [(0, 302, 303, 13), (0, 302, 308, 84), (0, 302, 313, 15)]) (by decide) rfl (Nat.le_of_ble_eq_true rfl) ?_
  intro p e s m args below meth c hx hb hml hr hown hts hlocks hK hN hargs ls hl hW hxK hxZ hxN htab
  have hown : s.vm.findClass RL = some m.cls := hown
  have hl : lv_has ls 7 [(0, .ref (ad 0)), (1, .int (iI 15)), (2, .int (iI q_a)), (3, .int (iI q_b)), (4, .int (iI q_c)), (5, .int (iI q_d))] := hl
  refine lv_iload_n hx hb dL_act_0 rfl (lv_at hl 1 rfl) ?_
  refine mk_if_ne (tgt := 17) hx hb dL_act_1 (by decide) (by decide) (fun _ => ?_) (fun h => absurd h (by decide))
  refine lv_iload_n hx hb dL_act_17 rfl (lv_at hl 1 rfl) ?_
  refine mk_iconst hx hb (1) dL_act_18 ?_
  refine mk_icmp_ne (tgt := 35) hx hb dL_act_19 (by decide) (by decide) (by decide) (fun _ => ?_) (fun h => absurd h (by decide))
  refine lv_iload_n hx hb dL_act_35 rfl (lv_at hl 1 rfl) ?_
  refine mk_iconst hx hb (2) dL_act_36 ?_
  refine mk_icmp_ne (tgt := 51) hx hb dL_act_37 (by decide) (by decide) (by decide) (fun _ => ?_) (fun h => absurd h (by decide))
  refine lv_iload_n hx hb dL_act_51 rfl (lv_at hl 1 rfl) ?_
  refine mk_iconst hx hb (3) dL_act_52 ?_
  refine mk_icmp_ne (tgt := 65) hx hb dL_act_53 (by decide) (by decide) (by decide) (fun _ => ?_) (fun h => absurd h (by decide))
  refine lv_iload_n hx hb dL_act_65 rfl (lv_at hl 1 rfl) ?_
  refine mk_iconst hx hb (4) dL_act_66 ?_
  refine mk_icmp_ne (tgt := 78) hx hb dL_act_67 (by decide) (by decide) (by decide) (fun _ => ?_) (fun h => absurd h (by decide))
  refine lv_iload_n hx hb dL_act_78 rfl (lv_at hl 1 rfl) ?_
  refine mk_iconst hx hb (5) dL_act_79 ?_
  refine mk_icmp_ne (tgt := 92) hx hb dL_act_80 (by decide) (by decide) (by decide) (fun _ => ?_) (fun h => absurd h (by decide))
  refine lv_iload_n hx hb dL_act_92 rfl (lv_at hl 1 rfl) ?_
  refine mk_bipush hx hb (6) (by decide +kernel) dL_act_93 ?_
  refine mk_icmp_ne (tgt := 107) hx hb dL_act_95 (by decide) (by decide) (by decide) (fun _ => ?_) (fun h => absurd h (by decide))
  refine lv_iload_n hx hb dL_act_107 rfl (lv_at hl 1 rfl) ?_
  refine mk_bipush hx hb (7) (by decide +kernel) dL_act_108 ?_
  refine mk_icmp_ne (tgt := 122) hx hb dL_act_110 (by decide) (by decide) (by decide) (fun _ => ?_) (fun h => absurd h (by decide))
  refine lv_iload_n hx hb dL_act_122 rfl (lv_at hl 1 rfl) ?_
  refine mk_bipush hx hb (8) (by decide +kernel) dL_act_123 ?_
  refine mk_icmp_ne (tgt := 137) hx hb dL_act_125 (by decide) (by decide) (by decide) (fun _ => ?_) (fun h => absurd h (by decide))
  refine lv_iload_n hx hb dL_act_137 rfl (lv_at hl 1 rfl) ?_
  refine mk_bipush hx hb (9) (by decide +kernel) dL_act_138 ?_
  refine mk_icmp_ne (tgt := 152) hx hb dL_act_140 (by decide) (by decide) (by decide) (fun _ => ?_) (fun h => absurd h (by decide))
  refine lv_iload_n hx hb dL_act_152 rfl (lv_at hl 1 rfl) ?_
  refine mk_bipush hx hb (10) (by decide +kernel) dL_act_153 ?_
  refine mk_icmp_ne (tgt := 167) hx hb dL_act_155 (by decide) (by decide) (by decide) (fun _ => ?_) (fun h => absurd h (by decide))
  refine lv_iload_n hx hb dL_act_167 rfl (lv_at hl 1 rfl) ?_
  refine mk_bipush hx hb (11) (by decide +kernel) dL_act_168 ?_
  refine mk_icmp_ne (tgt := 182) hx hb dL_act_170 (by decide) (by decide) (by decide) (fun _ => ?_) (fun h => absurd h (by decide))
  refine lv_iload_n hx hb dL_act_182 rfl (lv_at hl 1 rfl) ?_
  refine mk_bipush hx hb (12) (by decide +kernel) dL_act_183 ?_
  refine mk_icmp_ne (tgt := 197) hx hb dL_act_185 (by decide) (by decide) (by decide) (fun _ => ?_) (fun h => absurd h (by decide))
  refine lv_iload_n hx hb dL_act_197 rfl (lv_at hl 1 rfl) ?_
  refine mk_bipush hx hb (13) (by decide +kernel) dL_act_198 ?_
  refine mk_icmp_ne (tgt := 212) hx hb dL_act_200 (by decide) (by decide) (by decide) (fun _ => ?_) (fun h => absurd h (by decide))
  refine lv_iload_n hx hb dL_act_212 rfl (lv_at hl 1 rfl) ?_
  refine mk_bipush hx hb (14) (by decide +kernel) dL_act_213 ?_
  refine mk_icmp_ne (tgt := 227) hx hb dL_act_215 (by decide) (by decide) (by decide) (fun _ => ?_) (fun h => absurd h (by decide))
  refine lv_iload_n hx hb dL_act_227 rfl (lv_at hl 1 rfl) ?_
  refine mk_bipush hx hb (15) (by decide +kernel) dL_act_228 ?_
  refine mk_icmp_ne (tgt := 241) hx hb dL_act_230 (by decide) (by decide) (by decide) (fun h => absurd h (by decide)) (fun _ => ?_)
  refine lv_aload_n hx hb dL_act_233 rfl (lv_at hl 0 rfl) ?_
  refine lv_iload_n hx hb dL_act_234 rfl (lv_at hl 2 rfl) ?_
  refine mx_go (vx_runV (As := [.int (iI q_a)]) (rest := []) ⟨hx, hb, hml, hown, hts⟩ hT (cwV 1 hts gL_act_X5_costIn rfl rfl rfl (by decide +kernel) ⟨Nat.le_of_ble_eq_true rfl, Nat.le_of_ble_eq_true rfl⟩) (mx_preV hK hN hxK hxZ hW 0 (by decide) rfl rfl rfl) rfl rfl hl.1 rfl (lv_room (Nat.le_of_ble_eq_true rfl)) dL_act_235 ⟨Nat.le_refl _, Nat.le_refl _⟩) hW (fun ce q9 H locs hW _ hce hcv hcl => ?_)
  refine mw_catch (hh := [(0, 302, 303, 13), (0, 302, 308, 84), (0, 302, 313, 15)]) (h9 := 303) hown htab [] ⟨0, 302, 303, 13⟩ [⟨0, 302, 308, 84⟩, ⟨0, 302, 313, 15⟩] rfl (fun z hz => by simp at hz) (by decide) (by decide) (hts (.classLink RL 13 xE1) (by decide +kernel)) (hxK.use _ (by decide +kernel)) hce hcv hcl rfl ?_
  refine lv_astore (lv' := [(6, .ref q9), (0, .ref (ad 0)), (1, .int (iI 15)), (2, .int (iI q_a)), (3, .int (iI q_b)), (4, .int (iI q_c)), (5, .int (iI q_d))]) hx hb dL_act_303 hl (by decide) rfl (fun ls hl => ?_)
  refine mk_bipush hx hb (-91) (by decide +kernel) dL_act_305 ?_
  exact mw_retI hx hb hr hlocks hW ⟨rfl, rfl⟩ dL_act_307

set_option maxHeartbeats 4000000 in
set_option maxRecDepth 100000 in
theorem c_L_act_costMatched_no1 (l : Launch) (cg : Nat → ClassId) (D : va_G) (ad : Nat → Nat) (st : Nat → Nat → Int) (q_a q_b q_c q_d : Int) (hT : TX l yX5_costMatched wsX5_costMatched ({ frames := 8, cells := 1, slots := 6, locals := 150 }) D vwCl (TY cg) 73 (celX cg) ad st [.ref (ad 0), .int (iI q_a)] xE1) : WI l yL_act wsL_act ({ frames := 9, cells := 1, slots := 6, locals := 180 }) D vwCl (TY cg) 73 (celX cg) ad st [.ref (ad 0), .int (iI 16), .int (iI q_a), .int (iI q_b), .int (iI q_c), .int (iI q_d)] (fun z st1 => z = -91 ∧ st1 = st) := by
  refine mw_open (cc := cL_act) (maxL := 7) (ret := (some .int)) (hh := [(0, 302, 303, 13), (0, 302, 308, 84), (0, 302, 313, 15)]) (by decide) rfl (Nat.le_of_ble_eq_true rfl) ?_
  intro p e s m args below meth c hx hb hml hr hown hts hlocks hK hN hargs ls hl hW hxK hxZ hxN htab
  have hown : s.vm.findClass RL = some m.cls := hown
  have hl : lv_has ls 7 [(0, .ref (ad 0)), (1, .int (iI 16)), (2, .int (iI q_a)), (3, .int (iI q_b)), (4, .int (iI q_c)), (5, .int (iI q_d))] := hl
  refine lv_iload_n hx hb dL_act_0 rfl (lv_at hl 1 rfl) ?_
  refine mk_if_ne (tgt := 17) hx hb dL_act_1 (by decide) (by decide) (fun _ => ?_) (fun h => absurd h (by decide))
  refine lv_iload_n hx hb dL_act_17 rfl (lv_at hl 1 rfl) ?_
  refine mk_iconst hx hb (1) dL_act_18 ?_
  refine mk_icmp_ne (tgt := 35) hx hb dL_act_19 (by decide) (by decide) (by decide) (fun _ => ?_) (fun h => absurd h (by decide))
  refine lv_iload_n hx hb dL_act_35 rfl (lv_at hl 1 rfl) ?_
  refine mk_iconst hx hb (2) dL_act_36 ?_
  refine mk_icmp_ne (tgt := 51) hx hb dL_act_37 (by decide) (by decide) (by decide) (fun _ => ?_) (fun h => absurd h (by decide))
  refine lv_iload_n hx hb dL_act_51 rfl (lv_at hl 1 rfl) ?_
  refine mk_iconst hx hb (3) dL_act_52 ?_
  refine mk_icmp_ne (tgt := 65) hx hb dL_act_53 (by decide) (by decide) (by decide) (fun _ => ?_) (fun h => absurd h (by decide))
  refine lv_iload_n hx hb dL_act_65 rfl (lv_at hl 1 rfl) ?_
  refine mk_iconst hx hb (4) dL_act_66 ?_
  refine mk_icmp_ne (tgt := 78) hx hb dL_act_67 (by decide) (by decide) (by decide) (fun _ => ?_) (fun h => absurd h (by decide))
  refine lv_iload_n hx hb dL_act_78 rfl (lv_at hl 1 rfl) ?_
  refine mk_iconst hx hb (5) dL_act_79 ?_
  refine mk_icmp_ne (tgt := 92) hx hb dL_act_80 (by decide) (by decide) (by decide) (fun _ => ?_) (fun h => absurd h (by decide))
  refine lv_iload_n hx hb dL_act_92 rfl (lv_at hl 1 rfl) ?_
  refine mk_bipush hx hb (6) (by decide +kernel) dL_act_93 ?_
  refine mk_icmp_ne (tgt := 107) hx hb dL_act_95 (by decide) (by decide) (by decide) (fun _ => ?_) (fun h => absurd h (by decide))
  refine lv_iload_n hx hb dL_act_107 rfl (lv_at hl 1 rfl) ?_
  refine mk_bipush hx hb (7) (by decide +kernel) dL_act_108 ?_
  refine mk_icmp_ne (tgt := 122) hx hb dL_act_110 (by decide) (by decide) (by decide) (fun _ => ?_) (fun h => absurd h (by decide))
  refine lv_iload_n hx hb dL_act_122 rfl (lv_at hl 1 rfl) ?_
  refine mk_bipush hx hb (8) (by decide +kernel) dL_act_123 ?_
  refine mk_icmp_ne (tgt := 137) hx hb dL_act_125 (by decide) (by decide) (by decide) (fun _ => ?_) (fun h => absurd h (by decide))
  refine lv_iload_n hx hb dL_act_137 rfl (lv_at hl 1 rfl) ?_
  refine mk_bipush hx hb (9) (by decide +kernel) dL_act_138 ?_
  refine mk_icmp_ne (tgt := 152) hx hb dL_act_140 (by decide) (by decide) (by decide) (fun _ => ?_) (fun h => absurd h (by decide))
  refine lv_iload_n hx hb dL_act_152 rfl (lv_at hl 1 rfl) ?_
  refine mk_bipush hx hb (10) (by decide +kernel) dL_act_153 ?_
  refine mk_icmp_ne (tgt := 167) hx hb dL_act_155 (by decide) (by decide) (by decide) (fun _ => ?_) (fun h => absurd h (by decide))
  refine lv_iload_n hx hb dL_act_167 rfl (lv_at hl 1 rfl) ?_
  refine mk_bipush hx hb (11) (by decide +kernel) dL_act_168 ?_
  refine mk_icmp_ne (tgt := 182) hx hb dL_act_170 (by decide) (by decide) (by decide) (fun _ => ?_) (fun h => absurd h (by decide))
  refine lv_iload_n hx hb dL_act_182 rfl (lv_at hl 1 rfl) ?_
  refine mk_bipush hx hb (12) (by decide +kernel) dL_act_183 ?_
  refine mk_icmp_ne (tgt := 197) hx hb dL_act_185 (by decide) (by decide) (by decide) (fun _ => ?_) (fun h => absurd h (by decide))
  refine lv_iload_n hx hb dL_act_197 rfl (lv_at hl 1 rfl) ?_
  refine mk_bipush hx hb (13) (by decide +kernel) dL_act_198 ?_
  refine mk_icmp_ne (tgt := 212) hx hb dL_act_200 (by decide) (by decide) (by decide) (fun _ => ?_) (fun h => absurd h (by decide))
  refine lv_iload_n hx hb dL_act_212 rfl (lv_at hl 1 rfl) ?_
  refine mk_bipush hx hb (14) (by decide +kernel) dL_act_213 ?_
  refine mk_icmp_ne (tgt := 227) hx hb dL_act_215 (by decide) (by decide) (by decide) (fun _ => ?_) (fun h => absurd h (by decide))
  refine lv_iload_n hx hb dL_act_227 rfl (lv_at hl 1 rfl) ?_
  refine mk_bipush hx hb (15) (by decide +kernel) dL_act_228 ?_
  refine mk_icmp_ne (tgt := 241) hx hb dL_act_230 (by decide) (by decide) (by decide) (fun _ => ?_) (fun h => absurd h (by decide))
  refine lv_iload_n hx hb dL_act_241 rfl (lv_at hl 1 rfl) ?_
  refine mk_bipush hx hb (16) (by decide +kernel) dL_act_242 ?_
  refine mk_icmp_ne (tgt := 255) hx hb dL_act_244 (by decide) (by decide) (by decide) (fun h => absurd h (by decide)) (fun _ => ?_)
  refine lv_aload_n hx hb dL_act_247 rfl (lv_at hl 0 rfl) ?_
  refine lv_iload_n hx hb dL_act_248 rfl (lv_at hl 2 rfl) ?_
  refine mx_go (vx_runV (As := [.int (iI q_a)]) (rest := []) ⟨hx, hb, hml, hown, hts⟩ hT (cwV 1 hts gL_act_X5_costMatched rfl rfl rfl (by decide +kernel) ⟨Nat.le_of_ble_eq_true rfl, Nat.le_of_ble_eq_true rfl⟩) (mx_preV hK hN hxK hxZ hW 0 (by decide) rfl rfl rfl) rfl rfl hl.1 rfl (lv_room (Nat.le_of_ble_eq_true rfl)) dL_act_249 ⟨Nat.le_refl _, Nat.le_refl _⟩) hW (fun ce q9 H locs hW _ hce hcv hcl => ?_)
  refine mw_catch (hh := [(0, 302, 303, 13), (0, 302, 308, 84), (0, 302, 313, 15)]) (h9 := 303) hown htab [] ⟨0, 302, 303, 13⟩ [⟨0, 302, 308, 84⟩, ⟨0, 302, 313, 15⟩] rfl (fun z hz => by simp at hz) (by decide) (by decide) (hts (.classLink RL 13 xE1) (by decide +kernel)) (hxK.use _ (by decide +kernel)) hce hcv hcl rfl ?_
  refine lv_astore (lv' := [(6, .ref q9), (0, .ref (ad 0)), (1, .int (iI 16)), (2, .int (iI q_a)), (3, .int (iI q_b)), (4, .int (iI q_c)), (5, .int (iI q_d))]) hx hb dL_act_303 hl (by decide) rfl (fun ls hl => ?_)
  refine mk_bipush hx hb (-91) (by decide +kernel) dL_act_305 ?_
  exact mw_retI hx hb hr hlocks hW ⟨rfl, rfl⟩ dL_act_307

set_option maxHeartbeats 4000000 in
set_option maxRecDepth 100000 in
theorem c_L_act_matches_no1 (l : Launch) (cg : Nat → ClassId) (D : va_G) (ad : Nat → Nat) (st : Nat → Nat → Int) (q_a q_b q_c q_d : Int) (hT : TX l yX5_matches wsX5_matches ({ frames := 8, cells := 1, slots := 6, locals := 150 }) D vwCl (TY cg) 73 (celX cg) ad st [.ref (ad 0), .int (iI q_a)] xE1) : WI l yL_act wsL_act ({ frames := 9, cells := 1, slots := 6, locals := 180 }) D vwCl (TY cg) 73 (celX cg) ad st [.ref (ad 0), .int (iI 17), .int (iI q_a), .int (iI q_b), .int (iI q_c), .int (iI q_d)] (fun z st1 => z = -91 ∧ st1 = st) := by
  refine mw_open (cc := cL_act) (maxL := 7) (ret := (some .int)) (hh := [(0, 302, 303, 13), (0, 302, 308, 84), (0, 302, 313, 15)]) (by decide) rfl (Nat.le_of_ble_eq_true rfl) ?_
  intro p e s m args below meth c hx hb hml hr hown hts hlocks hK hN hargs ls hl hW hxK hxZ hxN htab
  have hown : s.vm.findClass RL = some m.cls := hown
  have hl : lv_has ls 7 [(0, .ref (ad 0)), (1, .int (iI 17)), (2, .int (iI q_a)), (3, .int (iI q_b)), (4, .int (iI q_c)), (5, .int (iI q_d))] := hl
  refine lv_iload_n hx hb dL_act_0 rfl (lv_at hl 1 rfl) ?_
  refine mk_if_ne (tgt := 17) hx hb dL_act_1 (by decide) (by decide) (fun _ => ?_) (fun h => absurd h (by decide))
  refine lv_iload_n hx hb dL_act_17 rfl (lv_at hl 1 rfl) ?_
  refine mk_iconst hx hb (1) dL_act_18 ?_
  refine mk_icmp_ne (tgt := 35) hx hb dL_act_19 (by decide) (by decide) (by decide) (fun _ => ?_) (fun h => absurd h (by decide))
  refine lv_iload_n hx hb dL_act_35 rfl (lv_at hl 1 rfl) ?_
  refine mk_iconst hx hb (2) dL_act_36 ?_
  refine mk_icmp_ne (tgt := 51) hx hb dL_act_37 (by decide) (by decide) (by decide) (fun _ => ?_) (fun h => absurd h (by decide))
  refine lv_iload_n hx hb dL_act_51 rfl (lv_at hl 1 rfl) ?_
  refine mk_iconst hx hb (3) dL_act_52 ?_
  refine mk_icmp_ne (tgt := 65) hx hb dL_act_53 (by decide) (by decide) (by decide) (fun _ => ?_) (fun h => absurd h (by decide))
  refine lv_iload_n hx hb dL_act_65 rfl (lv_at hl 1 rfl) ?_
  refine mk_iconst hx hb (4) dL_act_66 ?_
  refine mk_icmp_ne (tgt := 78) hx hb dL_act_67 (by decide) (by decide) (by decide) (fun _ => ?_) (fun h => absurd h (by decide))
  refine lv_iload_n hx hb dL_act_78 rfl (lv_at hl 1 rfl) ?_
  refine mk_iconst hx hb (5) dL_act_79 ?_
  refine mk_icmp_ne (tgt := 92) hx hb dL_act_80 (by decide) (by decide) (by decide) (fun _ => ?_) (fun h => absurd h (by decide))
  refine lv_iload_n hx hb dL_act_92 rfl (lv_at hl 1 rfl) ?_
  refine mk_bipush hx hb (6) (by decide +kernel) dL_act_93 ?_
  refine mk_icmp_ne (tgt := 107) hx hb dL_act_95 (by decide) (by decide) (by decide) (fun _ => ?_) (fun h => absurd h (by decide))
  refine lv_iload_n hx hb dL_act_107 rfl (lv_at hl 1 rfl) ?_
  refine mk_bipush hx hb (7) (by decide +kernel) dL_act_108 ?_
  refine mk_icmp_ne (tgt := 122) hx hb dL_act_110 (by decide) (by decide) (by decide) (fun _ => ?_) (fun h => absurd h (by decide))
  refine lv_iload_n hx hb dL_act_122 rfl (lv_at hl 1 rfl) ?_
  refine mk_bipush hx hb (8) (by decide +kernel) dL_act_123 ?_
  refine mk_icmp_ne (tgt := 137) hx hb dL_act_125 (by decide) (by decide) (by decide) (fun _ => ?_) (fun h => absurd h (by decide))
  refine lv_iload_n hx hb dL_act_137 rfl (lv_at hl 1 rfl) ?_
  refine mk_bipush hx hb (9) (by decide +kernel) dL_act_138 ?_
  refine mk_icmp_ne (tgt := 152) hx hb dL_act_140 (by decide) (by decide) (by decide) (fun _ => ?_) (fun h => absurd h (by decide))
  refine lv_iload_n hx hb dL_act_152 rfl (lv_at hl 1 rfl) ?_
  refine mk_bipush hx hb (10) (by decide +kernel) dL_act_153 ?_
  refine mk_icmp_ne (tgt := 167) hx hb dL_act_155 (by decide) (by decide) (by decide) (fun _ => ?_) (fun h => absurd h (by decide))
  refine lv_iload_n hx hb dL_act_167 rfl (lv_at hl 1 rfl) ?_
  refine mk_bipush hx hb (11) (by decide +kernel) dL_act_168 ?_
  refine mk_icmp_ne (tgt := 182) hx hb dL_act_170 (by decide) (by decide) (by decide) (fun _ => ?_) (fun h => absurd h (by decide))
  refine lv_iload_n hx hb dL_act_182 rfl (lv_at hl 1 rfl) ?_
  refine mk_bipush hx hb (12) (by decide +kernel) dL_act_183 ?_
  refine mk_icmp_ne (tgt := 197) hx hb dL_act_185 (by decide) (by decide) (by decide) (fun _ => ?_) (fun h => absurd h (by decide))
  refine lv_iload_n hx hb dL_act_197 rfl (lv_at hl 1 rfl) ?_
  refine mk_bipush hx hb (13) (by decide +kernel) dL_act_198 ?_
  refine mk_icmp_ne (tgt := 212) hx hb dL_act_200 (by decide) (by decide) (by decide) (fun _ => ?_) (fun h => absurd h (by decide))
  refine lv_iload_n hx hb dL_act_212 rfl (lv_at hl 1 rfl) ?_
  refine mk_bipush hx hb (14) (by decide +kernel) dL_act_213 ?_
  refine mk_icmp_ne (tgt := 227) hx hb dL_act_215 (by decide) (by decide) (by decide) (fun _ => ?_) (fun h => absurd h (by decide))
  refine lv_iload_n hx hb dL_act_227 rfl (lv_at hl 1 rfl) ?_
  refine mk_bipush hx hb (15) (by decide +kernel) dL_act_228 ?_
  refine mk_icmp_ne (tgt := 241) hx hb dL_act_230 (by decide) (by decide) (by decide) (fun _ => ?_) (fun h => absurd h (by decide))
  refine lv_iload_n hx hb dL_act_241 rfl (lv_at hl 1 rfl) ?_
  refine mk_bipush hx hb (16) (by decide +kernel) dL_act_242 ?_
  refine mk_icmp_ne (tgt := 255) hx hb dL_act_244 (by decide) (by decide) (by decide) (fun _ => ?_) (fun h => absurd h (by decide))
  refine lv_iload_n hx hb dL_act_255 rfl (lv_at hl 1 rfl) ?_
  refine mk_bipush hx hb (17) (by decide +kernel) dL_act_256 ?_
  refine mk_icmp_ne (tgt := 269) hx hb dL_act_258 (by decide) (by decide) (by decide) (fun h => absurd h (by decide)) (fun _ => ?_)
  refine lv_aload_n hx hb dL_act_261 rfl (lv_at hl 0 rfl) ?_
  refine lv_iload_n hx hb dL_act_262 rfl (lv_at hl 2 rfl) ?_
  refine mx_go (vx_runV (As := [.int (iI q_a)]) (rest := []) ⟨hx, hb, hml, hown, hts⟩ hT (cwV 1 hts gL_act_X5_matches rfl rfl rfl (by decide +kernel) ⟨Nat.le_of_ble_eq_true rfl, Nat.le_of_ble_eq_true rfl⟩) (mx_preV hK hN hxK hxZ hW 0 (by decide) rfl rfl rfl) rfl rfl hl.1 rfl (lv_room (Nat.le_of_ble_eq_true rfl)) dL_act_263 ⟨Nat.le_refl _, Nat.le_refl _⟩) hW (fun ce q9 H locs hW _ hce hcv hcl => ?_)
  refine mw_catch (hh := [(0, 302, 303, 13), (0, 302, 308, 84), (0, 302, 313, 15)]) (h9 := 303) hown htab [] ⟨0, 302, 303, 13⟩ [⟨0, 302, 308, 84⟩, ⟨0, 302, 313, 15⟩] rfl (fun z hz => by simp at hz) (by decide) (by decide) (hts (.classLink RL 13 xE1) (by decide +kernel)) (hxK.use _ (by decide +kernel)) hce hcv hcl rfl ?_
  refine lv_astore (lv' := [(6, .ref q9), (0, .ref (ad 0)), (1, .int (iI 17)), (2, .int (iI q_a)), (3, .int (iI q_b)), (4, .int (iI q_c)), (5, .int (iI q_d))]) hx hb dL_act_303 hl (by decide) rfl (fun ls hl => ?_)
  refine mk_bipush hx hb (-91) (by decide +kernel) dL_act_305 ?_
  exact mw_retI hx hb hr hlocks hW ⟨rfl, rfl⟩ dL_act_307

set_option maxHeartbeats 4000000 in
set_option maxRecDepth 100000 in
theorem c_L_act_net_no1 (l : Launch) (cg : Nat → ClassId) (D : va_G) (ad : Nat → Nat) (st : Nat → Nat → Int) (q_a q_b q_c q_d : Int) (hT : TX l yX5_net wsX5_net ({ frames := 8, cells := 1, slots := 6, locals := 150 }) D vwCl (TY cg) 73 (celX cg) ad st [.ref (ad 0), .int (iI q_a)] xE1) : WI l yL_act wsL_act ({ frames := 9, cells := 1, slots := 6, locals := 180 }) D vwCl (TY cg) 73 (celX cg) ad st [.ref (ad 0), .int (iI 18), .int (iI q_a), .int (iI q_b), .int (iI q_c), .int (iI q_d)] (fun z st1 => z = -91 ∧ st1 = st) := by
  refine mw_open (cc := cL_act) (maxL := 7) (ret := (some .int)) (hh := [(0, 302, 303, 13), (0, 302, 308, 84), (0, 302, 313, 15)]) (by decide) rfl (Nat.le_of_ble_eq_true rfl) ?_
  intro p e s m args below meth c hx hb hml hr hown hts hlocks hK hN hargs ls hl hW hxK hxZ hxN htab
  have hown : s.vm.findClass RL = some m.cls := hown
  have hl : lv_has ls 7 [(0, .ref (ad 0)), (1, .int (iI 18)), (2, .int (iI q_a)), (3, .int (iI q_b)), (4, .int (iI q_c)), (5, .int (iI q_d))] := hl
  refine lv_iload_n hx hb dL_act_0 rfl (lv_at hl 1 rfl) ?_
  refine mk_if_ne (tgt := 17) hx hb dL_act_1 (by decide) (by decide) (fun _ => ?_) (fun h => absurd h (by decide))
  refine lv_iload_n hx hb dL_act_17 rfl (lv_at hl 1 rfl) ?_
  refine mk_iconst hx hb (1) dL_act_18 ?_
  refine mk_icmp_ne (tgt := 35) hx hb dL_act_19 (by decide) (by decide) (by decide) (fun _ => ?_) (fun h => absurd h (by decide))
  refine lv_iload_n hx hb dL_act_35 rfl (lv_at hl 1 rfl) ?_
  refine mk_iconst hx hb (2) dL_act_36 ?_
  refine mk_icmp_ne (tgt := 51) hx hb dL_act_37 (by decide) (by decide) (by decide) (fun _ => ?_) (fun h => absurd h (by decide))
  refine lv_iload_n hx hb dL_act_51 rfl (lv_at hl 1 rfl) ?_
  refine mk_iconst hx hb (3) dL_act_52 ?_
  refine mk_icmp_ne (tgt := 65) hx hb dL_act_53 (by decide) (by decide) (by decide) (fun _ => ?_) (fun h => absurd h (by decide))
  refine lv_iload_n hx hb dL_act_65 rfl (lv_at hl 1 rfl) ?_
  refine mk_iconst hx hb (4) dL_act_66 ?_
  refine mk_icmp_ne (tgt := 78) hx hb dL_act_67 (by decide) (by decide) (by decide) (fun _ => ?_) (fun h => absurd h (by decide))
  refine lv_iload_n hx hb dL_act_78 rfl (lv_at hl 1 rfl) ?_
  refine mk_iconst hx hb (5) dL_act_79 ?_
  refine mk_icmp_ne (tgt := 92) hx hb dL_act_80 (by decide) (by decide) (by decide) (fun _ => ?_) (fun h => absurd h (by decide))
  refine lv_iload_n hx hb dL_act_92 rfl (lv_at hl 1 rfl) ?_
  refine mk_bipush hx hb (6) (by decide +kernel) dL_act_93 ?_
  refine mk_icmp_ne (tgt := 107) hx hb dL_act_95 (by decide) (by decide) (by decide) (fun _ => ?_) (fun h => absurd h (by decide))
  refine lv_iload_n hx hb dL_act_107 rfl (lv_at hl 1 rfl) ?_
  refine mk_bipush hx hb (7) (by decide +kernel) dL_act_108 ?_
  refine mk_icmp_ne (tgt := 122) hx hb dL_act_110 (by decide) (by decide) (by decide) (fun _ => ?_) (fun h => absurd h (by decide))
  refine lv_iload_n hx hb dL_act_122 rfl (lv_at hl 1 rfl) ?_
  refine mk_bipush hx hb (8) (by decide +kernel) dL_act_123 ?_
  refine mk_icmp_ne (tgt := 137) hx hb dL_act_125 (by decide) (by decide) (by decide) (fun _ => ?_) (fun h => absurd h (by decide))
  refine lv_iload_n hx hb dL_act_137 rfl (lv_at hl 1 rfl) ?_
  refine mk_bipush hx hb (9) (by decide +kernel) dL_act_138 ?_
  refine mk_icmp_ne (tgt := 152) hx hb dL_act_140 (by decide) (by decide) (by decide) (fun _ => ?_) (fun h => absurd h (by decide))
  refine lv_iload_n hx hb dL_act_152 rfl (lv_at hl 1 rfl) ?_
  refine mk_bipush hx hb (10) (by decide +kernel) dL_act_153 ?_
  refine mk_icmp_ne (tgt := 167) hx hb dL_act_155 (by decide) (by decide) (by decide) (fun _ => ?_) (fun h => absurd h (by decide))
  refine lv_iload_n hx hb dL_act_167 rfl (lv_at hl 1 rfl) ?_
  refine mk_bipush hx hb (11) (by decide +kernel) dL_act_168 ?_
  refine mk_icmp_ne (tgt := 182) hx hb dL_act_170 (by decide) (by decide) (by decide) (fun _ => ?_) (fun h => absurd h (by decide))
  refine lv_iload_n hx hb dL_act_182 rfl (lv_at hl 1 rfl) ?_
  refine mk_bipush hx hb (12) (by decide +kernel) dL_act_183 ?_
  refine mk_icmp_ne (tgt := 197) hx hb dL_act_185 (by decide) (by decide) (by decide) (fun _ => ?_) (fun h => absurd h (by decide))
  refine lv_iload_n hx hb dL_act_197 rfl (lv_at hl 1 rfl) ?_
  refine mk_bipush hx hb (13) (by decide +kernel) dL_act_198 ?_
  refine mk_icmp_ne (tgt := 212) hx hb dL_act_200 (by decide) (by decide) (by decide) (fun _ => ?_) (fun h => absurd h (by decide))
  refine lv_iload_n hx hb dL_act_212 rfl (lv_at hl 1 rfl) ?_
  refine mk_bipush hx hb (14) (by decide +kernel) dL_act_213 ?_
  refine mk_icmp_ne (tgt := 227) hx hb dL_act_215 (by decide) (by decide) (by decide) (fun _ => ?_) (fun h => absurd h (by decide))
  refine lv_iload_n hx hb dL_act_227 rfl (lv_at hl 1 rfl) ?_
  refine mk_bipush hx hb (15) (by decide +kernel) dL_act_228 ?_
  refine mk_icmp_ne (tgt := 241) hx hb dL_act_230 (by decide) (by decide) (by decide) (fun _ => ?_) (fun h => absurd h (by decide))
  refine lv_iload_n hx hb dL_act_241 rfl (lv_at hl 1 rfl) ?_
  refine mk_bipush hx hb (16) (by decide +kernel) dL_act_242 ?_
  refine mk_icmp_ne (tgt := 255) hx hb dL_act_244 (by decide) (by decide) (by decide) (fun _ => ?_) (fun h => absurd h (by decide))
  refine lv_iload_n hx hb dL_act_255 rfl (lv_at hl 1 rfl) ?_
  refine mk_bipush hx hb (17) (by decide +kernel) dL_act_256 ?_
  refine mk_icmp_ne (tgt := 269) hx hb dL_act_258 (by decide) (by decide) (by decide) (fun _ => ?_) (fun h => absurd h (by decide))
  refine lv_iload_n hx hb dL_act_269 rfl (lv_at hl 1 rfl) ?_
  refine mk_bipush hx hb (18) (by decide +kernel) dL_act_270 ?_
  refine mk_icmp_ne (tgt := 283) hx hb dL_act_272 (by decide) (by decide) (by decide) (fun h => absurd h (by decide)) (fun _ => ?_)
  refine lv_aload_n hx hb dL_act_275 rfl (lv_at hl 0 rfl) ?_
  refine lv_iload_n hx hb dL_act_276 rfl (lv_at hl 2 rfl) ?_
  refine mx_go (vx_runV (As := [.int (iI q_a)]) (rest := []) ⟨hx, hb, hml, hown, hts⟩ hT (cwV 1 hts gL_act_X5_net rfl rfl rfl (by decide +kernel) ⟨Nat.le_of_ble_eq_true rfl, Nat.le_of_ble_eq_true rfl⟩) (mx_preV hK hN hxK hxZ hW 0 (by decide) rfl rfl rfl) rfl rfl hl.1 rfl (lv_room (Nat.le_of_ble_eq_true rfl)) dL_act_277 ⟨Nat.le_refl _, Nat.le_refl _⟩) hW (fun ce q9 H locs hW _ hce hcv hcl => ?_)
  refine mw_catch (hh := [(0, 302, 303, 13), (0, 302, 308, 84), (0, 302, 313, 15)]) (h9 := 303) hown htab [] ⟨0, 302, 303, 13⟩ [⟨0, 302, 308, 84⟩, ⟨0, 302, 313, 15⟩] rfl (fun z hz => by simp at hz) (by decide) (by decide) (hts (.classLink RL 13 xE1) (by decide +kernel)) (hxK.use _ (by decide +kernel)) hce hcv hcl rfl ?_
  refine lv_astore (lv' := [(6, .ref q9), (0, .ref (ad 0)), (1, .int (iI 18)), (2, .int (iI q_a)), (3, .int (iI q_b)), (4, .int (iI q_c)), (5, .int (iI q_d))]) hx hb dL_act_303 hl (by decide) rfl (fun ls hl => ?_)
  refine mk_bipush hx hb (-91) (by decide +kernel) dL_act_305 ?_
  exact mw_retI hx hb hr hlocks hW ⟨rfl, rfl⟩ dL_act_307

set_option maxHeartbeats 4000000 in
set_option maxRecDepth 100000 in
theorem c_L_act_carried_no1 (l : Launch) (cg : Nat → ClassId) (D : va_G) (ad : Nat → Nat) (st : Nat → Nat → Int) (q_a q_b q_c q_d : Int) (hT : TX l yX5_carried wsX5_carried ({ frames := 8, cells := 1, slots := 6, locals := 150 }) D vwCl (TY cg) 73 (celX cg) ad st [.ref (ad 0), .int (iI q_a)] xE1) : WI l yL_act wsL_act ({ frames := 9, cells := 1, slots := 6, locals := 180 }) D vwCl (TY cg) 73 (celX cg) ad st [.ref (ad 0), .int (iI 19), .int (iI q_a), .int (iI q_b), .int (iI q_c), .int (iI q_d)] (fun z st1 => z = -91 ∧ st1 = st) := by
  refine mw_open (cc := cL_act) (maxL := 7) (ret := (some .int)) (hh := [(0, 302, 303, 13), (0, 302, 308, 84), (0, 302, 313, 15)]) (by decide) rfl (Nat.le_of_ble_eq_true rfl) ?_
  intro p e s m args below meth c hx hb hml hr hown hts hlocks hK hN hargs ls hl hW hxK hxZ hxN htab
  have hown : s.vm.findClass RL = some m.cls := hown
  have hl : lv_has ls 7 [(0, .ref (ad 0)), (1, .int (iI 19)), (2, .int (iI q_a)), (3, .int (iI q_b)), (4, .int (iI q_c)), (5, .int (iI q_d))] := hl
  refine lv_iload_n hx hb dL_act_0 rfl (lv_at hl 1 rfl) ?_
  refine mk_if_ne (tgt := 17) hx hb dL_act_1 (by decide) (by decide) (fun _ => ?_) (fun h => absurd h (by decide))
  refine lv_iload_n hx hb dL_act_17 rfl (lv_at hl 1 rfl) ?_
  refine mk_iconst hx hb (1) dL_act_18 ?_
  refine mk_icmp_ne (tgt := 35) hx hb dL_act_19 (by decide) (by decide) (by decide) (fun _ => ?_) (fun h => absurd h (by decide))
  refine lv_iload_n hx hb dL_act_35 rfl (lv_at hl 1 rfl) ?_
  refine mk_iconst hx hb (2) dL_act_36 ?_
  refine mk_icmp_ne (tgt := 51) hx hb dL_act_37 (by decide) (by decide) (by decide) (fun _ => ?_) (fun h => absurd h (by decide))
  refine lv_iload_n hx hb dL_act_51 rfl (lv_at hl 1 rfl) ?_
  refine mk_iconst hx hb (3) dL_act_52 ?_
  refine mk_icmp_ne (tgt := 65) hx hb dL_act_53 (by decide) (by decide) (by decide) (fun _ => ?_) (fun h => absurd h (by decide))
  refine lv_iload_n hx hb dL_act_65 rfl (lv_at hl 1 rfl) ?_
  refine mk_iconst hx hb (4) dL_act_66 ?_
  refine mk_icmp_ne (tgt := 78) hx hb dL_act_67 (by decide) (by decide) (by decide) (fun _ => ?_) (fun h => absurd h (by decide))
  refine lv_iload_n hx hb dL_act_78 rfl (lv_at hl 1 rfl) ?_
  refine mk_iconst hx hb (5) dL_act_79 ?_
  refine mk_icmp_ne (tgt := 92) hx hb dL_act_80 (by decide) (by decide) (by decide) (fun _ => ?_) (fun h => absurd h (by decide))
  refine lv_iload_n hx hb dL_act_92 rfl (lv_at hl 1 rfl) ?_
  refine mk_bipush hx hb (6) (by decide +kernel) dL_act_93 ?_
  refine mk_icmp_ne (tgt := 107) hx hb dL_act_95 (by decide) (by decide) (by decide) (fun _ => ?_) (fun h => absurd h (by decide))
  refine lv_iload_n hx hb dL_act_107 rfl (lv_at hl 1 rfl) ?_
  refine mk_bipush hx hb (7) (by decide +kernel) dL_act_108 ?_
  refine mk_icmp_ne (tgt := 122) hx hb dL_act_110 (by decide) (by decide) (by decide) (fun _ => ?_) (fun h => absurd h (by decide))
  refine lv_iload_n hx hb dL_act_122 rfl (lv_at hl 1 rfl) ?_
  refine mk_bipush hx hb (8) (by decide +kernel) dL_act_123 ?_
  refine mk_icmp_ne (tgt := 137) hx hb dL_act_125 (by decide) (by decide) (by decide) (fun _ => ?_) (fun h => absurd h (by decide))
  refine lv_iload_n hx hb dL_act_137 rfl (lv_at hl 1 rfl) ?_
  refine mk_bipush hx hb (9) (by decide +kernel) dL_act_138 ?_
  refine mk_icmp_ne (tgt := 152) hx hb dL_act_140 (by decide) (by decide) (by decide) (fun _ => ?_) (fun h => absurd h (by decide))
  refine lv_iload_n hx hb dL_act_152 rfl (lv_at hl 1 rfl) ?_
  refine mk_bipush hx hb (10) (by decide +kernel) dL_act_153 ?_
  refine mk_icmp_ne (tgt := 167) hx hb dL_act_155 (by decide) (by decide) (by decide) (fun _ => ?_) (fun h => absurd h (by decide))
  refine lv_iload_n hx hb dL_act_167 rfl (lv_at hl 1 rfl) ?_
  refine mk_bipush hx hb (11) (by decide +kernel) dL_act_168 ?_
  refine mk_icmp_ne (tgt := 182) hx hb dL_act_170 (by decide) (by decide) (by decide) (fun _ => ?_) (fun h => absurd h (by decide))
  refine lv_iload_n hx hb dL_act_182 rfl (lv_at hl 1 rfl) ?_
  refine mk_bipush hx hb (12) (by decide +kernel) dL_act_183 ?_
  refine mk_icmp_ne (tgt := 197) hx hb dL_act_185 (by decide) (by decide) (by decide) (fun _ => ?_) (fun h => absurd h (by decide))
  refine lv_iload_n hx hb dL_act_197 rfl (lv_at hl 1 rfl) ?_
  refine mk_bipush hx hb (13) (by decide +kernel) dL_act_198 ?_
  refine mk_icmp_ne (tgt := 212) hx hb dL_act_200 (by decide) (by decide) (by decide) (fun _ => ?_) (fun h => absurd h (by decide))
  refine lv_iload_n hx hb dL_act_212 rfl (lv_at hl 1 rfl) ?_
  refine mk_bipush hx hb (14) (by decide +kernel) dL_act_213 ?_
  refine mk_icmp_ne (tgt := 227) hx hb dL_act_215 (by decide) (by decide) (by decide) (fun _ => ?_) (fun h => absurd h (by decide))
  refine lv_iload_n hx hb dL_act_227 rfl (lv_at hl 1 rfl) ?_
  refine mk_bipush hx hb (15) (by decide +kernel) dL_act_228 ?_
  refine mk_icmp_ne (tgt := 241) hx hb dL_act_230 (by decide) (by decide) (by decide) (fun _ => ?_) (fun h => absurd h (by decide))
  refine lv_iload_n hx hb dL_act_241 rfl (lv_at hl 1 rfl) ?_
  refine mk_bipush hx hb (16) (by decide +kernel) dL_act_242 ?_
  refine mk_icmp_ne (tgt := 255) hx hb dL_act_244 (by decide) (by decide) (by decide) (fun _ => ?_) (fun h => absurd h (by decide))
  refine lv_iload_n hx hb dL_act_255 rfl (lv_at hl 1 rfl) ?_
  refine mk_bipush hx hb (17) (by decide +kernel) dL_act_256 ?_
  refine mk_icmp_ne (tgt := 269) hx hb dL_act_258 (by decide) (by decide) (by decide) (fun _ => ?_) (fun h => absurd h (by decide))
  refine lv_iload_n hx hb dL_act_269 rfl (lv_at hl 1 rfl) ?_
  refine mk_bipush hx hb (18) (by decide +kernel) dL_act_270 ?_
  refine mk_icmp_ne (tgt := 283) hx hb dL_act_272 (by decide) (by decide) (by decide) (fun _ => ?_) (fun h => absurd h (by decide))
  refine lv_iload_n hx hb dL_act_283 rfl (lv_at hl 1 rfl) ?_
  refine mk_bipush hx hb (19) (by decide +kernel) dL_act_284 ?_
  refine mk_icmp_ne (tgt := 297) hx hb dL_act_286 (by decide) (by decide) (by decide) (fun h => absurd h (by decide)) (fun _ => ?_)
  refine lv_aload_n hx hb dL_act_289 rfl (lv_at hl 0 rfl) ?_
  refine lv_iload_n hx hb dL_act_290 rfl (lv_at hl 2 rfl) ?_
  refine mx_go (vx_runV (As := [.int (iI q_a)]) (rest := []) ⟨hx, hb, hml, hown, hts⟩ hT (cwV 1 hts gL_act_X5_carried rfl rfl rfl (by decide +kernel) ⟨Nat.le_of_ble_eq_true rfl, Nat.le_of_ble_eq_true rfl⟩) (mx_preV hK hN hxK hxZ hW 0 (by decide) rfl rfl rfl) rfl rfl hl.1 rfl (lv_room (Nat.le_of_ble_eq_true rfl)) dL_act_291 ⟨Nat.le_refl _, Nat.le_refl _⟩) hW (fun ce q9 H locs hW _ hce hcv hcl => ?_)
  refine mw_catch (hh := [(0, 302, 303, 13), (0, 302, 308, 84), (0, 302, 313, 15)]) (h9 := 303) hown htab [] ⟨0, 302, 303, 13⟩ [⟨0, 302, 308, 84⟩, ⟨0, 302, 313, 15⟩] rfl (fun z hz => by simp at hz) (by decide) (by decide) (hts (.classLink RL 13 xE1) (by decide +kernel)) (hxK.use _ (by decide +kernel)) hce hcv hcl rfl ?_
  refine lv_astore (lv' := [(6, .ref q9), (0, .ref (ad 0)), (1, .int (iI 19)), (2, .int (iI q_a)), (3, .int (iI q_b)), (4, .int (iI q_c)), (5, .int (iI q_d))]) hx hb dL_act_303 hl (by decide) rfl (fun ls hl => ?_)
  refine mk_bipush hx hb (-91) (by decide +kernel) dL_act_305 ?_
  exact mw_retI hx hb hr hlocks hW ⟨rfl, rfl⟩ dL_act_307

set_option maxHeartbeats 4000000 in
set_option maxRecDepth 100000 in
theorem c_L_act_taxable_no1 (l : Launch) (cg : Nat → ClassId) (D : va_G) (ad : Nat → Nat) (st : Nat → Nat → Int) (q_a q_b q_c q_d : Int) (hT : TX l yX5_taxable wsX5_taxable ({ frames := 8, cells := 1, slots := 6, locals := 150 }) D vwCl (TY cg) 73 (celX cg) ad st [.ref (ad 0), .int (iI q_a)] xE1) : WI l yL_act wsL_act ({ frames := 9, cells := 1, slots := 6, locals := 180 }) D vwCl (TY cg) 73 (celX cg) ad st [.ref (ad 0), .int (iI 20), .int (iI q_a), .int (iI q_b), .int (iI q_c), .int (iI q_d)] (fun z st1 => z = -91 ∧ st1 = st) := by
  refine mw_open (cc := cL_act) (maxL := 7) (ret := (some .int)) (hh := [(0, 302, 303, 13), (0, 302, 308, 84), (0, 302, 313, 15)]) (by decide) rfl (Nat.le_of_ble_eq_true rfl) ?_
  intro p e s m args below meth c hx hb hml hr hown hts hlocks hK hN hargs ls hl hW hxK hxZ hxN htab
  have hown : s.vm.findClass RL = some m.cls := hown
  have hl : lv_has ls 7 [(0, .ref (ad 0)), (1, .int (iI 20)), (2, .int (iI q_a)), (3, .int (iI q_b)), (4, .int (iI q_c)), (5, .int (iI q_d))] := hl
  refine lv_iload_n hx hb dL_act_0 rfl (lv_at hl 1 rfl) ?_
  refine mk_if_ne (tgt := 17) hx hb dL_act_1 (by decide) (by decide) (fun _ => ?_) (fun h => absurd h (by decide))
  refine lv_iload_n hx hb dL_act_17 rfl (lv_at hl 1 rfl) ?_
  refine mk_iconst hx hb (1) dL_act_18 ?_
  refine mk_icmp_ne (tgt := 35) hx hb dL_act_19 (by decide) (by decide) (by decide) (fun _ => ?_) (fun h => absurd h (by decide))
  refine lv_iload_n hx hb dL_act_35 rfl (lv_at hl 1 rfl) ?_
  refine mk_iconst hx hb (2) dL_act_36 ?_
  refine mk_icmp_ne (tgt := 51) hx hb dL_act_37 (by decide) (by decide) (by decide) (fun _ => ?_) (fun h => absurd h (by decide))
  refine lv_iload_n hx hb dL_act_51 rfl (lv_at hl 1 rfl) ?_
  refine mk_iconst hx hb (3) dL_act_52 ?_
  refine mk_icmp_ne (tgt := 65) hx hb dL_act_53 (by decide) (by decide) (by decide) (fun _ => ?_) (fun h => absurd h (by decide))
  refine lv_iload_n hx hb dL_act_65 rfl (lv_at hl 1 rfl) ?_
  refine mk_iconst hx hb (4) dL_act_66 ?_
  refine mk_icmp_ne (tgt := 78) hx hb dL_act_67 (by decide) (by decide) (by decide) (fun _ => ?_) (fun h => absurd h (by decide))
  refine lv_iload_n hx hb dL_act_78 rfl (lv_at hl 1 rfl) ?_
  refine mk_iconst hx hb (5) dL_act_79 ?_
  refine mk_icmp_ne (tgt := 92) hx hb dL_act_80 (by decide) (by decide) (by decide) (fun _ => ?_) (fun h => absurd h (by decide))
  refine lv_iload_n hx hb dL_act_92 rfl (lv_at hl 1 rfl) ?_
  refine mk_bipush hx hb (6) (by decide +kernel) dL_act_93 ?_
  refine mk_icmp_ne (tgt := 107) hx hb dL_act_95 (by decide) (by decide) (by decide) (fun _ => ?_) (fun h => absurd h (by decide))
  refine lv_iload_n hx hb dL_act_107 rfl (lv_at hl 1 rfl) ?_
  refine mk_bipush hx hb (7) (by decide +kernel) dL_act_108 ?_
  refine mk_icmp_ne (tgt := 122) hx hb dL_act_110 (by decide) (by decide) (by decide) (fun _ => ?_) (fun h => absurd h (by decide))
  refine lv_iload_n hx hb dL_act_122 rfl (lv_at hl 1 rfl) ?_
  refine mk_bipush hx hb (8) (by decide +kernel) dL_act_123 ?_
  refine mk_icmp_ne (tgt := 137) hx hb dL_act_125 (by decide) (by decide) (by decide) (fun _ => ?_) (fun h => absurd h (by decide))
  refine lv_iload_n hx hb dL_act_137 rfl (lv_at hl 1 rfl) ?_
  refine mk_bipush hx hb (9) (by decide +kernel) dL_act_138 ?_
  refine mk_icmp_ne (tgt := 152) hx hb dL_act_140 (by decide) (by decide) (by decide) (fun _ => ?_) (fun h => absurd h (by decide))
  refine lv_iload_n hx hb dL_act_152 rfl (lv_at hl 1 rfl) ?_
  refine mk_bipush hx hb (10) (by decide +kernel) dL_act_153 ?_
  refine mk_icmp_ne (tgt := 167) hx hb dL_act_155 (by decide) (by decide) (by decide) (fun _ => ?_) (fun h => absurd h (by decide))
  refine lv_iload_n hx hb dL_act_167 rfl (lv_at hl 1 rfl) ?_
  refine mk_bipush hx hb (11) (by decide +kernel) dL_act_168 ?_
  refine mk_icmp_ne (tgt := 182) hx hb dL_act_170 (by decide) (by decide) (by decide) (fun _ => ?_) (fun h => absurd h (by decide))
  refine lv_iload_n hx hb dL_act_182 rfl (lv_at hl 1 rfl) ?_
  refine mk_bipush hx hb (12) (by decide +kernel) dL_act_183 ?_
  refine mk_icmp_ne (tgt := 197) hx hb dL_act_185 (by decide) (by decide) (by decide) (fun _ => ?_) (fun h => absurd h (by decide))
  refine lv_iload_n hx hb dL_act_197 rfl (lv_at hl 1 rfl) ?_
  refine mk_bipush hx hb (13) (by decide +kernel) dL_act_198 ?_
  refine mk_icmp_ne (tgt := 212) hx hb dL_act_200 (by decide) (by decide) (by decide) (fun _ => ?_) (fun h => absurd h (by decide))
  refine lv_iload_n hx hb dL_act_212 rfl (lv_at hl 1 rfl) ?_
  refine mk_bipush hx hb (14) (by decide +kernel) dL_act_213 ?_
  refine mk_icmp_ne (tgt := 227) hx hb dL_act_215 (by decide) (by decide) (by decide) (fun _ => ?_) (fun h => absurd h (by decide))
  refine lv_iload_n hx hb dL_act_227 rfl (lv_at hl 1 rfl) ?_
  refine mk_bipush hx hb (15) (by decide +kernel) dL_act_228 ?_
  refine mk_icmp_ne (tgt := 241) hx hb dL_act_230 (by decide) (by decide) (by decide) (fun _ => ?_) (fun h => absurd h (by decide))
  refine lv_iload_n hx hb dL_act_241 rfl (lv_at hl 1 rfl) ?_
  refine mk_bipush hx hb (16) (by decide +kernel) dL_act_242 ?_
  refine mk_icmp_ne (tgt := 255) hx hb dL_act_244 (by decide) (by decide) (by decide) (fun _ => ?_) (fun h => absurd h (by decide))
  refine lv_iload_n hx hb dL_act_255 rfl (lv_at hl 1 rfl) ?_
  refine mk_bipush hx hb (17) (by decide +kernel) dL_act_256 ?_
  refine mk_icmp_ne (tgt := 269) hx hb dL_act_258 (by decide) (by decide) (by decide) (fun _ => ?_) (fun h => absurd h (by decide))
  refine lv_iload_n hx hb dL_act_269 rfl (lv_at hl 1 rfl) ?_
  refine mk_bipush hx hb (18) (by decide +kernel) dL_act_270 ?_
  refine mk_icmp_ne (tgt := 283) hx hb dL_act_272 (by decide) (by decide) (by decide) (fun _ => ?_) (fun h => absurd h (by decide))
  refine lv_iload_n hx hb dL_act_283 rfl (lv_at hl 1 rfl) ?_
  refine mk_bipush hx hb (19) (by decide +kernel) dL_act_284 ?_
  refine mk_icmp_ne (tgt := 297) hx hb dL_act_286 (by decide) (by decide) (by decide) (fun _ => ?_) (fun h => absurd h (by decide))
  refine lv_aload_n hx hb dL_act_297 rfl (lv_at hl 0 rfl) ?_
  refine lv_iload_n hx hb dL_act_298 rfl (lv_at hl 2 rfl) ?_
  refine mx_go (vx_runV (As := [.int (iI q_a)]) (rest := []) ⟨hx, hb, hml, hown, hts⟩ hT (cwV 1 hts gL_act_X5_taxable rfl rfl rfl (by decide +kernel) ⟨Nat.le_of_ble_eq_true rfl, Nat.le_of_ble_eq_true rfl⟩) (mx_preV hK hN hxK hxZ hW 0 (by decide) rfl rfl rfl) rfl rfl hl.1 rfl (lv_room (Nat.le_of_ble_eq_true rfl)) dL_act_299 ⟨Nat.le_refl _, Nat.le_refl _⟩) hW (fun ce q9 H locs hW _ hce hcv hcl => ?_)
  refine mw_catch (hh := [(0, 302, 303, 13), (0, 302, 308, 84), (0, 302, 313, 15)]) (h9 := 303) hown htab [] ⟨0, 302, 303, 13⟩ [⟨0, 302, 308, 84⟩, ⟨0, 302, 313, 15⟩] rfl (fun z hz => by simp at hz) (by decide) (by decide) (hts (.classLink RL 13 xE1) (by decide +kernel)) (hxK.use _ (by decide +kernel)) hce hcv hcl rfl ?_
  refine lv_astore (lv' := [(6, .ref q9), (0, .ref (ad 0)), (1, .int (iI 20)), (2, .int (iI q_a)), (3, .int (iI q_b)), (4, .int (iI q_c)), (5, .int (iI q_d))]) hx hb dL_act_303 hl (by decide) rfl (fun ls hl => ?_)
  refine mk_bipush hx hb (-91) (by decide +kernel) dL_act_305 ?_
  exact mw_retI hx hb hr hlocks hW ⟨rfl, rfl⟩ dL_act_307

