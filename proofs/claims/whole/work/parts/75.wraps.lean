def wr (z : Int) : Int := (iI z).toInt
theorem wr_rng (z : Int) : -2147483648 ≤ wr z ∧ wr z < 2147483648 := iI_rng (iI z)
theorem wr_iI (z : Int) : iI (wr z) = iI z := (iI_self (iI z)).symm
theorem wr_id {z : Int} (h : -2147483648 ≤ z ∧ z < 2147483648) : wr z = z := iI_toInt h
section WR2
variable {p : Program} {l : Launch} {e : Env} {R : Room} {s : State} {m : MethodId} {args : Array Value} {below : List Frame} {meth : Method} {c : Code} {H : Heap} {locs : List Loc} {cells slots : Nat} {Q : State → Prop}
variable {cc : ByteArray} {pc : Nat} {ls : Array Slot} {rest : List Value}
theorem mk_i2lw (hexec : p.tables.exec = Jvm.exec) (hb : c.code = cc) {x : Int} (hdg : decode cc pc = .ok (.i2l, 1)) (k : W p l e R s m args below meth c H locs cells slots Q (F0 m (pc + 1) ls (.long (lI (wr x)) :: rest))) : W p l e R s m args below meth c H locs cells slots Q (F0 m pc ls (.int (iI x) :: rest)) := by
  rw [← wr_iI x]
  exact mk_i2l hexec hb hdg (wr_rng x) k
end WR2
theorem Met.mono9 {l : Launch} {y : MethodName} {ws : List Cond} {rm : Room} {Pc : Array Value → State → Prop} {Qc Qd : Array Value → State → Outcome → State → Prop} {mc ms : Nat} {free : Addr → Prop} (h : Met l y ws rm Pc Qc mc ms free) (hq : ∀ a s o t, Qc a s o t → Qd a s o t) : Met l y ws rm Pc Qd mc ms free := by
  intro p e h1 h2 h3 s m args below h4 h5 h6 h7
  obtain ⟨k, o, g1, g2, g3, g4, g5⟩ := h p e h1 h2 h3 s m args below h4 h5 h6 h7
  exact ⟨k, o, g1, g2, g3, hq _ _ _ _ g4, g5⟩
section WR3
variable {l : Launch} {y : MethodName} {ws : List Cond} {rm : Room} {D : va_G} {cl : List vw_C} {tys : List (ClassId × FieldType)} {n : Nat} {cel : (Nat → Nat) → (Nat → Int) → Nat → va_E} {ad : Nat → Nat} {st : Nat → Nat → Int} {av : List Value}
theorem WI.mono {P Q : Int → (Nat → Nat → Int) → Prop} (h : WI l y ws rm D cl tys n cel ad st av P) (hq : ∀ z u, P z u → Q z u) : WI l y ws rm D cl tys n cel ad st av Q :=
  Met.mono9 h fun _ _ _ _ ⟨⟨r, u, h1, ⟨z, h2, h3⟩, h4⟩, h5⟩ => ⟨⟨r, u, h1, ⟨z, h2, hq z u h3⟩, h4⟩, h5⟩
theorem MI.mono {P Q : Int → (Nat → Nat → Int) → Prop} (h : MI l y ws rm D cl tys n cel ad st av P) (hq : ∀ z u, P z u → Q z u) : MI l y ws rm D cl tys n cel ad st av Q :=
  Met.mono9 h fun _ _ _ _ ⟨⟨r, u, h1, ⟨z, h2, h3⟩, h4⟩, h5⟩ => ⟨⟨r, u, h1, ⟨z, h2, hq z u h3⟩, h4⟩, h5⟩
theorem MV.mono {P Q : (Nat → Nat → Int) → Prop} (h : MV l y ws rm D cl tys n cel ad st av P) (hq : ∀ u, P u → Q u) : MV l y ws rm D cl tys n cel ad st av Q :=
  Met.mono9 h fun _ _ _ _ ⟨⟨u, h1, h2, h4⟩, h5⟩ => ⟨⟨u, h1, hq u h2, h4⟩, h5⟩
end WR3

set_option maxHeartbeats 4000000 in
set_option maxRecDepth 100000 in
theorem c_L_buy_okw (l : Launch) (cg : Nat → ClassId) (D : va_G) (ad : Nat → Nat) (st : Nat → Nat → Int) (a1 a2 a3 a4 : Int) (Pq : Int → (Nat → Nat → Int) → Prop) (hM : MI l yX5_buy wsX5_buy ({ frames := 5, cells := 0, slots := 0, locals := 130 }) D vwCl (TY cg) 73 (celX cg) ad st [.ref (ad 0), .int (iI a1), .int (iI a2), .int (iI a3), .int (iI a4)] Pq) : WI l yL_buy wsL_buy ({ frames := 9, cells := 1, slots := 6, locals := 180 }) D vwCl (TY cg) 74 (celW cg) ad st [.ref (ad 0), .int (iI a1), .int (iI a2), .int (iI a3), .int (iI a4), .ref (ad 73)] (fun z st1 => z = 0 ∧ ∃ v u, Pq v u ∧ st1 = stC (up 73 (fun k => k) u st) 73 (fnU (up 73 (fun k => k) u st 73) 0 (wr v))) := by
  refine mw_open (cc := cL_buy) (maxL := 7) (ret := (some .int)) (hh := [(0, 14, 17, 13), (0, 14, 21, 15), (0, 14, 25, 17)]) (by decide) rfl (Nat.le_of_ble_eq_true rfl) ?_
  intro p e s m args below meth c hx hb hml hr hown hts hlocks hK hN hargs ls hl hW hxK hxZ hxN htab
  have hown : s.vm.findClass RL = some m.cls := hown
  have hl : lv_has ls 7 [(0, .ref (ad 0)), (1, .int (iI a1)), (2, .int (iI a2)), (3, .int (iI a3)), (4, .int (iI a4)), (5, .ref (ad 73))] := hl
  refine W.widen (Nat.zero_le 1) (Nat.zero_le 6) ?_
  refine lv_aload hx hb dL_buy_0 (lv_at hl 5 rfl) ?_
  refine mk_iconst hx hb (0) dL_buy_2 ?_
  refine lv_aload_n hx hb dL_buy_3 rfl (lv_at hl 0 rfl) ?_
  refine lv_iload_n hx hb dL_buy_4 rfl (lv_at hl 1 rfl) ?_
  refine lv_iload_n hx hb dL_buy_5 rfl (lv_at hl 2 rfl) ?_
  refine lv_iload_n hx hb dL_buy_6 rfl (lv_at hl 3 rfl) ?_
  refine lv_iload hx hb dL_buy_7 (lv_at hl 4 rfl) ?_
  refine mk_goIE (EmbX cg ad) (va_runV (As := [.int (iI a1), .int (iI a2), .int (iI a3), .int (iI a4)]) (rest := [.int (iI 0), .ref (ad 73)]) ⟨hx, hb, hml, hown, hts⟩ hM (cwV 4 hts gL_buy_X5_buy rfl rfl rfl (by decide +kernel) ⟨Nat.le_of_ble_eq_true rfl, Nat.le_of_ble_eq_true rfl⟩) (mk_preV hK hN (hW.emb (EmbX cg ad)) 0 (by decide) rfl rfl rfl) rfl rfl hl.1 rfl (lv_room (Nat.le_of_ble_eq_true rfl)) dL_buy_9 ⟨Nat.le_refl _, Nat.le_refl _⟩) hW (fun v st1 hq H locs hW => ?_)
  obtain ⟨st2, est2⟩ : ∃ z, z = up 73 (fun k => k) st1 st := ⟨_, rfl⟩
  rw [← est2] at hW
  refine mk_i2lw hx hb dL_buy_12 ?_
  refine mk_last hx hb hK hW 73 (by decide) (fun _ => rfl) 2 rfl (j := 0) rfl (by omega) (by decide) dL_buy_13 (fun H locs hW => ?_)
  obtain ⟨st3, est3⟩ : ∃ z, z = stC st2 73 (fnU (st2 73) 0 (wr v)) := ⟨_, rfl⟩
  rw [← est3] at hW
  refine lv_goto (tgt := 29) hx hb dL_buy_14 (by decide) ?_
  refine mk_iconst hx hb (0) dL_buy_29 ?_
  exact mw_retI hx hb hr hlocks hW ⟨rfl, v, st1, hq, by rw [est3, est2]⟩ dL_buy_30

set_option maxHeartbeats 4000000 in
set_option maxRecDepth 100000 in
theorem c_L_buyDay_okw (l : Launch) (cg : Nat → ClassId) (D : va_G) (ad : Nat → Nat) (st : Nat → Nat → Int) (a1 a2 : Int) (Pq : Int → (Nat → Nat → Int) → Prop) (hM : MI l yX5_buyDay wsX5_buyDay ({ frames := 2, cells := 0, slots := 0, locals := 46 }) D vwCl (TY cg) 73 (celX cg) ad st [.ref (ad 0), .int (iI a1), .int (iI a2)] Pq) : WI l yL_buyDay wsL_buyDay ({ frames := 9, cells := 1, slots := 6, locals := 180 }) D vwCl (TY cg) 74 (celW cg) ad st [.ref (ad 0), .int (iI a1), .int (iI a2), .ref (ad 73)] (fun z st1 => z = 0 ∧ ∃ v u, Pq v u ∧ st1 = stC (up 73 (fun k => k) u st) 73 (fnU (up 73 (fun k => k) u st 73) 0 (wr v))) := by
  refine mw_open (cc := cL_buyDay) (maxL := 5) (ret := (some .int)) (hh := [(0, 10, 13, 13)]) (by decide) rfl (Nat.le_of_ble_eq_true rfl) ?_
  intro p e s m args below meth c hx hb hml hr hown hts hlocks hK hN hargs ls hl hW hxK hxZ hxN htab
  have hown : s.vm.findClass RL = some m.cls := hown
  have hl : lv_has ls 5 [(0, .ref (ad 0)), (1, .int (iI a1)), (2, .int (iI a2)), (3, .ref (ad 73))] := hl
  refine W.widen (Nat.zero_le 1) (Nat.zero_le 6) ?_
  refine lv_aload_n hx hb dL_buyDay_0 rfl (lv_at hl 3 rfl) ?_
  refine mk_iconst hx hb (0) dL_buyDay_1 ?_
  refine lv_aload_n hx hb dL_buyDay_2 rfl (lv_at hl 0 rfl) ?_
  refine lv_iload_n hx hb dL_buyDay_3 rfl (lv_at hl 1 rfl) ?_
  refine lv_iload_n hx hb dL_buyDay_4 rfl (lv_at hl 2 rfl) ?_
  refine mk_goIE (EmbX cg ad) (va_runV (As := [.int (iI a1), .int (iI a2)]) (rest := [.int (iI 0), .ref (ad 73)]) ⟨hx, hb, hml, hown, hts⟩ hM (cwV 2 hts gL_buyDay_X5_buyDay rfl rfl rfl (by decide +kernel) ⟨Nat.le_of_ble_eq_true rfl, Nat.le_of_ble_eq_true rfl⟩) (mk_preV hK hN (hW.emb (EmbX cg ad)) 0 (by decide) rfl rfl rfl) rfl rfl hl.1 rfl (lv_room (Nat.le_of_ble_eq_true rfl)) dL_buyDay_5 ⟨Nat.le_refl _, Nat.le_refl _⟩) hW (fun v st1 hq H locs hW => ?_)
  obtain ⟨st2, est2⟩ : ∃ z, z = up 73 (fun k => k) st1 st := ⟨_, rfl⟩
  rw [← est2] at hW
  refine mk_i2lw hx hb dL_buyDay_8 ?_
  refine mk_last hx hb hK hW 73 (by decide) (fun _ => rfl) 2 rfl (j := 0) rfl (by omega) (by decide) dL_buyDay_9 (fun H locs hW => ?_)
  obtain ⟨st3, est3⟩ : ∃ z, z = stC st2 73 (fnU (st2 73) 0 (wr v)) := ⟨_, rfl⟩
  rw [← est3] at hW
  refine lv_goto (tgt := 17) hx hb dL_buyDay_10 (by decide) ?_
  refine mk_iconst hx hb (0) dL_buyDay_17 ?_
  exact mw_retI hx hb hr hlocks hW ⟨rfl, v, st1, hq, by rw [est3, est2]⟩ dL_buyDay_18

set_option maxHeartbeats 4000000 in
set_option maxRecDepth 100000 in
theorem c_L_cancel_okw (l : Launch) (cg : Nat → ClassId) (D : va_G) (ad : Nat → Nat) (st : Nat → Nat → Int) (a1 : Int) (Pq : (Nat → Nat → Int) → Prop) (hM : MV l yX5_cancel wsX5_cancel ({ frames := 5, cells := 0, slots := 0, locals := 130 }) D vwCl (TY cg) 73 (celX cg) ad st [.ref (ad 0), .int (iI a1)] Pq) : WI l yL_cancel wsL_cancel ({ frames := 9, cells := 1, slots := 6, locals := 180 }) D vwCl (TY cg) 74 (celW cg) ad st [.ref (ad 0), .int (iI a1)] (fun z st1 => z = 0 ∧ ∃ u, Pq u ∧ st1 = up 73 (fun k => k) u st) := by
  refine mw_open (cc := cL_cancel) (maxL := 3) (ret := (some .int)) (hh := [(0, 5, 8, 13), (0, 5, 11, 17)]) (by decide) rfl (Nat.le_of_ble_eq_true rfl) ?_
  intro p e s m args below meth c hx hb hml hr hown hts hlocks hK hN hargs ls hl hW hxK hxZ hxN htab
  have hown : s.vm.findClass RL = some m.cls := hown
  have hl : lv_has ls 3 [(0, .ref (ad 0)), (1, .int (iI a1))] := hl
  refine W.widen (Nat.zero_le 1) (Nat.zero_le 6) ?_
  refine lv_aload_n hx hb dL_cancel_0 rfl (lv_at hl 0 rfl) ?_
  refine lv_iload_n hx hb dL_cancel_1 rfl (lv_at hl 1 rfl) ?_
  refine mk_goVE (EmbX cg ad) (va_runV (As := [.int (iI a1)]) (rest := []) ⟨hx, hb, hml, hown, hts⟩ hM (cwV 1 hts gL_cancel_X5_cancel rfl rfl rfl (by decide +kernel) ⟨Nat.le_of_ble_eq_true rfl, Nat.le_of_ble_eq_true rfl⟩) (mk_preV hK hN (hW.emb (EmbX cg ad)) 0 (by decide) rfl rfl rfl) rfl rfl hl.1 rfl (lv_room (Nat.le_of_ble_eq_true rfl)) dL_cancel_2 ⟨Nat.le_refl _, Nat.le_refl _⟩) hW (fun st1 hq H locs hW => ?_)
  obtain ⟨st2, est2⟩ : ∃ z, z = up 73 (fun k => k) st1 st := ⟨_, rfl⟩
  rw [← est2] at hW
  refine lv_goto (tgt := 14) hx hb dL_cancel_5 (by decide) ?_
  refine mk_iconst hx hb (0) dL_cancel_14 ?_
  exact mw_retI hx hb hr hlocks hW ⟨rfl, st1, hq, est2⟩ dL_cancel_15

set_option maxHeartbeats 4000000 in
set_option maxRecDepth 100000 in
theorem c_L_carried_okw (l : Launch) (cg : Nat → ClassId) (D : va_G) (ad : Nat → Nat) (st : Nat → Nat → Int) (a1 : Int) (Pq : Int → (Nat → Nat → Int) → Prop) (hM : MI l yX5_carried wsX5_carried ({ frames := 4, cells := 0, slots := 0, locals := 130 }) D vwCl (TY cg) 73 (celX cg) ad st [.ref (ad 0), .int (iI a1)] Pq) : WI l yL_carried wsL_carried ({ frames := 9, cells := 1, slots := 6, locals := 180 }) D vwCl (TY cg) 74 (celW cg) ad st [.ref (ad 0), .int (iI a1), .ref (ad 73)] (fun z st1 => z = 0 ∧ ∃ v u, Pq v u ∧ st1 = stC (up 73 (fun k => k) u st) 73 (fnU (up 73 (fun k => k) u st 73) 0 (wr v))) := by
  refine mw_open (cc := cL_carried) (maxL := 4) (ret := (some .int)) (hh := [(0, 9, 12, 13)]) (by decide) rfl (Nat.le_of_ble_eq_true rfl) ?_
  intro p e s m args below meth c hx hb hml hr hown hts hlocks hK hN hargs ls hl hW hxK hxZ hxN htab
  have hown : s.vm.findClass RL = some m.cls := hown
  have hl : lv_has ls 4 [(0, .ref (ad 0)), (1, .int (iI a1)), (2, .ref (ad 73))] := hl
  refine W.widen (Nat.zero_le 1) (Nat.zero_le 6) ?_
  refine lv_aload_n hx hb dL_carried_0 rfl (lv_at hl 2 rfl) ?_
  refine mk_iconst hx hb (0) dL_carried_1 ?_
  refine lv_aload_n hx hb dL_carried_2 rfl (lv_at hl 0 rfl) ?_
  refine lv_iload_n hx hb dL_carried_3 rfl (lv_at hl 1 rfl) ?_
  refine mk_goIE (EmbX cg ad) (va_runV (As := [.int (iI a1)]) (rest := [.int (iI 0), .ref (ad 73)]) ⟨hx, hb, hml, hown, hts⟩ hM (cwV 1 hts gL_carried_X5_carried rfl rfl rfl (by decide +kernel) ⟨Nat.le_of_ble_eq_true rfl, Nat.le_of_ble_eq_true rfl⟩) (mk_preV hK hN (hW.emb (EmbX cg ad)) 0 (by decide) rfl rfl rfl) rfl rfl hl.1 rfl (lv_room (Nat.le_of_ble_eq_true rfl)) dL_carried_4 ⟨Nat.le_refl _, Nat.le_refl _⟩) hW (fun v st1 hq H locs hW => ?_)
  obtain ⟨st2, est2⟩ : ∃ z, z = up 73 (fun k => k) st1 st := ⟨_, rfl⟩
  rw [← est2] at hW
  refine mk_i2lw hx hb dL_carried_7 ?_
  refine mk_last hx hb hK hW 73 (by decide) (fun _ => rfl) 2 rfl (j := 0) rfl (by omega) (by decide) dL_carried_8 (fun H locs hW => ?_)
  obtain ⟨st3, est3⟩ : ∃ z, z = stC st2 73 (fnU (st2 73) 0 (wr v)) := ⟨_, rfl⟩
  rw [← est3] at hW
  refine lv_goto (tgt := 15) hx hb dL_carried_9 (by decide) ?_
  refine mk_iconst hx hb (0) dL_carried_15 ?_
  exact mw_retI hx hb hr hlocks hW ⟨rfl, v, st1, hq, by rw [est3, est2]⟩ dL_carried_16

set_option maxHeartbeats 4000000 in
set_option maxRecDepth 100000 in
theorem c_L_costIn_okw (l : Launch) (cg : Nat → ClassId) (D : va_G) (ad : Nat → Nat) (st : Nat → Nat → Int) (a1 : Int) (Pq : Int → (Nat → Nat → Int) → Prop) (hM : MI l yX5_costIn wsX5_costIn ({ frames := 1, cells := 0, slots := 0, locals := 40 }) D vwCl (TY cg) 73 (celX cg) ad st [.ref (ad 0), .int (iI a1)] Pq) : WI l yL_costIn wsL_costIn ({ frames := 9, cells := 1, slots := 6, locals := 180 }) D vwCl (TY cg) 74 (celW cg) ad st [.ref (ad 0), .int (iI a1), .ref (ad 73)] (fun z st1 => z = 0 ∧ ∃ v u, Pq v u ∧ st1 = stC (up 73 (fun k => k) u st) 73 (fnU (up 73 (fun k => k) u st 73) 0 (wr v))) := by
  refine mw_open (cc := cL_costIn) (maxL := 4) (ret := (some .int)) (hh := [(0, 9, 12, 13)]) (by decide) rfl (Nat.le_of_ble_eq_true rfl) ?_
  intro p e s m args below meth c hx hb hml hr hown hts hlocks hK hN hargs ls hl hW hxK hxZ hxN htab
  have hown : s.vm.findClass RL = some m.cls := hown
  have hl : lv_has ls 4 [(0, .ref (ad 0)), (1, .int (iI a1)), (2, .ref (ad 73))] := hl
  refine W.widen (Nat.zero_le 1) (Nat.zero_le 6) ?_
  refine lv_aload_n hx hb dL_costIn_0 rfl (lv_at hl 2 rfl) ?_
  refine mk_iconst hx hb (0) dL_costIn_1 ?_
  refine lv_aload_n hx hb dL_costIn_2 rfl (lv_at hl 0 rfl) ?_
  refine lv_iload_n hx hb dL_costIn_3 rfl (lv_at hl 1 rfl) ?_
  refine mk_goIE (EmbX cg ad) (va_runV (As := [.int (iI a1)]) (rest := [.int (iI 0), .ref (ad 73)]) ⟨hx, hb, hml, hown, hts⟩ hM (cwV 1 hts gL_costIn_X5_costIn rfl rfl rfl (by decide +kernel) ⟨Nat.le_of_ble_eq_true rfl, Nat.le_of_ble_eq_true rfl⟩) (mk_preV hK hN (hW.emb (EmbX cg ad)) 0 (by decide) rfl rfl rfl) rfl rfl hl.1 rfl (lv_room (Nat.le_of_ble_eq_true rfl)) dL_costIn_4 ⟨Nat.le_refl _, Nat.le_refl _⟩) hW (fun v st1 hq H locs hW => ?_)
  obtain ⟨st2, est2⟩ : ∃ z, z = up 73 (fun k => k) st1 st := ⟨_, rfl⟩
  rw [← est2] at hW
  refine mk_i2lw hx hb dL_costIn_7 ?_
  refine mk_last hx hb hK hW 73 (by decide) (fun _ => rfl) 2 rfl (j := 0) rfl (by omega) (by decide) dL_costIn_8 (fun H locs hW => ?_)
  obtain ⟨st3, est3⟩ : ∃ z, z = stC st2 73 (fnU (st2 73) 0 (wr v)) := ⟨_, rfl⟩
  rw [← est3] at hW
  refine lv_goto (tgt := 15) hx hb dL_costIn_9 (by decide) ?_
  refine mk_iconst hx hb (0) dL_costIn_15 ?_
  exact mw_retI hx hb hr hlocks hW ⟨rfl, v, st1, hq, by rw [est3, est2]⟩ dL_costIn_16

set_option maxHeartbeats 4000000 in
set_option maxRecDepth 100000 in
theorem c_L_costMatched_okw (l : Launch) (cg : Nat → ClassId) (D : va_G) (ad : Nat → Nat) (st : Nat → Nat → Int) (a1 : Int) (Pq : Int → (Nat → Nat → Int) → Prop) (hM : MI l yX5_costMatched wsX5_costMatched ({ frames := 1, cells := 0, slots := 0, locals := 40 }) D vwCl (TY cg) 73 (celX cg) ad st [.ref (ad 0), .int (iI a1)] Pq) : WI l yL_costMatched wsL_costMatched ({ frames := 9, cells := 1, slots := 6, locals := 180 }) D vwCl (TY cg) 74 (celW cg) ad st [.ref (ad 0), .int (iI a1), .ref (ad 73)] (fun z st1 => z = 0 ∧ ∃ v u, Pq v u ∧ st1 = stC (up 73 (fun k => k) u st) 73 (fnU (up 73 (fun k => k) u st 73) 0 (wr v))) := by
  refine mw_open (cc := cL_costMatched) (maxL := 4) (ret := (some .int)) (hh := [(0, 9, 12, 13)]) (by decide) rfl (Nat.le_of_ble_eq_true rfl) ?_
  intro p e s m args below meth c hx hb hml hr hown hts hlocks hK hN hargs ls hl hW hxK hxZ hxN htab
  have hown : s.vm.findClass RL = some m.cls := hown
  have hl : lv_has ls 4 [(0, .ref (ad 0)), (1, .int (iI a1)), (2, .ref (ad 73))] := hl
  refine W.widen (Nat.zero_le 1) (Nat.zero_le 6) ?_
  refine lv_aload_n hx hb dL_costMatched_0 rfl (lv_at hl 2 rfl) ?_
  refine mk_iconst hx hb (0) dL_costMatched_1 ?_
  refine lv_aload_n hx hb dL_costMatched_2 rfl (lv_at hl 0 rfl) ?_
  refine lv_iload_n hx hb dL_costMatched_3 rfl (lv_at hl 1 rfl) ?_
  refine mk_goIE (EmbX cg ad) (va_runV (As := [.int (iI a1)]) (rest := [.int (iI 0), .ref (ad 73)]) ⟨hx, hb, hml, hown, hts⟩ hM (cwV 1 hts gL_costMatched_X5_costMatched rfl rfl rfl (by decide +kernel) ⟨Nat.le_of_ble_eq_true rfl, Nat.le_of_ble_eq_true rfl⟩) (mk_preV hK hN (hW.emb (EmbX cg ad)) 0 (by decide) rfl rfl rfl) rfl rfl hl.1 rfl (lv_room (Nat.le_of_ble_eq_true rfl)) dL_costMatched_4 ⟨Nat.le_refl _, Nat.le_refl _⟩) hW (fun v st1 hq H locs hW => ?_)
  obtain ⟨st2, est2⟩ : ∃ z, z = up 73 (fun k => k) st1 st := ⟨_, rfl⟩
  rw [← est2] at hW
  refine mk_i2lw hx hb dL_costMatched_7 ?_
  refine mk_last hx hb hK hW 73 (by decide) (fun _ => rfl) 2 rfl (j := 0) rfl (by omega) (by decide) dL_costMatched_8 (fun H locs hW => ?_)
  obtain ⟨st3, est3⟩ : ∃ z, z = stC st2 73 (fnU (st2 73) 0 (wr v)) := ⟨_, rfl⟩
  rw [← est3] at hW
  refine lv_goto (tgt := 15) hx hb dL_costMatched_9 (by decide) ?_
  refine mk_iconst hx hb (0) dL_costMatched_15 ?_
  exact mw_retI hx hb hr hlocks hW ⟨rfl, v, st1, hq, by rw [est3, est2]⟩ dL_costMatched_16

set_option maxHeartbeats 4000000 in
set_option maxRecDepth 100000 in
theorem c_L_costOf_okw (l : Launch) (cg : Nat → ClassId) (D : va_G) (ad : Nat → Nat) (st : Nat → Nat → Int) (a1 a2 : Int) (Pq : Int → (Nat → Nat → Int) → Prop) (hM : MI l yX5_costOf wsX5_costOf ({ frames := 2, cells := 0, slots := 0, locals := 46 }) D vwCl (TY cg) 73 (celX cg) ad st [.ref (ad 0), .int (iI a1), .int (iI a2)] Pq) : WI l yL_costOf wsL_costOf ({ frames := 9, cells := 1, slots := 6, locals := 180 }) D vwCl (TY cg) 74 (celW cg) ad st [.ref (ad 0), .int (iI a1), .int (iI a2), .ref (ad 73)] (fun z st1 => z = 0 ∧ ∃ v u, Pq v u ∧ st1 = stC (up 73 (fun k => k) u st) 73 (fnU (up 73 (fun k => k) u st 73) 0 (wr v))) := by
  refine mw_open (cc := cL_costOf) (maxL := 5) (ret := (some .int)) (hh := [(0, 10, 13, 13)]) (by decide) rfl (Nat.le_of_ble_eq_true rfl) ?_
  intro p e s m args below meth c hx hb hml hr hown hts hlocks hK hN hargs ls hl hW hxK hxZ hxN htab
  have hown : s.vm.findClass RL = some m.cls := hown
  have hl : lv_has ls 5 [(0, .ref (ad 0)), (1, .int (iI a1)), (2, .int (iI a2)), (3, .ref (ad 73))] := hl
  refine W.widen (Nat.zero_le 1) (Nat.zero_le 6) ?_
  refine lv_aload_n hx hb dL_costOf_0 rfl (lv_at hl 3 rfl) ?_
  refine mk_iconst hx hb (0) dL_costOf_1 ?_
  refine lv_aload_n hx hb dL_costOf_2 rfl (lv_at hl 0 rfl) ?_
  refine lv_iload_n hx hb dL_costOf_3 rfl (lv_at hl 1 rfl) ?_
  refine lv_iload_n hx hb dL_costOf_4 rfl (lv_at hl 2 rfl) ?_
  refine mk_goIE (EmbX cg ad) (va_runV (As := [.int (iI a1), .int (iI a2)]) (rest := [.int (iI 0), .ref (ad 73)]) ⟨hx, hb, hml, hown, hts⟩ hM (cwV 2 hts gL_costOf_X5_costOf rfl rfl rfl (by decide +kernel) ⟨Nat.le_of_ble_eq_true rfl, Nat.le_of_ble_eq_true rfl⟩) (mk_preV hK hN (hW.emb (EmbX cg ad)) 0 (by decide) rfl rfl rfl) rfl rfl hl.1 rfl (lv_room (Nat.le_of_ble_eq_true rfl)) dL_costOf_5 ⟨Nat.le_refl _, Nat.le_refl _⟩) hW (fun v st1 hq H locs hW => ?_)
  obtain ⟨st2, est2⟩ : ∃ z, z = up 73 (fun k => k) st1 st := ⟨_, rfl⟩
  rw [← est2] at hW
  refine mk_i2lw hx hb dL_costOf_8 ?_
  refine mk_last hx hb hK hW 73 (by decide) (fun _ => rfl) 2 rfl (j := 0) rfl (by omega) (by decide) dL_costOf_9 (fun H locs hW => ?_)
  obtain ⟨st3, est3⟩ : ∃ z, z = stC st2 73 (fnU (st2 73) 0 (wr v)) := ⟨_, rfl⟩
  rw [← est3] at hW
  refine lv_goto (tgt := 17) hx hb dL_costOf_10 (by decide) ?_
  refine mk_iconst hx hb (0) dL_costOf_17 ?_
  exact mw_retI hx hb hr hlocks hW ⟨rfl, v, st1, hq, by rw [est3, est2]⟩ dL_costOf_18

set_option maxHeartbeats 4000000 in
set_option maxRecDepth 100000 in
theorem c_L_gain_okw (l : Launch) (cg : Nat → ClassId) (D : va_G) (ad : Nat → Nat) (st : Nat → Nat → Int) (a1 a2 : Int) (Pq : Int → (Nat → Nat → Int) → Prop) (hM : MI l yX5_gain wsX5_gain ({ frames := 1, cells := 0, slots := 0, locals := 46 }) D vwCl (TY cg) 73 (celX cg) ad st [.ref (ad 0), .int (iI a1), .int (iI a2)] Pq) : WI l yL_gain wsL_gain ({ frames := 9, cells := 1, slots := 6, locals := 180 }) D vwCl (TY cg) 74 (celW cg) ad st [.ref (ad 0), .int (iI a1), .int (iI a2), .ref (ad 73)] (fun z st1 => z = 0 ∧ ∃ v u, Pq v u ∧ st1 = stC (up 73 (fun k => k) u st) 73 (fnU (up 73 (fun k => k) u st 73) 0 (wr v))) := by
  refine mw_open (cc := cL_gain) (maxL := 5) (ret := (some .int)) (hh := [(0, 10, 13, 13)]) (by decide) rfl (Nat.le_of_ble_eq_true rfl) ?_
  intro p e s m args below meth c hx hb hml hr hown hts hlocks hK hN hargs ls hl hW hxK hxZ hxN htab
  have hown : s.vm.findClass RL = some m.cls := hown
  have hl : lv_has ls 5 [(0, .ref (ad 0)), (1, .int (iI a1)), (2, .int (iI a2)), (3, .ref (ad 73))] := hl
  refine W.widen (Nat.zero_le 1) (Nat.zero_le 6) ?_
  refine lv_aload_n hx hb dL_gain_0 rfl (lv_at hl 3 rfl) ?_
  refine mk_iconst hx hb (0) dL_gain_1 ?_
  refine lv_aload_n hx hb dL_gain_2 rfl (lv_at hl 0 rfl) ?_
  refine lv_iload_n hx hb dL_gain_3 rfl (lv_at hl 1 rfl) ?_
  refine lv_iload_n hx hb dL_gain_4 rfl (lv_at hl 2 rfl) ?_
  refine mk_goIE (EmbX cg ad) (va_runV (As := [.int (iI a1), .int (iI a2)]) (rest := [.int (iI 0), .ref (ad 73)]) ⟨hx, hb, hml, hown, hts⟩ hM (cwV 2 hts gL_gain_X5_gain rfl rfl rfl (by decide +kernel) ⟨Nat.le_of_ble_eq_true rfl, Nat.le_of_ble_eq_true rfl⟩) (mk_preV hK hN (hW.emb (EmbX cg ad)) 0 (by decide) rfl rfl rfl) rfl rfl hl.1 rfl (lv_room (Nat.le_of_ble_eq_true rfl)) dL_gain_5 ⟨Nat.le_refl _, Nat.le_refl _⟩) hW (fun v st1 hq H locs hW => ?_)
  obtain ⟨st2, est2⟩ : ∃ z, z = up 73 (fun k => k) st1 st := ⟨_, rfl⟩
  rw [← est2] at hW
  refine mk_i2lw hx hb dL_gain_8 ?_
  refine mk_last hx hb hK hW 73 (by decide) (fun _ => rfl) 2 rfl (j := 0) rfl (by omega) (by decide) dL_gain_9 (fun H locs hW => ?_)
  obtain ⟨st3, est3⟩ : ∃ z, z = stC st2 73 (fnU (st2 73) 0 (wr v)) := ⟨_, rfl⟩
  rw [← est3] at hW
  refine lv_goto (tgt := 17) hx hb dL_gain_10 (by decide) ?_
  refine mk_iconst hx hb (0) dL_gain_17 ?_
  exact mw_retI hx hb hr hlocks hW ⟨rfl, v, st1, hq, by rw [est3, est2]⟩ dL_gain_18

set_option maxHeartbeats 4000000 in
set_option maxRecDepth 100000 in
theorem c_L_holding_okw (l : Launch) (cg : Nat → ClassId) (D : va_G) (ad : Nat → Nat) (st : Nat → Nat → Int) (a1 a2 : Int) (Pq : Int → (Nat → Nat → Int) → Prop) (hM : MI l yX5_holding wsX5_holding ({ frames := 2, cells := 0, slots := 0, locals := 60 }) D vwCl (TY cg) 73 (celX cg) ad st [.ref (ad 0), .int (iI a1), .int (iI a2)] Pq) : WI l yL_holding wsL_holding ({ frames := 9, cells := 1, slots := 6, locals := 180 }) D vwCl (TY cg) 74 (celW cg) ad st [.ref (ad 0), .int (iI a1), .int (iI a2), .ref (ad 73)] (fun z st1 => z = 0 ∧ ∃ v u, Pq v u ∧ st1 = stC (up 73 (fun k => k) u st) 73 (fnU (up 73 (fun k => k) u st 73) 0 (wr v))) := by
  refine mw_open (cc := cL_holding) (maxL := 5) (ret := (some .int)) (hh := [(0, 10, 13, 13)]) (by decide) rfl (Nat.le_of_ble_eq_true rfl) ?_
  intro p e s m args below meth c hx hb hml hr hown hts hlocks hK hN hargs ls hl hW hxK hxZ hxN htab
  have hown : s.vm.findClass RL = some m.cls := hown
  have hl : lv_has ls 5 [(0, .ref (ad 0)), (1, .int (iI a1)), (2, .int (iI a2)), (3, .ref (ad 73))] := hl
  refine W.widen (Nat.zero_le 1) (Nat.zero_le 6) ?_
  refine lv_aload_n hx hb dL_holding_0 rfl (lv_at hl 3 rfl) ?_
  refine mk_iconst hx hb (0) dL_holding_1 ?_
  refine lv_aload_n hx hb dL_holding_2 rfl (lv_at hl 0 rfl) ?_
  refine lv_iload_n hx hb dL_holding_3 rfl (lv_at hl 1 rfl) ?_
  refine lv_iload_n hx hb dL_holding_4 rfl (lv_at hl 2 rfl) ?_
  refine mk_goIE (EmbX cg ad) (va_runV (As := [.int (iI a1), .int (iI a2)]) (rest := [.int (iI 0), .ref (ad 73)]) ⟨hx, hb, hml, hown, hts⟩ hM (cwV 2 hts gL_holding_X5_holding rfl rfl rfl (by decide +kernel) ⟨Nat.le_of_ble_eq_true rfl, Nat.le_of_ble_eq_true rfl⟩) (mk_preV hK hN (hW.emb (EmbX cg ad)) 0 (by decide) rfl rfl rfl) rfl rfl hl.1 rfl (lv_room (Nat.le_of_ble_eq_true rfl)) dL_holding_5 ⟨Nat.le_refl _, Nat.le_refl _⟩) hW (fun v st1 hq H locs hW => ?_)
  obtain ⟨st2, est2⟩ : ∃ z, z = up 73 (fun k => k) st1 st := ⟨_, rfl⟩
  rw [← est2] at hW
  refine mk_i2lw hx hb dL_holding_8 ?_
  refine mk_last hx hb hK hW 73 (by decide) (fun _ => rfl) 2 rfl (j := 0) rfl (by omega) (by decide) dL_holding_9 (fun H locs hW => ?_)
  obtain ⟨st3, est3⟩ : ∃ z, z = stC st2 73 (fnU (st2 73) 0 (wr v)) := ⟨_, rfl⟩
  rw [← est3] at hW
  refine lv_goto (tgt := 17) hx hb dL_holding_10 (by decide) ?_
  refine mk_iconst hx hb (0) dL_holding_17 ?_
  exact mw_retI hx hb hr hlocks hW ⟨rfl, v, st1, hq, by rw [est3, est2]⟩ dL_holding_18

set_option maxHeartbeats 4000000 in
set_option maxRecDepth 100000 in
theorem c_L_kindOf_okw (l : Launch) (cg : Nat → ClassId) (D : va_G) (ad : Nat → Nat) (st : Nat → Nat → Int) (a1 a2 : Int) (Pq : Int → (Nat → Nat → Int) → Prop) (hM : MI l yX5_kindOf wsX5_kindOf ({ frames := 2, cells := 0, slots := 0, locals := 46 }) D vwCl (TY cg) 73 (celX cg) ad st [.ref (ad 0), .int (iI a1), .int (iI a2)] Pq) : WI l yL_kindOf wsL_kindOf ({ frames := 9, cells := 1, slots := 6, locals := 180 }) D vwCl (TY cg) 74 (celW cg) ad st [.ref (ad 0), .int (iI a1), .int (iI a2), .ref (ad 73)] (fun z st1 => z = 0 ∧ ∃ v u, Pq v u ∧ st1 = stC (up 73 (fun k => k) u st) 73 (fnU (up 73 (fun k => k) u st 73) 0 (wr v))) := by
  refine mw_open (cc := cL_kindOf) (maxL := 5) (ret := (some .int)) (hh := [(0, 10, 13, 13)]) (by decide) rfl (Nat.le_of_ble_eq_true rfl) ?_
  intro p e s m args below meth c hx hb hml hr hown hts hlocks hK hN hargs ls hl hW hxK hxZ hxN htab
  have hown : s.vm.findClass RL = some m.cls := hown
  have hl : lv_has ls 5 [(0, .ref (ad 0)), (1, .int (iI a1)), (2, .int (iI a2)), (3, .ref (ad 73))] := hl
  refine W.widen (Nat.zero_le 1) (Nat.zero_le 6) ?_
  refine lv_aload_n hx hb dL_kindOf_0 rfl (lv_at hl 3 rfl) ?_
  refine mk_iconst hx hb (0) dL_kindOf_1 ?_
  refine lv_aload_n hx hb dL_kindOf_2 rfl (lv_at hl 0 rfl) ?_
  refine lv_iload_n hx hb dL_kindOf_3 rfl (lv_at hl 1 rfl) ?_
  refine lv_iload_n hx hb dL_kindOf_4 rfl (lv_at hl 2 rfl) ?_
  refine mk_goIE (EmbX cg ad) (va_runV (As := [.int (iI a1), .int (iI a2)]) (rest := [.int (iI 0), .ref (ad 73)]) ⟨hx, hb, hml, hown, hts⟩ hM (cwV 2 hts gL_kindOf_X5_kindOf rfl rfl rfl (by decide +kernel) ⟨Nat.le_of_ble_eq_true rfl, Nat.le_of_ble_eq_true rfl⟩) (mk_preV hK hN (hW.emb (EmbX cg ad)) 0 (by decide) rfl rfl rfl) rfl rfl hl.1 rfl (lv_room (Nat.le_of_ble_eq_true rfl)) dL_kindOf_5 ⟨Nat.le_refl _, Nat.le_refl _⟩) hW (fun v st1 hq H locs hW => ?_)
  obtain ⟨st2, est2⟩ : ∃ z, z = up 73 (fun k => k) st1 st := ⟨_, rfl⟩
  rw [← est2] at hW
  refine mk_i2lw hx hb dL_kindOf_8 ?_
  refine mk_last hx hb hK hW 73 (by decide) (fun _ => rfl) 2 rfl (j := 0) rfl (by omega) (by decide) dL_kindOf_9 (fun H locs hW => ?_)
  obtain ⟨st3, est3⟩ : ∃ z, z = stC st2 73 (fnU (st2 73) 0 (wr v)) := ⟨_, rfl⟩
  rw [← est3] at hW
  refine lv_goto (tgt := 17) hx hb dL_kindOf_10 (by decide) ?_
  refine mk_iconst hx hb (0) dL_kindOf_17 ?_
  exact mw_retI hx hb hr hlocks hW ⟨rfl, v, st1, hq, by rw [est3, est2]⟩ dL_kindOf_18

set_option maxHeartbeats 4000000 in
set_option maxRecDepth 100000 in
theorem c_L_matches_okw (l : Launch) (cg : Nat → ClassId) (D : va_G) (ad : Nat → Nat) (st : Nat → Nat → Int) (a1 : Int) (Pq : Int → (Nat → Nat → Int) → Prop) (hM : MI l yX5_matches wsX5_matches ({ frames := 1, cells := 0, slots := 0, locals := 40 }) D vwCl (TY cg) 73 (celX cg) ad st [.ref (ad 0), .int (iI a1)] Pq) : WI l yL_matches wsL_matches ({ frames := 9, cells := 1, slots := 6, locals := 180 }) D vwCl (TY cg) 74 (celW cg) ad st [.ref (ad 0), .int (iI a1), .ref (ad 73)] (fun z st1 => z = 0 ∧ ∃ v u, Pq v u ∧ st1 = stC (up 73 (fun k => k) u st) 73 (fnU (up 73 (fun k => k) u st 73) 0 (wr v))) := by
  refine mw_open (cc := cL_matches) (maxL := 4) (ret := (some .int)) (hh := [(0, 9, 12, 13)]) (by decide) rfl (Nat.le_of_ble_eq_true rfl) ?_
  intro p e s m args below meth c hx hb hml hr hown hts hlocks hK hN hargs ls hl hW hxK hxZ hxN htab
  have hown : s.vm.findClass RL = some m.cls := hown
  have hl : lv_has ls 4 [(0, .ref (ad 0)), (1, .int (iI a1)), (2, .ref (ad 73))] := hl
  refine W.widen (Nat.zero_le 1) (Nat.zero_le 6) ?_
  refine lv_aload_n hx hb dL_matches_0 rfl (lv_at hl 2 rfl) ?_
  refine mk_iconst hx hb (0) dL_matches_1 ?_
  refine lv_aload_n hx hb dL_matches_2 rfl (lv_at hl 0 rfl) ?_
  refine lv_iload_n hx hb dL_matches_3 rfl (lv_at hl 1 rfl) ?_
  refine mk_goIE (EmbX cg ad) (va_runV (As := [.int (iI a1)]) (rest := [.int (iI 0), .ref (ad 73)]) ⟨hx, hb, hml, hown, hts⟩ hM (cwV 1 hts gL_matches_X5_matches rfl rfl rfl (by decide +kernel) ⟨Nat.le_of_ble_eq_true rfl, Nat.le_of_ble_eq_true rfl⟩) (mk_preV hK hN (hW.emb (EmbX cg ad)) 0 (by decide) rfl rfl rfl) rfl rfl hl.1 rfl (lv_room (Nat.le_of_ble_eq_true rfl)) dL_matches_4 ⟨Nat.le_refl _, Nat.le_refl _⟩) hW (fun v st1 hq H locs hW => ?_)
  obtain ⟨st2, est2⟩ : ∃ z, z = up 73 (fun k => k) st1 st := ⟨_, rfl⟩
  rw [← est2] at hW
  refine mk_i2lw hx hb dL_matches_7 ?_
  refine mk_last hx hb hK hW 73 (by decide) (fun _ => rfl) 2 rfl (j := 0) rfl (by omega) (by decide) dL_matches_8 (fun H locs hW => ?_)
  obtain ⟨st3, est3⟩ : ∃ z, z = stC st2 73 (fnU (st2 73) 0 (wr v)) := ⟨_, rfl⟩
  rw [← est3] at hW
  refine lv_goto (tgt := 15) hx hb dL_matches_9 (by decide) ?_
  refine mk_iconst hx hb (0) dL_matches_15 ?_
  exact mw_retI hx hb hr hlocks hW ⟨rfl, v, st1, hq, by rw [est3, est2]⟩ dL_matches_16

set_option maxHeartbeats 4000000 in
set_option maxRecDepth 100000 in
theorem c_L_net_okw (l : Launch) (cg : Nat → ClassId) (D : va_G) (ad : Nat → Nat) (st : Nat → Nat → Int) (a1 : Int) (Pq : Int → (Nat → Nat → Int) → Prop) (hM : MI l yX5_net wsX5_net ({ frames := 2, cells := 0, slots := 0, locals := 70 }) D vwCl (TY cg) 73 (celX cg) ad st [.ref (ad 0), .int (iI a1)] Pq) : WI l yL_net wsL_net ({ frames := 9, cells := 1, slots := 6, locals := 180 }) D vwCl (TY cg) 74 (celW cg) ad st [.ref (ad 0), .int (iI a1), .ref (ad 73)] (fun z st1 => z = 0 ∧ ∃ v u, Pq v u ∧ st1 = stC (up 73 (fun k => k) u st) 73 (fnU (up 73 (fun k => k) u st 73) 0 (wr v))) := by
  refine mw_open (cc := cL_net) (maxL := 4) (ret := (some .int)) (hh := [(0, 9, 12, 13)]) (by decide) rfl (Nat.le_of_ble_eq_true rfl) ?_
  intro p e s m args below meth c hx hb hml hr hown hts hlocks hK hN hargs ls hl hW hxK hxZ hxN htab
  have hown : s.vm.findClass RL = some m.cls := hown
  have hl : lv_has ls 4 [(0, .ref (ad 0)), (1, .int (iI a1)), (2, .ref (ad 73))] := hl
  refine W.widen (Nat.zero_le 1) (Nat.zero_le 6) ?_
  refine lv_aload_n hx hb dL_net_0 rfl (lv_at hl 2 rfl) ?_
  refine mk_iconst hx hb (0) dL_net_1 ?_
  refine lv_aload_n hx hb dL_net_2 rfl (lv_at hl 0 rfl) ?_
  refine lv_iload_n hx hb dL_net_3 rfl (lv_at hl 1 rfl) ?_
  refine mk_goIE (EmbX cg ad) (va_runV (As := [.int (iI a1)]) (rest := [.int (iI 0), .ref (ad 73)]) ⟨hx, hb, hml, hown, hts⟩ hM (cwV 1 hts gL_net_X5_net rfl rfl rfl (by decide +kernel) ⟨Nat.le_of_ble_eq_true rfl, Nat.le_of_ble_eq_true rfl⟩) (mk_preV hK hN (hW.emb (EmbX cg ad)) 0 (by decide) rfl rfl rfl) rfl rfl hl.1 rfl (lv_room (Nat.le_of_ble_eq_true rfl)) dL_net_4 ⟨Nat.le_refl _, Nat.le_refl _⟩) hW (fun v st1 hq H locs hW => ?_)
  obtain ⟨st2, est2⟩ : ∃ z, z = up 73 (fun k => k) st1 st := ⟨_, rfl⟩
  rw [← est2] at hW
  refine mk_i2lw hx hb dL_net_7 ?_
  refine mk_last hx hb hK hW 73 (by decide) (fun _ => rfl) 2 rfl (j := 0) rfl (by omega) (by decide) dL_net_8 (fun H locs hW => ?_)
  obtain ⟨st3, est3⟩ : ∃ z, z = stC st2 73 (fnU (st2 73) 0 (wr v)) := ⟨_, rfl⟩
  rw [← est3] at hW
  refine lv_goto (tgt := 15) hx hb dL_net_9 (by decide) ?_
  refine mk_iconst hx hb (0) dL_net_15 ?_
  exact mw_retI hx hb hr hlocks hW ⟨rfl, v, st1, hq, by rw [est3, est2]⟩ dL_net_16

set_option maxHeartbeats 4000000 in
set_option maxRecDepth 100000 in
theorem c_L_poolCost_okw (l : Launch) (cg : Nat → ClassId) (D : va_G) (ad : Nat → Nat) (st : Nat → Nat → Int) (a1 a2 : Int) (Pq : Int → (Nat → Nat → Int) → Prop) (hM : MI l yX5_poolCost wsX5_poolCost ({ frames := 2, cells := 0, slots := 0, locals := 60 }) D vwCl (TY cg) 73 (celX cg) ad st [.ref (ad 0), .int (iI a1), .int (iI a2)] Pq) : WI l yL_poolCost wsL_poolCost ({ frames := 9, cells := 1, slots := 6, locals := 180 }) D vwCl (TY cg) 74 (celW cg) ad st [.ref (ad 0), .int (iI a1), .int (iI a2), .ref (ad 73)] (fun z st1 => z = 0 ∧ ∃ v u, Pq v u ∧ st1 = stC (up 73 (fun k => k) u st) 73 (fnU (up 73 (fun k => k) u st 73) 0 (wr v))) := by
  refine mw_open (cc := cL_poolCost) (maxL := 5) (ret := (some .int)) (hh := [(0, 10, 13, 13)]) (by decide) rfl (Nat.le_of_ble_eq_true rfl) ?_
  intro p e s m args below meth c hx hb hml hr hown hts hlocks hK hN hargs ls hl hW hxK hxZ hxN htab
  have hown : s.vm.findClass RL = some m.cls := hown
  have hl : lv_has ls 5 [(0, .ref (ad 0)), (1, .int (iI a1)), (2, .int (iI a2)), (3, .ref (ad 73))] := hl
  refine W.widen (Nat.zero_le 1) (Nat.zero_le 6) ?_
  refine lv_aload_n hx hb dL_poolCost_0 rfl (lv_at hl 3 rfl) ?_
  refine mk_iconst hx hb (0) dL_poolCost_1 ?_
  refine lv_aload_n hx hb dL_poolCost_2 rfl (lv_at hl 0 rfl) ?_
  refine lv_iload_n hx hb dL_poolCost_3 rfl (lv_at hl 1 rfl) ?_
  refine lv_iload_n hx hb dL_poolCost_4 rfl (lv_at hl 2 rfl) ?_
  refine mk_goIE (EmbX cg ad) (va_runV (As := [.int (iI a1), .int (iI a2)]) (rest := [.int (iI 0), .ref (ad 73)]) ⟨hx, hb, hml, hown, hts⟩ hM (cwV 2 hts gL_poolCost_X5_poolCost rfl rfl rfl (by decide +kernel) ⟨Nat.le_of_ble_eq_true rfl, Nat.le_of_ble_eq_true rfl⟩) (mk_preV hK hN (hW.emb (EmbX cg ad)) 0 (by decide) rfl rfl rfl) rfl rfl hl.1 rfl (lv_room (Nat.le_of_ble_eq_true rfl)) dL_poolCost_5 ⟨Nat.le_refl _, Nat.le_refl _⟩) hW (fun v st1 hq H locs hW => ?_)
  obtain ⟨st2, est2⟩ : ∃ z, z = up 73 (fun k => k) st1 st := ⟨_, rfl⟩
  rw [← est2] at hW
  refine mk_i2lw hx hb dL_poolCost_8 ?_
  refine mk_last hx hb hK hW 73 (by decide) (fun _ => rfl) 2 rfl (j := 0) rfl (by omega) (by decide) dL_poolCost_9 (fun H locs hW => ?_)
  obtain ⟨st3, est3⟩ : ∃ z, z = stC st2 73 (fnU (st2 73) 0 (wr v)) := ⟨_, rfl⟩
  rw [← est3] at hW
  refine lv_goto (tgt := 17) hx hb dL_poolCost_10 (by decide) ?_
  refine mk_iconst hx hb (0) dL_poolCost_17 ?_
  exact mw_retI hx hb hr hlocks hW ⟨rfl, v, st1, hq, by rw [est3, est2]⟩ dL_poolCost_18

set_option maxHeartbeats 4000000 in
set_option maxRecDepth 100000 in
theorem c_L_poolUnits_okw (l : Launch) (cg : Nat → ClassId) (D : va_G) (ad : Nat → Nat) (st : Nat → Nat → Int) (a1 a2 : Int) (Pq : Int → (Nat → Nat → Int) → Prop) (hM : MI l yX5_poolUnits wsX5_poolUnits ({ frames := 2, cells := 0, slots := 0, locals := 60 }) D vwCl (TY cg) 73 (celX cg) ad st [.ref (ad 0), .int (iI a1), .int (iI a2)] Pq) : WI l yL_poolUnits wsL_poolUnits ({ frames := 9, cells := 1, slots := 6, locals := 180 }) D vwCl (TY cg) 74 (celW cg) ad st [.ref (ad 0), .int (iI a1), .int (iI a2), .ref (ad 73)] (fun z st1 => z = 0 ∧ ∃ v u, Pq v u ∧ st1 = stC (up 73 (fun k => k) u st) 73 (fnU (up 73 (fun k => k) u st 73) 0 (wr v))) := by
  refine mw_open (cc := cL_poolUnits) (maxL := 5) (ret := (some .int)) (hh := [(0, 10, 13, 13)]) (by decide) rfl (Nat.le_of_ble_eq_true rfl) ?_
  intro p e s m args below meth c hx hb hml hr hown hts hlocks hK hN hargs ls hl hW hxK hxZ hxN htab
  have hown : s.vm.findClass RL = some m.cls := hown
  have hl : lv_has ls 5 [(0, .ref (ad 0)), (1, .int (iI a1)), (2, .int (iI a2)), (3, .ref (ad 73))] := hl
  refine W.widen (Nat.zero_le 1) (Nat.zero_le 6) ?_
  refine lv_aload_n hx hb dL_poolUnits_0 rfl (lv_at hl 3 rfl) ?_
  refine mk_iconst hx hb (0) dL_poolUnits_1 ?_
  refine lv_aload_n hx hb dL_poolUnits_2 rfl (lv_at hl 0 rfl) ?_
  refine lv_iload_n hx hb dL_poolUnits_3 rfl (lv_at hl 1 rfl) ?_
  refine lv_iload_n hx hb dL_poolUnits_4 rfl (lv_at hl 2 rfl) ?_
  refine mk_goIE (EmbX cg ad) (va_runV (As := [.int (iI a1), .int (iI a2)]) (rest := [.int (iI 0), .ref (ad 73)]) ⟨hx, hb, hml, hown, hts⟩ hM (cwV 2 hts gL_poolUnits_X5_poolUnits rfl rfl rfl (by decide +kernel) ⟨Nat.le_of_ble_eq_true rfl, Nat.le_of_ble_eq_true rfl⟩) (mk_preV hK hN (hW.emb (EmbX cg ad)) 0 (by decide) rfl rfl rfl) rfl rfl hl.1 rfl (lv_room (Nat.le_of_ble_eq_true rfl)) dL_poolUnits_5 ⟨Nat.le_refl _, Nat.le_refl _⟩) hW (fun v st1 hq H locs hW => ?_)
  obtain ⟨st2, est2⟩ : ∃ z, z = up 73 (fun k => k) st1 st := ⟨_, rfl⟩
  rw [← est2] at hW
  refine mk_i2lw hx hb dL_poolUnits_8 ?_
  refine mk_last hx hb hK hW 73 (by decide) (fun _ => rfl) 2 rfl (j := 0) rfl (by omega) (by decide) dL_poolUnits_9 (fun H locs hW => ?_)
  obtain ⟨st3, est3⟩ : ∃ z, z = stC st2 73 (fnU (st2 73) 0 (wr v)) := ⟨_, rfl⟩
  rw [← est3] at hW
  refine lv_goto (tgt := 17) hx hb dL_poolUnits_10 (by decide) ?_
  refine mk_iconst hx hb (0) dL_poolUnits_17 ?_
  exact mw_retI hx hb hr hlocks hW ⟨rfl, v, st1, hq, by rw [est3, est2]⟩ dL_poolUnits_18

set_option maxHeartbeats 4000000 in
set_option maxRecDepth 100000 in
theorem c_L_proceedsOf_okw (l : Launch) (cg : Nat → ClassId) (D : va_G) (ad : Nat → Nat) (st : Nat → Nat → Int) (a1 a2 : Int) (Pq : Int → (Nat → Nat → Int) → Prop) (hM : MI l yX5_proceedsOf wsX5_proceedsOf ({ frames := 2, cells := 0, slots := 0, locals := 46 }) D vwCl (TY cg) 73 (celX cg) ad st [.ref (ad 0), .int (iI a1), .int (iI a2)] Pq) : WI l yL_proceedsOf wsL_proceedsOf ({ frames := 9, cells := 1, slots := 6, locals := 180 }) D vwCl (TY cg) 74 (celW cg) ad st [.ref (ad 0), .int (iI a1), .int (iI a2), .ref (ad 73)] (fun z st1 => z = 0 ∧ ∃ v u, Pq v u ∧ st1 = stC (up 73 (fun k => k) u st) 73 (fnU (up 73 (fun k => k) u st 73) 0 (wr v))) := by
  refine mw_open (cc := cL_proceedsOf) (maxL := 5) (ret := (some .int)) (hh := [(0, 10, 13, 13)]) (by decide) rfl (Nat.le_of_ble_eq_true rfl) ?_
  intro p e s m args below meth c hx hb hml hr hown hts hlocks hK hN hargs ls hl hW hxK hxZ hxN htab
  have hown : s.vm.findClass RL = some m.cls := hown
  have hl : lv_has ls 5 [(0, .ref (ad 0)), (1, .int (iI a1)), (2, .int (iI a2)), (3, .ref (ad 73))] := hl
  refine W.widen (Nat.zero_le 1) (Nat.zero_le 6) ?_
  refine lv_aload_n hx hb dL_proceedsOf_0 rfl (lv_at hl 3 rfl) ?_
  refine mk_iconst hx hb (0) dL_proceedsOf_1 ?_
  refine lv_aload_n hx hb dL_proceedsOf_2 rfl (lv_at hl 0 rfl) ?_
  refine lv_iload_n hx hb dL_proceedsOf_3 rfl (lv_at hl 1 rfl) ?_
  refine lv_iload_n hx hb dL_proceedsOf_4 rfl (lv_at hl 2 rfl) ?_
  refine mk_goIE (EmbX cg ad) (va_runV (As := [.int (iI a1), .int (iI a2)]) (rest := [.int (iI 0), .ref (ad 73)]) ⟨hx, hb, hml, hown, hts⟩ hM (cwV 2 hts gL_proceedsOf_X5_proceedsOf rfl rfl rfl (by decide +kernel) ⟨Nat.le_of_ble_eq_true rfl, Nat.le_of_ble_eq_true rfl⟩) (mk_preV hK hN (hW.emb (EmbX cg ad)) 0 (by decide) rfl rfl rfl) rfl rfl hl.1 rfl (lv_room (Nat.le_of_ble_eq_true rfl)) dL_proceedsOf_5 ⟨Nat.le_refl _, Nat.le_refl _⟩) hW (fun v st1 hq H locs hW => ?_)
  obtain ⟨st2, est2⟩ : ∃ z, z = up 73 (fun k => k) st1 st := ⟨_, rfl⟩
  rw [← est2] at hW
  refine mk_i2lw hx hb dL_proceedsOf_8 ?_
  refine mk_last hx hb hK hW 73 (by decide) (fun _ => rfl) 2 rfl (j := 0) rfl (by omega) (by decide) dL_proceedsOf_9 (fun H locs hW => ?_)
  obtain ⟨st3, est3⟩ : ∃ z, z = stC st2 73 (fnU (st2 73) 0 (wr v)) := ⟨_, rfl⟩
  rw [← est3] at hW
  refine lv_goto (tgt := 17) hx hb dL_proceedsOf_10 (by decide) ?_
  refine mk_iconst hx hb (0) dL_proceedsOf_17 ?_
  exact mw_retI hx hb hr hlocks hW ⟨rfl, v, st1, hq, by rw [est3, est2]⟩ dL_proceedsOf_18

set_option maxHeartbeats 4000000 in
set_option maxRecDepth 100000 in
theorem c_L_saleDay_okw (l : Launch) (cg : Nat → ClassId) (D : va_G) (ad : Nat → Nat) (st : Nat → Nat → Int) (a1 a2 : Int) (Pq : Int → (Nat → Nat → Int) → Prop) (hM : MI l yX5_saleDay wsX5_saleDay ({ frames := 2, cells := 0, slots := 0, locals := 46 }) D vwCl (TY cg) 73 (celX cg) ad st [.ref (ad 0), .int (iI a1), .int (iI a2)] Pq) : WI l yL_saleDay wsL_saleDay ({ frames := 9, cells := 1, slots := 6, locals := 180 }) D vwCl (TY cg) 74 (celW cg) ad st [.ref (ad 0), .int (iI a1), .int (iI a2), .ref (ad 73)] (fun z st1 => z = 0 ∧ ∃ v u, Pq v u ∧ st1 = stC (up 73 (fun k => k) u st) 73 (fnU (up 73 (fun k => k) u st 73) 0 (wr v))) := by
  refine mw_open (cc := cL_saleDay) (maxL := 5) (ret := (some .int)) (hh := [(0, 10, 13, 13)]) (by decide) rfl (Nat.le_of_ble_eq_true rfl) ?_
  intro p e s m args below meth c hx hb hml hr hown hts hlocks hK hN hargs ls hl hW hxK hxZ hxN htab
  have hown : s.vm.findClass RL = some m.cls := hown
  have hl : lv_has ls 5 [(0, .ref (ad 0)), (1, .int (iI a1)), (2, .int (iI a2)), (3, .ref (ad 73))] := hl
  refine W.widen (Nat.zero_le 1) (Nat.zero_le 6) ?_
  refine lv_aload_n hx hb dL_saleDay_0 rfl (lv_at hl 3 rfl) ?_
  refine mk_iconst hx hb (0) dL_saleDay_1 ?_
  refine lv_aload_n hx hb dL_saleDay_2 rfl (lv_at hl 0 rfl) ?_
  refine lv_iload_n hx hb dL_saleDay_3 rfl (lv_at hl 1 rfl) ?_
  refine lv_iload_n hx hb dL_saleDay_4 rfl (lv_at hl 2 rfl) ?_
  refine mk_goIE (EmbX cg ad) (va_runV (As := [.int (iI a1), .int (iI a2)]) (rest := [.int (iI 0), .ref (ad 73)]) ⟨hx, hb, hml, hown, hts⟩ hM (cwV 2 hts gL_saleDay_X5_saleDay rfl rfl rfl (by decide +kernel) ⟨Nat.le_of_ble_eq_true rfl, Nat.le_of_ble_eq_true rfl⟩) (mk_preV hK hN (hW.emb (EmbX cg ad)) 0 (by decide) rfl rfl rfl) rfl rfl hl.1 rfl (lv_room (Nat.le_of_ble_eq_true rfl)) dL_saleDay_5 ⟨Nat.le_refl _, Nat.le_refl _⟩) hW (fun v st1 hq H locs hW => ?_)
  obtain ⟨st2, est2⟩ : ∃ z, z = up 73 (fun k => k) st1 st := ⟨_, rfl⟩
  rw [← est2] at hW
  refine mk_i2lw hx hb dL_saleDay_8 ?_
  refine mk_last hx hb hK hW 73 (by decide) (fun _ => rfl) 2 rfl (j := 0) rfl (by omega) (by decide) dL_saleDay_9 (fun H locs hW => ?_)
  obtain ⟨st3, est3⟩ : ∃ z, z = stC st2 73 (fnU (st2 73) 0 (wr v)) := ⟨_, rfl⟩
  rw [← est3] at hW
  refine lv_goto (tgt := 17) hx hb dL_saleDay_10 (by decide) ?_
  refine mk_iconst hx hb (0) dL_saleDay_17 ?_
  exact mw_retI hx hb hr hlocks hW ⟨rfl, v, st1, hq, by rw [est3, est2]⟩ dL_saleDay_18

set_option maxHeartbeats 4000000 in
set_option maxRecDepth 100000 in
theorem c_L_sell_okw (l : Launch) (cg : Nat → ClassId) (D : va_G) (ad : Nat → Nat) (st : Nat → Nat → Int) (a1 a2 a3 a4 : Int) (Pq : Int → (Nat → Nat → Int) → Prop) (hM : MI l yX5_sell wsX5_sell ({ frames := 5, cells := 0, slots := 0, locals := 130 }) D vwCl (TY cg) 73 (celX cg) ad st [.ref (ad 0), .int (iI a1), .int (iI a2), .int (iI a3), .int (iI a4)] Pq) : WI l yL_sell wsL_sell ({ frames := 9, cells := 1, slots := 6, locals := 180 }) D vwCl (TY cg) 74 (celW cg) ad st [.ref (ad 0), .int (iI a1), .int (iI a2), .int (iI a3), .int (iI a4), .ref (ad 73)] (fun z st1 => z = 0 ∧ ∃ v u, Pq v u ∧ st1 = stC (up 73 (fun k => k) u st) 73 (fnU (up 73 (fun k => k) u st 73) 0 (wr v))) := by
  refine mw_open (cc := cL_sell) (maxL := 7) (ret := (some .int)) (hh := [(0, 14, 17, 13), (0, 14, 21, 15), (0, 14, 25, 17)]) (by decide) rfl (Nat.le_of_ble_eq_true rfl) ?_
  intro p e s m args below meth c hx hb hml hr hown hts hlocks hK hN hargs ls hl hW hxK hxZ hxN htab
  have hown : s.vm.findClass RL = some m.cls := hown
  have hl : lv_has ls 7 [(0, .ref (ad 0)), (1, .int (iI a1)), (2, .int (iI a2)), (3, .int (iI a3)), (4, .int (iI a4)), (5, .ref (ad 73))] := hl
  refine W.widen (Nat.zero_le 1) (Nat.zero_le 6) ?_
  refine lv_aload hx hb dL_sell_0 (lv_at hl 5 rfl) ?_
  refine mk_iconst hx hb (0) dL_sell_2 ?_
  refine lv_aload_n hx hb dL_sell_3 rfl (lv_at hl 0 rfl) ?_
  refine lv_iload_n hx hb dL_sell_4 rfl (lv_at hl 1 rfl) ?_
  refine lv_iload_n hx hb dL_sell_5 rfl (lv_at hl 2 rfl) ?_
  refine lv_iload_n hx hb dL_sell_6 rfl (lv_at hl 3 rfl) ?_
  refine lv_iload hx hb dL_sell_7 (lv_at hl 4 rfl) ?_
  refine mk_goIE (EmbX cg ad) (va_runV (As := [.int (iI a1), .int (iI a2), .int (iI a3), .int (iI a4)]) (rest := [.int (iI 0), .ref (ad 73)]) ⟨hx, hb, hml, hown, hts⟩ hM (cwV 4 hts gL_sell_X5_sell rfl rfl rfl (by decide +kernel) ⟨Nat.le_of_ble_eq_true rfl, Nat.le_of_ble_eq_true rfl⟩) (mk_preV hK hN (hW.emb (EmbX cg ad)) 0 (by decide) rfl rfl rfl) rfl rfl hl.1 rfl (lv_room (Nat.le_of_ble_eq_true rfl)) dL_sell_9 ⟨Nat.le_refl _, Nat.le_refl _⟩) hW (fun v st1 hq H locs hW => ?_)
  obtain ⟨st2, est2⟩ : ∃ z, z = up 73 (fun k => k) st1 st := ⟨_, rfl⟩
  rw [← est2] at hW
  refine mk_i2lw hx hb dL_sell_12 ?_
  refine mk_last hx hb hK hW 73 (by decide) (fun _ => rfl) 2 rfl (j := 0) rfl (by omega) (by decide) dL_sell_13 (fun H locs hW => ?_)
  obtain ⟨st3, est3⟩ : ∃ z, z = stC st2 73 (fnU (st2 73) 0 (wr v)) := ⟨_, rfl⟩
  rw [← est3] at hW
  refine lv_goto (tgt := 29) hx hb dL_sell_14 (by decide) ?_
  refine mk_iconst hx hb (0) dL_sell_29 ?_
  exact mw_retI hx hb hr hlocks hW ⟨rfl, v, st1, hq, by rw [est3, est2]⟩ dL_sell_30

set_option maxHeartbeats 4000000 in
set_option maxRecDepth 100000 in
theorem c_L_setAllowance_okw (l : Launch) (cg : Nat → ClassId) (D : va_G) (ad : Nat → Nat) (st : Nat → Nat → Int) (a1 a2 : Int) (Pq : Int → (Nat → Nat → Int) → Prop) (hM : MI l yX5_setAllowance wsX5_setAllowance ({ frames := 1, cells := 0, slots := 0, locals := 50 }) D vwCl (TY cg) 73 (celX cg) ad st [.ref (ad 0), .int (iI a1), .int (iI a2)] Pq) : WI l yL_setAllowance wsL_setAllowance ({ frames := 9, cells := 1, slots := 6, locals := 180 }) D vwCl (TY cg) 74 (celW cg) ad st [.ref (ad 0), .int (iI a1), .int (iI a2), .ref (ad 73)] (fun z st1 => z = 0 ∧ ∃ v u, Pq v u ∧ st1 = stC (up 73 (fun k => k) u st) 73 (fnU (up 73 (fun k => k) u st 73) 0 (wr v))) := by
  refine mw_open (cc := cL_setAllowance) (maxL := 5) (ret := (some .int)) (hh := [(0, 10, 13, 13), (0, 10, 17, 15)]) (by decide) rfl (Nat.le_of_ble_eq_true rfl) ?_
  intro p e s m args below meth c hx hb hml hr hown hts hlocks hK hN hargs ls hl hW hxK hxZ hxN htab
  have hown : s.vm.findClass RL = some m.cls := hown
  have hl : lv_has ls 5 [(0, .ref (ad 0)), (1, .int (iI a1)), (2, .int (iI a2)), (3, .ref (ad 73))] := hl
  refine W.widen (Nat.zero_le 1) (Nat.zero_le 6) ?_
  refine lv_aload_n hx hb dL_setAllowance_0 rfl (lv_at hl 3 rfl) ?_
  refine mk_iconst hx hb (0) dL_setAllowance_1 ?_
  refine lv_aload_n hx hb dL_setAllowance_2 rfl (lv_at hl 0 rfl) ?_
  refine lv_iload_n hx hb dL_setAllowance_3 rfl (lv_at hl 1 rfl) ?_
  refine lv_iload_n hx hb dL_setAllowance_4 rfl (lv_at hl 2 rfl) ?_
  refine mk_goIE (EmbX cg ad) (va_runV (As := [.int (iI a1), .int (iI a2)]) (rest := [.int (iI 0), .ref (ad 73)]) ⟨hx, hb, hml, hown, hts⟩ hM (cwV 2 hts gL_setAllowance_X5_setAllowance rfl rfl rfl (by decide +kernel) ⟨Nat.le_of_ble_eq_true rfl, Nat.le_of_ble_eq_true rfl⟩) (mk_preV hK hN (hW.emb (EmbX cg ad)) 0 (by decide) rfl rfl rfl) rfl rfl hl.1 rfl (lv_room (Nat.le_of_ble_eq_true rfl)) dL_setAllowance_5 ⟨Nat.le_refl _, Nat.le_refl _⟩) hW (fun v st1 hq H locs hW => ?_)
  obtain ⟨st2, est2⟩ : ∃ z, z = up 73 (fun k => k) st1 st := ⟨_, rfl⟩
  rw [← est2] at hW
  refine mk_i2lw hx hb dL_setAllowance_8 ?_
  refine mk_last hx hb hK hW 73 (by decide) (fun _ => rfl) 2 rfl (j := 0) rfl (by omega) (by decide) dL_setAllowance_9 (fun H locs hW => ?_)
  obtain ⟨st3, est3⟩ : ∃ z, z = stC st2 73 (fnU (st2 73) 0 (wr v)) := ⟨_, rfl⟩
  rw [← est3] at hW
  refine lv_goto (tgt := 21) hx hb dL_setAllowance_10 (by decide) ?_
  refine mk_iconst hx hb (0) dL_setAllowance_21 ?_
  exact mw_retI hx hb hr hlocks hW ⟨rfl, v, st1, hq, by rw [est3, est2]⟩ dL_setAllowance_22

set_option maxHeartbeats 4000000 in
set_option maxRecDepth 100000 in
theorem c_L_setWindow_okw (l : Launch) (cg : Nat → ClassId) (D : va_G) (ad : Nat → Nat) (st : Nat → Nat → Int) (a1 : Int) (Pq : Int → (Nat → Nat → Int) → Prop) (hM : MI l yX5_setWindow wsX5_setWindow ({ frames := 5, cells := 0, slots := 0, locals := 130 }) D vwCl (TY cg) 73 (celX cg) ad st [.ref (ad 0), .int (iI a1)] Pq) : WI l yL_setWindow wsL_setWindow ({ frames := 9, cells := 1, slots := 6, locals := 180 }) D vwCl (TY cg) 74 (celW cg) ad st [.ref (ad 0), .int (iI a1), .ref (ad 73)] (fun z st1 => z = 0 ∧ ∃ v u, Pq v u ∧ st1 = stC (up 73 (fun k => k) u st) 73 (fnU (up 73 (fun k => k) u st 73) 0 (wr v))) := by
  refine mw_open (cc := cL_setWindow) (maxL := 4) (ret := (some .int)) (hh := [(0, 9, 12, 15)]) (by decide) rfl (Nat.le_of_ble_eq_true rfl) ?_
  intro p e s m args below meth c hx hb hml hr hown hts hlocks hK hN hargs ls hl hW hxK hxZ hxN htab
  have hown : s.vm.findClass RL = some m.cls := hown
  have hl : lv_has ls 4 [(0, .ref (ad 0)), (1, .int (iI a1)), (2, .ref (ad 73))] := hl
  refine W.widen (Nat.zero_le 1) (Nat.zero_le 6) ?_
  refine lv_aload_n hx hb dL_setWindow_0 rfl (lv_at hl 2 rfl) ?_
  refine mk_iconst hx hb (0) dL_setWindow_1 ?_
  refine lv_aload_n hx hb dL_setWindow_2 rfl (lv_at hl 0 rfl) ?_
  refine lv_iload_n hx hb dL_setWindow_3 rfl (lv_at hl 1 rfl) ?_
  refine mk_goIE (EmbX cg ad) (va_runV (As := [.int (iI a1)]) (rest := [.int (iI 0), .ref (ad 73)]) ⟨hx, hb, hml, hown, hts⟩ hM (cwV 1 hts gL_setWindow_X5_setWindow rfl rfl rfl (by decide +kernel) ⟨Nat.le_of_ble_eq_true rfl, Nat.le_of_ble_eq_true rfl⟩) (mk_preV hK hN (hW.emb (EmbX cg ad)) 0 (by decide) rfl rfl rfl) rfl rfl hl.1 rfl (lv_room (Nat.le_of_ble_eq_true rfl)) dL_setWindow_4 ⟨Nat.le_refl _, Nat.le_refl _⟩) hW (fun v st1 hq H locs hW => ?_)
  obtain ⟨st2, est2⟩ : ∃ z, z = up 73 (fun k => k) st1 st := ⟨_, rfl⟩
  rw [← est2] at hW
  refine mk_i2lw hx hb dL_setWindow_7 ?_
  refine mk_last hx hb hK hW 73 (by decide) (fun _ => rfl) 2 rfl (j := 0) rfl (by omega) (by decide) dL_setWindow_8 (fun H locs hW => ?_)
  obtain ⟨st3, est3⟩ : ∃ z, z = stC st2 73 (fnU (st2 73) 0 (wr v)) := ⟨_, rfl⟩
  rw [← est3] at hW
  refine lv_goto (tgt := 15) hx hb dL_setWindow_9 (by decide) ?_
  refine mk_iconst hx hb (0) dL_setWindow_15 ?_
  exact mw_retI hx hb hr hlocks hW ⟨rfl, v, st1, hq, by rw [est3, est2]⟩ dL_setWindow_16

set_option maxHeartbeats 4000000 in
set_option maxRecDepth 100000 in
theorem c_L_split_okw (l : Launch) (cg : Nat → ClassId) (D : va_G) (ad : Nat → Nat) (st : Nat → Nat → Int) (a1 a2 a3 : Int) (Pq : Int → (Nat → Nat → Int) → Prop) (hM : MI l yX5_split wsX5_split ({ frames := 5, cells := 0, slots := 0, locals := 130 }) D vwCl (TY cg) 73 (celX cg) ad st [.ref (ad 0), .int (iI a1), .int (iI a2), .int (iI a3)] Pq) : WI l yL_split wsL_split ({ frames := 9, cells := 1, slots := 6, locals := 180 }) D vwCl (TY cg) 74 (celW cg) ad st [.ref (ad 0), .int (iI a1), .int (iI a2), .int (iI a3), .ref (ad 73)] (fun z st1 => z = 0 ∧ ∃ v u, Pq v u ∧ st1 = stC (up 73 (fun k => k) u st) 73 (fnU (up 73 (fun k => k) u st 73) 0 (wr v))) := by
  refine mw_open (cc := cL_split) (maxL := 6) (ret := (some .int)) (hh := [(0, 12, 15, 13), (0, 12, 19, 15), (0, 12, 23, 17)]) (by decide) rfl (Nat.le_of_ble_eq_true rfl) ?_
  intro p e s m args below meth c hx hb hml hr hown hts hlocks hK hN hargs ls hl hW hxK hxZ hxN htab
  have hown : s.vm.findClass RL = some m.cls := hown
  have hl : lv_has ls 6 [(0, .ref (ad 0)), (1, .int (iI a1)), (2, .int (iI a2)), (3, .int (iI a3)), (4, .ref (ad 73))] := hl
  refine W.widen (Nat.zero_le 1) (Nat.zero_le 6) ?_
  refine lv_aload hx hb dL_split_0 (lv_at hl 4 rfl) ?_
  refine mk_iconst hx hb (0) dL_split_2 ?_
  refine lv_aload_n hx hb dL_split_3 rfl (lv_at hl 0 rfl) ?_
  refine lv_iload_n hx hb dL_split_4 rfl (lv_at hl 1 rfl) ?_
  refine lv_iload_n hx hb dL_split_5 rfl (lv_at hl 2 rfl) ?_
  refine lv_iload_n hx hb dL_split_6 rfl (lv_at hl 3 rfl) ?_
  refine mk_goIE (EmbX cg ad) (va_runV (As := [.int (iI a1), .int (iI a2), .int (iI a3)]) (rest := [.int (iI 0), .ref (ad 73)]) ⟨hx, hb, hml, hown, hts⟩ hM (cwV 3 hts gL_split_X5_split rfl rfl rfl (by decide +kernel) ⟨Nat.le_of_ble_eq_true rfl, Nat.le_of_ble_eq_true rfl⟩) (mk_preV hK hN (hW.emb (EmbX cg ad)) 0 (by decide) rfl rfl rfl) rfl rfl hl.1 rfl (lv_room (Nat.le_of_ble_eq_true rfl)) dL_split_7 ⟨Nat.le_refl _, Nat.le_refl _⟩) hW (fun v st1 hq H locs hW => ?_)
  obtain ⟨st2, est2⟩ : ∃ z, z = up 73 (fun k => k) st1 st := ⟨_, rfl⟩
  rw [← est2] at hW
  refine mk_i2lw hx hb dL_split_10 ?_
  refine mk_last hx hb hK hW 73 (by decide) (fun _ => rfl) 2 rfl (j := 0) rfl (by omega) (by decide) dL_split_11 (fun H locs hW => ?_)
  obtain ⟨st3, est3⟩ : ∃ z, z = stC st2 73 (fnU (st2 73) 0 (wr v)) := ⟨_, rfl⟩
  rw [← est3] at hW
  refine lv_goto (tgt := 27) hx hb dL_split_12 (by decide) ?_
  refine mk_iconst hx hb (0) dL_split_27 ?_
  exact mw_retI hx hb hr hlocks hW ⟨rfl, v, st1, hq, by rw [est3, est2]⟩ dL_split_28

set_option maxHeartbeats 4000000 in
set_option maxRecDepth 100000 in
theorem c_L_taxable_okw (l : Launch) (cg : Nat → ClassId) (D : va_G) (ad : Nat → Nat) (st : Nat → Nat → Int) (a1 : Int) (Pq : Int → (Nat → Nat → Int) → Prop) (hM : MI l yX5_taxable wsX5_taxable ({ frames := 4, cells := 0, slots := 0, locals := 130 }) D vwCl (TY cg) 73 (celX cg) ad st [.ref (ad 0), .int (iI a1)] Pq) : WI l yL_taxable wsL_taxable ({ frames := 9, cells := 1, slots := 6, locals := 180 }) D vwCl (TY cg) 74 (celW cg) ad st [.ref (ad 0), .int (iI a1), .ref (ad 73)] (fun z st1 => z = 0 ∧ ∃ v u, Pq v u ∧ st1 = stC (up 73 (fun k => k) u st) 73 (fnU (up 73 (fun k => k) u st 73) 0 (wr v))) := by
  refine mw_open (cc := cL_taxable) (maxL := 4) (ret := (some .int)) (hh := [(0, 9, 12, 13)]) (by decide) rfl (Nat.le_of_ble_eq_true rfl) ?_
  intro p e s m args below meth c hx hb hml hr hown hts hlocks hK hN hargs ls hl hW hxK hxZ hxN htab
  have hown : s.vm.findClass RL = some m.cls := hown
  have hl : lv_has ls 4 [(0, .ref (ad 0)), (1, .int (iI a1)), (2, .ref (ad 73))] := hl
  refine W.widen (Nat.zero_le 1) (Nat.zero_le 6) ?_
  refine lv_aload_n hx hb dL_taxable_0 rfl (lv_at hl 2 rfl) ?_
  refine mk_iconst hx hb (0) dL_taxable_1 ?_
  refine lv_aload_n hx hb dL_taxable_2 rfl (lv_at hl 0 rfl) ?_
  refine lv_iload_n hx hb dL_taxable_3 rfl (lv_at hl 1 rfl) ?_
  refine mk_goIE (EmbX cg ad) (va_runV (As := [.int (iI a1)]) (rest := [.int (iI 0), .ref (ad 73)]) ⟨hx, hb, hml, hown, hts⟩ hM (cwV 1 hts gL_taxable_X5_taxable rfl rfl rfl (by decide +kernel) ⟨Nat.le_of_ble_eq_true rfl, Nat.le_of_ble_eq_true rfl⟩) (mk_preV hK hN (hW.emb (EmbX cg ad)) 0 (by decide) rfl rfl rfl) rfl rfl hl.1 rfl (lv_room (Nat.le_of_ble_eq_true rfl)) dL_taxable_4 ⟨Nat.le_refl _, Nat.le_refl _⟩) hW (fun v st1 hq H locs hW => ?_)
  obtain ⟨st2, est2⟩ : ∃ z, z = up 73 (fun k => k) st1 st := ⟨_, rfl⟩
  rw [← est2] at hW
  refine mk_i2lw hx hb dL_taxable_7 ?_
  refine mk_last hx hb hK hW 73 (by decide) (fun _ => rfl) 2 rfl (j := 0) rfl (by omega) (by decide) dL_taxable_8 (fun H locs hW => ?_)
  obtain ⟨st3, est3⟩ : ∃ z, z = stC st2 73 (fnU (st2 73) 0 (wr v)) := ⟨_, rfl⟩
  rw [← est3] at hW
  refine lv_goto (tgt := 15) hx hb dL_taxable_9 (by decide) ?_
  refine mk_iconst hx hb (0) dL_taxable_15 ?_
  exact mw_retI hx hb hr hlocks hW ⟨rfl, v, st1, hq, by rw [est3, est2]⟩ dL_taxable_16

set_option maxHeartbeats 4000000 in
set_option maxRecDepth 100000 in
theorem c_L_unitsOf_okw (l : Launch) (cg : Nat → ClassId) (D : va_G) (ad : Nat → Nat) (st : Nat → Nat → Int) (a1 a2 : Int) (Pq : Int → (Nat → Nat → Int) → Prop) (hM : MI l yX5_unitsOf wsX5_unitsOf ({ frames := 2, cells := 0, slots := 0, locals := 46 }) D vwCl (TY cg) 73 (celX cg) ad st [.ref (ad 0), .int (iI a1), .int (iI a2)] Pq) : WI l yL_unitsOf wsL_unitsOf ({ frames := 9, cells := 1, slots := 6, locals := 180 }) D vwCl (TY cg) 74 (celW cg) ad st [.ref (ad 0), .int (iI a1), .int (iI a2), .ref (ad 73)] (fun z st1 => z = 0 ∧ ∃ v u, Pq v u ∧ st1 = stC (up 73 (fun k => k) u st) 73 (fnU (up 73 (fun k => k) u st 73) 0 (wr v))) := by
  refine mw_open (cc := cL_unitsOf) (maxL := 5) (ret := (some .int)) (hh := [(0, 10, 13, 13)]) (by decide) rfl (Nat.le_of_ble_eq_true rfl) ?_
  intro p e s m args below meth c hx hb hml hr hown hts hlocks hK hN hargs ls hl hW hxK hxZ hxN htab
  have hown : s.vm.findClass RL = some m.cls := hown
  have hl : lv_has ls 5 [(0, .ref (ad 0)), (1, .int (iI a1)), (2, .int (iI a2)), (3, .ref (ad 73))] := hl
  refine W.widen (Nat.zero_le 1) (Nat.zero_le 6) ?_
  refine lv_aload_n hx hb dL_unitsOf_0 rfl (lv_at hl 3 rfl) ?_
  refine mk_iconst hx hb (0) dL_unitsOf_1 ?_
  refine lv_aload_n hx hb dL_unitsOf_2 rfl (lv_at hl 0 rfl) ?_
  refine lv_iload_n hx hb dL_unitsOf_3 rfl (lv_at hl 1 rfl) ?_
  refine lv_iload_n hx hb dL_unitsOf_4 rfl (lv_at hl 2 rfl) ?_
  refine mk_goIE (EmbX cg ad) (va_runV (As := [.int (iI a1), .int (iI a2)]) (rest := [.int (iI 0), .ref (ad 73)]) ⟨hx, hb, hml, hown, hts⟩ hM (cwV 2 hts gL_unitsOf_X5_unitsOf rfl rfl rfl (by decide +kernel) ⟨Nat.le_of_ble_eq_true rfl, Nat.le_of_ble_eq_true rfl⟩) (mk_preV hK hN (hW.emb (EmbX cg ad)) 0 (by decide) rfl rfl rfl) rfl rfl hl.1 rfl (lv_room (Nat.le_of_ble_eq_true rfl)) dL_unitsOf_5 ⟨Nat.le_refl _, Nat.le_refl _⟩) hW (fun v st1 hq H locs hW => ?_)
  obtain ⟨st2, est2⟩ : ∃ z, z = up 73 (fun k => k) st1 st := ⟨_, rfl⟩
  rw [← est2] at hW
  refine mk_i2lw hx hb dL_unitsOf_8 ?_
  refine mk_last hx hb hK hW 73 (by decide) (fun _ => rfl) 2 rfl (j := 0) rfl (by omega) (by decide) dL_unitsOf_9 (fun H locs hW => ?_)
  obtain ⟨st3, est3⟩ : ∃ z, z = stC st2 73 (fnU (st2 73) 0 (wr v)) := ⟨_, rfl⟩
  rw [← est3] at hW
  refine lv_goto (tgt := 17) hx hb dL_unitsOf_10 (by decide) ?_
  refine mk_iconst hx hb (0) dL_unitsOf_17 ?_
  exact mw_retI hx hb hr hlocks hW ⟨rfl, v, st1, hq, by rw [est3, est2]⟩ dL_unitsOf_18

