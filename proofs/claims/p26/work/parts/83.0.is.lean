set_option maxHeartbeats 4000000 in
set_option maxRecDepth 100000 in
theorem c_L_is_0 (l : Launch) (cg : Nat → ClassId) (D : va_G) (ad : Nat → Nat) (st : Nat → Nat → Int) (b : Nat → Nat → Int) (hX : XI st b) (pl kd sd bd un co pr : Int) (h : ISM st b 0 pl kd sd bd un co pr) : MI l yL_is wsL_is ({ frames := 3, cells := 0, slots := 0, locals := 70 }) D vwCl (TY cg) 73 (celX cg) ad st [.ref (ad 0), .int (iI 0), .int (iI pl), .int (iI kd), .int (iI sd), .int (iI bd), .int (iI un), .int (iI co), .int (iI pr)] (fun z st1 => z = 1 ∧ st1 = st) := by
  refine mk_open (cc := cL_is) (maxL := 9) (ret := (some .boolean)) (by decide) rfl (Nat.le_of_ble_eq_true rfl) ?_
  intro p e s m args below meth c hx hb hml hr hown hts hlocks hK hN hargs ls hl hW
  have hown : s.vm.findClass RL = some m.cls := hown
  have hl : lv_has ls 9 [(0, .ref (ad 0)), (1, .int (iI 0)), (2, .int (iI pl)), (3, .int (iI kd)), (4, .int (iI sd)), (5, .int (iI bd)), (6, .int (iI un)), (7, .int (iI co)), (8, .int (iI pr))] := hl
  refine lv_aload_n hx hb dL_is_0 rfl (lv_at hl 0 rfl) ?_
  refine lv_iload_n hx hb dL_is_1 rfl (lv_at hl 1 rfl) ?_
  refine lv_iload_n hx hb dL_is_2 rfl (lv_at hl 2 rfl) ?_
  refine mk_goI (va_runV (As := [.int (iI 0), .int (iI pl)]) (rest := []) ⟨hx, hb, hml, hown, hts⟩ (c_X5_kindOf_0 l cg D ad st b hX pl h.1) (cwV 2 hts gL_is_X5_kindOf rfl rfl rfl (by decide +kernel) ⟨Nat.le_of_ble_eq_true rfl, Nat.le_of_ble_eq_true rfl⟩) (mk_preV hK hN hW 0 (by decide) rfl rfl rfl) rfl rfl hl.1 rfl (lv_room (Nat.le_of_ble_eq_true rfl)) dL_is_3 ⟨Nat.zero_le _, Nat.zero_le _⟩) hW (fun z st1 hp H locs hW => ?_)
  obtain ⟨e1, y, hy, e2⟩ := hp
  rw [e1] at hW
  refine mk_sayi (y := kd) (e2.trans (h.2 y hy).1) ?_
  refine lv_iload_n hx hb dL_is_6 rfl (lv_at hl 3 rfl) ?_
  refine lv_icmp_ne (tgt := 69) hx hb dL_is_7 (by decide) (fun h => absurd rfl h) (fun _ => ?_)
  refine lv_aload_n hx hb dL_is_10 rfl (lv_at hl 0 rfl) ?_
  refine lv_iload_n hx hb dL_is_11 rfl (lv_at hl 1 rfl) ?_
  refine lv_iload_n hx hb dL_is_12 rfl (lv_at hl 2 rfl) ?_
  refine mk_goI (va_runV (As := [.int (iI 0), .int (iI pl)]) (rest := []) ⟨hx, hb, hml, hown, hts⟩ (c_X5_saleDay_0 l cg D ad st b hX pl h.1) (cwV 2 hts gL_is_X5_saleDay rfl rfl rfl (by decide +kernel) ⟨Nat.le_of_ble_eq_true rfl, Nat.le_of_ble_eq_true rfl⟩) (mk_preV hK hN hW 0 (by decide) rfl rfl rfl) rfl rfl hl.1 rfl (lv_room (Nat.le_of_ble_eq_true rfl)) dL_is_13 ⟨Nat.zero_le _, Nat.zero_le _⟩) hW (fun z st1 hp H locs hW => ?_)
  obtain ⟨e1, y, hy, e2⟩ := hp
  rw [e1] at hW
  refine mk_sayi (y := sd) (e2.trans (h.2 y hy).2.1) ?_
  refine lv_iload hx hb dL_is_16 (lv_at hl 4 rfl) ?_
  refine lv_icmp_ne (tgt := 69) hx hb dL_is_18 (by decide) (fun h => absurd rfl h) (fun _ => ?_)
  refine lv_aload_n hx hb dL_is_21 rfl (lv_at hl 0 rfl) ?_
  refine lv_iload_n hx hb dL_is_22 rfl (lv_at hl 1 rfl) ?_
  refine lv_iload_n hx hb dL_is_23 rfl (lv_at hl 2 rfl) ?_
  refine mk_goI (va_runV (As := [.int (iI 0), .int (iI pl)]) (rest := []) ⟨hx, hb, hml, hown, hts⟩ (c_X5_buyDay_0 l cg D ad st b hX pl h.1) (cwV 2 hts gL_is_X5_buyDay rfl rfl rfl (by decide +kernel) ⟨Nat.le_of_ble_eq_true rfl, Nat.le_of_ble_eq_true rfl⟩) (mk_preV hK hN hW 0 (by decide) rfl rfl rfl) rfl rfl hl.1 rfl (lv_room (Nat.le_of_ble_eq_true rfl)) dL_is_24 ⟨Nat.zero_le _, Nat.zero_le _⟩) hW (fun z st1 hp H locs hW => ?_)
  obtain ⟨e1, y, hy, e2⟩ := hp
  rw [e1] at hW
  refine mk_sayi (y := bd) (e2.trans (h.2 y hy).2.2.1) ?_
  refine lv_iload hx hb dL_is_27 (lv_at hl 5 rfl) ?_
  refine lv_icmp_ne (tgt := 69) hx hb dL_is_29 (by decide) (fun h => absurd rfl h) (fun _ => ?_)
  refine lv_aload_n hx hb dL_is_32 rfl (lv_at hl 0 rfl) ?_
  refine lv_iload_n hx hb dL_is_33 rfl (lv_at hl 1 rfl) ?_
  refine lv_iload_n hx hb dL_is_34 rfl (lv_at hl 2 rfl) ?_
  refine mk_goI (va_runV (As := [.int (iI 0), .int (iI pl)]) (rest := []) ⟨hx, hb, hml, hown, hts⟩ (c_X5_unitsOf_0 l cg D ad st b hX pl h.1) (cwV 2 hts gL_is_X5_unitsOf rfl rfl rfl (by decide +kernel) ⟨Nat.le_of_ble_eq_true rfl, Nat.le_of_ble_eq_true rfl⟩) (mk_preV hK hN hW 0 (by decide) rfl rfl rfl) rfl rfl hl.1 rfl (lv_room (Nat.le_of_ble_eq_true rfl)) dL_is_35 ⟨Nat.zero_le _, Nat.zero_le _⟩) hW (fun z st1 hp H locs hW => ?_)
  obtain ⟨e1, y, hy, e2⟩ := hp
  rw [e1] at hW
  refine mk_sayi (y := un) (e2.trans (h.2 y hy).2.2.2.1) ?_
  refine lv_iload hx hb dL_is_38 (lv_at hl 6 rfl) ?_
  refine lv_icmp_ne (tgt := 69) hx hb dL_is_40 (by decide) (fun h => absurd rfl h) (fun _ => ?_)
  refine lv_aload_n hx hb dL_is_43 rfl (lv_at hl 0 rfl) ?_
  refine lv_iload_n hx hb dL_is_44 rfl (lv_at hl 1 rfl) ?_
  refine lv_iload_n hx hb dL_is_45 rfl (lv_at hl 2 rfl) ?_
  refine mk_goI (va_runV (As := [.int (iI 0), .int (iI pl)]) (rest := []) ⟨hx, hb, hml, hown, hts⟩ (c_X5_costOf_0 l cg D ad st b hX pl h.1) (cwV 2 hts gL_is_X5_costOf rfl rfl rfl (by decide +kernel) ⟨Nat.le_of_ble_eq_true rfl, Nat.le_of_ble_eq_true rfl⟩) (mk_preV hK hN hW 0 (by decide) rfl rfl rfl) rfl rfl hl.1 rfl (lv_room (Nat.le_of_ble_eq_true rfl)) dL_is_46 ⟨Nat.zero_le _, Nat.zero_le _⟩) hW (fun z st1 hp H locs hW => ?_)
  obtain ⟨e1, y, hy, e2⟩ := hp
  rw [e1] at hW
  refine mk_sayi (y := co) (e2.trans (h.2 y hy).2.2.2.2.1) ?_
  refine lv_iload hx hb dL_is_49 (lv_at hl 7 rfl) ?_
  refine lv_icmp_ne (tgt := 69) hx hb dL_is_51 (by decide) (fun h => absurd rfl h) (fun _ => ?_)
  refine lv_aload_n hx hb dL_is_54 rfl (lv_at hl 0 rfl) ?_
  refine lv_iload_n hx hb dL_is_55 rfl (lv_at hl 1 rfl) ?_
  refine lv_iload_n hx hb dL_is_56 rfl (lv_at hl 2 rfl) ?_
  refine mk_goI (va_runV (As := [.int (iI 0), .int (iI pl)]) (rest := []) ⟨hx, hb, hml, hown, hts⟩ (c_X5_proceedsOf_0 l cg D ad st b hX pl h.1) (cwV 2 hts gL_is_X5_proceedsOf rfl rfl rfl (by decide +kernel) ⟨Nat.le_of_ble_eq_true rfl, Nat.le_of_ble_eq_true rfl⟩) (mk_preV hK hN hW 0 (by decide) rfl rfl rfl) rfl rfl hl.1 rfl (lv_room (Nat.le_of_ble_eq_true rfl)) dL_is_57 ⟨Nat.zero_le _, Nat.zero_le _⟩) hW (fun z st1 hp H locs hW => ?_)
  obtain ⟨e1, y, hy, e2⟩ := hp
  rw [e1] at hW
  refine mk_sayi (y := pr) (e2.trans (h.2 y hy).2.2.2.2.2) ?_
  refine lv_iload hx hb dL_is_60 (lv_at hl 8 rfl) ?_
  refine lv_icmp_ne (tgt := 69) hx hb dL_is_62 (by decide) (fun h => absurd rfl h) (fun _ => ?_)
  refine mk_iconst hx hb (1) dL_is_65 ?_
  refine lv_goto (tgt := 70) hx hb dL_is_66 (by decide) ?_
  exact mk_retZ hx hb hr hlocks hW (by omega) ⟨rfl, rfl⟩ dL_is_70

set_option maxHeartbeats 4000000 in
set_option maxRecDepth 100000 in
theorem c_L_is_1 (l : Launch) (cg : Nat → ClassId) (D : va_G) (ad : Nat → Nat) (st : Nat → Nat → Int) (b : Nat → Nat → Int) (hX : XI st b) (pl kd sd bd un co pr : Int) (h : ISM st b 1 pl kd sd bd un co pr) : MI l yL_is wsL_is ({ frames := 3, cells := 0, slots := 0, locals := 70 }) D vwCl (TY cg) 73 (celX cg) ad st [.ref (ad 0), .int (iI 1), .int (iI pl), .int (iI kd), .int (iI sd), .int (iI bd), .int (iI un), .int (iI co), .int (iI pr)] (fun z st1 => z = 1 ∧ st1 = st) := by
  refine mk_open (cc := cL_is) (maxL := 9) (ret := (some .boolean)) (by decide) rfl (Nat.le_of_ble_eq_true rfl) ?_
  intro p e s m args below meth c hx hb hml hr hown hts hlocks hK hN hargs ls hl hW
  have hown : s.vm.findClass RL = some m.cls := hown
  have hl : lv_has ls 9 [(0, .ref (ad 0)), (1, .int (iI 1)), (2, .int (iI pl)), (3, .int (iI kd)), (4, .int (iI sd)), (5, .int (iI bd)), (6, .int (iI un)), (7, .int (iI co)), (8, .int (iI pr))] := hl
  refine lv_aload_n hx hb dL_is_0 rfl (lv_at hl 0 rfl) ?_
  refine lv_iload_n hx hb dL_is_1 rfl (lv_at hl 1 rfl) ?_
  refine lv_iload_n hx hb dL_is_2 rfl (lv_at hl 2 rfl) ?_
  refine mk_goI (va_runV (As := [.int (iI 1), .int (iI pl)]) (rest := []) ⟨hx, hb, hml, hown, hts⟩ (c_X5_kindOf_1 l cg D ad st b hX pl h.1) (cwV 2 hts gL_is_X5_kindOf rfl rfl rfl (by decide +kernel) ⟨Nat.le_of_ble_eq_true rfl, Nat.le_of_ble_eq_true rfl⟩) (mk_preV hK hN hW 0 (by decide) rfl rfl rfl) rfl rfl hl.1 rfl (lv_room (Nat.le_of_ble_eq_true rfl)) dL_is_3 ⟨Nat.zero_le _, Nat.zero_le _⟩) hW (fun z st1 hp H locs hW => ?_)
  obtain ⟨e1, y, hy, e2⟩ := hp
  rw [e1] at hW
  refine mk_sayi (y := kd) (e2.trans (h.2 y hy).1) ?_
  refine lv_iload_n hx hb dL_is_6 rfl (lv_at hl 3 rfl) ?_
  refine lv_icmp_ne (tgt := 69) hx hb dL_is_7 (by decide) (fun h => absurd rfl h) (fun _ => ?_)
  refine lv_aload_n hx hb dL_is_10 rfl (lv_at hl 0 rfl) ?_
  refine lv_iload_n hx hb dL_is_11 rfl (lv_at hl 1 rfl) ?_
  refine lv_iload_n hx hb dL_is_12 rfl (lv_at hl 2 rfl) ?_
  refine mk_goI (va_runV (As := [.int (iI 1), .int (iI pl)]) (rest := []) ⟨hx, hb, hml, hown, hts⟩ (c_X5_saleDay_1 l cg D ad st b hX pl h.1) (cwV 2 hts gL_is_X5_saleDay rfl rfl rfl (by decide +kernel) ⟨Nat.le_of_ble_eq_true rfl, Nat.le_of_ble_eq_true rfl⟩) (mk_preV hK hN hW 0 (by decide) rfl rfl rfl) rfl rfl hl.1 rfl (lv_room (Nat.le_of_ble_eq_true rfl)) dL_is_13 ⟨Nat.zero_le _, Nat.zero_le _⟩) hW (fun z st1 hp H locs hW => ?_)
  obtain ⟨e1, y, hy, e2⟩ := hp
  rw [e1] at hW
  refine mk_sayi (y := sd) (e2.trans (h.2 y hy).2.1) ?_
  refine lv_iload hx hb dL_is_16 (lv_at hl 4 rfl) ?_
  refine lv_icmp_ne (tgt := 69) hx hb dL_is_18 (by decide) (fun h => absurd rfl h) (fun _ => ?_)
  refine lv_aload_n hx hb dL_is_21 rfl (lv_at hl 0 rfl) ?_
  refine lv_iload_n hx hb dL_is_22 rfl (lv_at hl 1 rfl) ?_
  refine lv_iload_n hx hb dL_is_23 rfl (lv_at hl 2 rfl) ?_
  refine mk_goI (va_runV (As := [.int (iI 1), .int (iI pl)]) (rest := []) ⟨hx, hb, hml, hown, hts⟩ (c_X5_buyDay_1 l cg D ad st b hX pl h.1) (cwV 2 hts gL_is_X5_buyDay rfl rfl rfl (by decide +kernel) ⟨Nat.le_of_ble_eq_true rfl, Nat.le_of_ble_eq_true rfl⟩) (mk_preV hK hN hW 0 (by decide) rfl rfl rfl) rfl rfl hl.1 rfl (lv_room (Nat.le_of_ble_eq_true rfl)) dL_is_24 ⟨Nat.zero_le _, Nat.zero_le _⟩) hW (fun z st1 hp H locs hW => ?_)
  obtain ⟨e1, y, hy, e2⟩ := hp
  rw [e1] at hW
  refine mk_sayi (y := bd) (e2.trans (h.2 y hy).2.2.1) ?_
  refine lv_iload hx hb dL_is_27 (lv_at hl 5 rfl) ?_
  refine lv_icmp_ne (tgt := 69) hx hb dL_is_29 (by decide) (fun h => absurd rfl h) (fun _ => ?_)
  refine lv_aload_n hx hb dL_is_32 rfl (lv_at hl 0 rfl) ?_
  refine lv_iload_n hx hb dL_is_33 rfl (lv_at hl 1 rfl) ?_
  refine lv_iload_n hx hb dL_is_34 rfl (lv_at hl 2 rfl) ?_
  refine mk_goI (va_runV (As := [.int (iI 1), .int (iI pl)]) (rest := []) ⟨hx, hb, hml, hown, hts⟩ (c_X5_unitsOf_1 l cg D ad st b hX pl h.1) (cwV 2 hts gL_is_X5_unitsOf rfl rfl rfl (by decide +kernel) ⟨Nat.le_of_ble_eq_true rfl, Nat.le_of_ble_eq_true rfl⟩) (mk_preV hK hN hW 0 (by decide) rfl rfl rfl) rfl rfl hl.1 rfl (lv_room (Nat.le_of_ble_eq_true rfl)) dL_is_35 ⟨Nat.zero_le _, Nat.zero_le _⟩) hW (fun z st1 hp H locs hW => ?_)
  obtain ⟨e1, y, hy, e2⟩ := hp
  rw [e1] at hW
  refine mk_sayi (y := un) (e2.trans (h.2 y hy).2.2.2.1) ?_
  refine lv_iload hx hb dL_is_38 (lv_at hl 6 rfl) ?_
  refine lv_icmp_ne (tgt := 69) hx hb dL_is_40 (by decide) (fun h => absurd rfl h) (fun _ => ?_)
  refine lv_aload_n hx hb dL_is_43 rfl (lv_at hl 0 rfl) ?_
  refine lv_iload_n hx hb dL_is_44 rfl (lv_at hl 1 rfl) ?_
  refine lv_iload_n hx hb dL_is_45 rfl (lv_at hl 2 rfl) ?_
  refine mk_goI (va_runV (As := [.int (iI 1), .int (iI pl)]) (rest := []) ⟨hx, hb, hml, hown, hts⟩ (c_X5_costOf_1 l cg D ad st b hX pl h.1) (cwV 2 hts gL_is_X5_costOf rfl rfl rfl (by decide +kernel) ⟨Nat.le_of_ble_eq_true rfl, Nat.le_of_ble_eq_true rfl⟩) (mk_preV hK hN hW 0 (by decide) rfl rfl rfl) rfl rfl hl.1 rfl (lv_room (Nat.le_of_ble_eq_true rfl)) dL_is_46 ⟨Nat.zero_le _, Nat.zero_le _⟩) hW (fun z st1 hp H locs hW => ?_)
  obtain ⟨e1, y, hy, e2⟩ := hp
  rw [e1] at hW
  refine mk_sayi (y := co) (e2.trans (h.2 y hy).2.2.2.2.1) ?_
  refine lv_iload hx hb dL_is_49 (lv_at hl 7 rfl) ?_
  refine lv_icmp_ne (tgt := 69) hx hb dL_is_51 (by decide) (fun h => absurd rfl h) (fun _ => ?_)
  refine lv_aload_n hx hb dL_is_54 rfl (lv_at hl 0 rfl) ?_
  refine lv_iload_n hx hb dL_is_55 rfl (lv_at hl 1 rfl) ?_
  refine lv_iload_n hx hb dL_is_56 rfl (lv_at hl 2 rfl) ?_
  refine mk_goI (va_runV (As := [.int (iI 1), .int (iI pl)]) (rest := []) ⟨hx, hb, hml, hown, hts⟩ (c_X5_proceedsOf_1 l cg D ad st b hX pl h.1) (cwV 2 hts gL_is_X5_proceedsOf rfl rfl rfl (by decide +kernel) ⟨Nat.le_of_ble_eq_true rfl, Nat.le_of_ble_eq_true rfl⟩) (mk_preV hK hN hW 0 (by decide) rfl rfl rfl) rfl rfl hl.1 rfl (lv_room (Nat.le_of_ble_eq_true rfl)) dL_is_57 ⟨Nat.zero_le _, Nat.zero_le _⟩) hW (fun z st1 hp H locs hW => ?_)
  obtain ⟨e1, y, hy, e2⟩ := hp
  rw [e1] at hW
  refine mk_sayi (y := pr) (e2.trans (h.2 y hy).2.2.2.2.2) ?_
  refine lv_iload hx hb dL_is_60 (lv_at hl 8 rfl) ?_
  refine lv_icmp_ne (tgt := 69) hx hb dL_is_62 (by decide) (fun h => absurd rfl h) (fun _ => ?_)
  refine mk_iconst hx hb (1) dL_is_65 ?_
  refine lv_goto (tgt := 70) hx hb dL_is_66 (by decide) ?_
  exact mk_retZ hx hb hr hlocks hW (by omega) ⟨rfl, rfl⟩ dL_is_70

set_option maxHeartbeats 4000000 in
set_option maxRecDepth 100000 in
theorem c_L_is_2 (l : Launch) (cg : Nat → ClassId) (D : va_G) (ad : Nat → Nat) (st : Nat → Nat → Int) (b : Nat → Nat → Int) (hX : XI st b) (pl kd sd bd un co pr : Int) (h : ISM st b 2 pl kd sd bd un co pr) : MI l yL_is wsL_is ({ frames := 3, cells := 0, slots := 0, locals := 70 }) D vwCl (TY cg) 73 (celX cg) ad st [.ref (ad 0), .int (iI 2), .int (iI pl), .int (iI kd), .int (iI sd), .int (iI bd), .int (iI un), .int (iI co), .int (iI pr)] (fun z st1 => z = 1 ∧ st1 = st) := by
  refine mk_open (cc := cL_is) (maxL := 9) (ret := (some .boolean)) (by decide) rfl (Nat.le_of_ble_eq_true rfl) ?_
  intro p e s m args below meth c hx hb hml hr hown hts hlocks hK hN hargs ls hl hW
  have hown : s.vm.findClass RL = some m.cls := hown
  have hl : lv_has ls 9 [(0, .ref (ad 0)), (1, .int (iI 2)), (2, .int (iI pl)), (3, .int (iI kd)), (4, .int (iI sd)), (5, .int (iI bd)), (6, .int (iI un)), (7, .int (iI co)), (8, .int (iI pr))] := hl
  refine lv_aload_n hx hb dL_is_0 rfl (lv_at hl 0 rfl) ?_
  refine lv_iload_n hx hb dL_is_1 rfl (lv_at hl 1 rfl) ?_
  refine lv_iload_n hx hb dL_is_2 rfl (lv_at hl 2 rfl) ?_
  refine mk_goI (va_runV (As := [.int (iI 2), .int (iI pl)]) (rest := []) ⟨hx, hb, hml, hown, hts⟩ (c_X5_kindOf_2 l cg D ad st b hX pl h.1) (cwV 2 hts gL_is_X5_kindOf rfl rfl rfl (by decide +kernel) ⟨Nat.le_of_ble_eq_true rfl, Nat.le_of_ble_eq_true rfl⟩) (mk_preV hK hN hW 0 (by decide) rfl rfl rfl) rfl rfl hl.1 rfl (lv_room (Nat.le_of_ble_eq_true rfl)) dL_is_3 ⟨Nat.zero_le _, Nat.zero_le _⟩) hW (fun z st1 hp H locs hW => ?_)
  obtain ⟨e1, y, hy, e2⟩ := hp
  rw [e1] at hW
  refine mk_sayi (y := kd) (e2.trans (h.2 y hy).1) ?_
  refine lv_iload_n hx hb dL_is_6 rfl (lv_at hl 3 rfl) ?_
  refine lv_icmp_ne (tgt := 69) hx hb dL_is_7 (by decide) (fun h => absurd rfl h) (fun _ => ?_)
  refine lv_aload_n hx hb dL_is_10 rfl (lv_at hl 0 rfl) ?_
  refine lv_iload_n hx hb dL_is_11 rfl (lv_at hl 1 rfl) ?_
  refine lv_iload_n hx hb dL_is_12 rfl (lv_at hl 2 rfl) ?_
  refine mk_goI (va_runV (As := [.int (iI 2), .int (iI pl)]) (rest := []) ⟨hx, hb, hml, hown, hts⟩ (c_X5_saleDay_2 l cg D ad st b hX pl h.1) (cwV 2 hts gL_is_X5_saleDay rfl rfl rfl (by decide +kernel) ⟨Nat.le_of_ble_eq_true rfl, Nat.le_of_ble_eq_true rfl⟩) (mk_preV hK hN hW 0 (by decide) rfl rfl rfl) rfl rfl hl.1 rfl (lv_room (Nat.le_of_ble_eq_true rfl)) dL_is_13 ⟨Nat.zero_le _, Nat.zero_le _⟩) hW (fun z st1 hp H locs hW => ?_)
  obtain ⟨e1, y, hy, e2⟩ := hp
  rw [e1] at hW
  refine mk_sayi (y := sd) (e2.trans (h.2 y hy).2.1) ?_
  refine lv_iload hx hb dL_is_16 (lv_at hl 4 rfl) ?_
  refine lv_icmp_ne (tgt := 69) hx hb dL_is_18 (by decide) (fun h => absurd rfl h) (fun _ => ?_)
  refine lv_aload_n hx hb dL_is_21 rfl (lv_at hl 0 rfl) ?_
  refine lv_iload_n hx hb dL_is_22 rfl (lv_at hl 1 rfl) ?_
  refine lv_iload_n hx hb dL_is_23 rfl (lv_at hl 2 rfl) ?_
  refine mk_goI (va_runV (As := [.int (iI 2), .int (iI pl)]) (rest := []) ⟨hx, hb, hml, hown, hts⟩ (c_X5_buyDay_2 l cg D ad st b hX pl h.1) (cwV 2 hts gL_is_X5_buyDay rfl rfl rfl (by decide +kernel) ⟨Nat.le_of_ble_eq_true rfl, Nat.le_of_ble_eq_true rfl⟩) (mk_preV hK hN hW 0 (by decide) rfl rfl rfl) rfl rfl hl.1 rfl (lv_room (Nat.le_of_ble_eq_true rfl)) dL_is_24 ⟨Nat.zero_le _, Nat.zero_le _⟩) hW (fun z st1 hp H locs hW => ?_)
  obtain ⟨e1, y, hy, e2⟩ := hp
  rw [e1] at hW
  refine mk_sayi (y := bd) (e2.trans (h.2 y hy).2.2.1) ?_
  refine lv_iload hx hb dL_is_27 (lv_at hl 5 rfl) ?_
  refine lv_icmp_ne (tgt := 69) hx hb dL_is_29 (by decide) (fun h => absurd rfl h) (fun _ => ?_)
  refine lv_aload_n hx hb dL_is_32 rfl (lv_at hl 0 rfl) ?_
  refine lv_iload_n hx hb dL_is_33 rfl (lv_at hl 1 rfl) ?_
  refine lv_iload_n hx hb dL_is_34 rfl (lv_at hl 2 rfl) ?_
  refine mk_goI (va_runV (As := [.int (iI 2), .int (iI pl)]) (rest := []) ⟨hx, hb, hml, hown, hts⟩ (c_X5_unitsOf_2 l cg D ad st b hX pl h.1) (cwV 2 hts gL_is_X5_unitsOf rfl rfl rfl (by decide +kernel) ⟨Nat.le_of_ble_eq_true rfl, Nat.le_of_ble_eq_true rfl⟩) (mk_preV hK hN hW 0 (by decide) rfl rfl rfl) rfl rfl hl.1 rfl (lv_room (Nat.le_of_ble_eq_true rfl)) dL_is_35 ⟨Nat.zero_le _, Nat.zero_le _⟩) hW (fun z st1 hp H locs hW => ?_)
  obtain ⟨e1, y, hy, e2⟩ := hp
  rw [e1] at hW
  refine mk_sayi (y := un) (e2.trans (h.2 y hy).2.2.2.1) ?_
  refine lv_iload hx hb dL_is_38 (lv_at hl 6 rfl) ?_
  refine lv_icmp_ne (tgt := 69) hx hb dL_is_40 (by decide) (fun h => absurd rfl h) (fun _ => ?_)
  refine lv_aload_n hx hb dL_is_43 rfl (lv_at hl 0 rfl) ?_
  refine lv_iload_n hx hb dL_is_44 rfl (lv_at hl 1 rfl) ?_
  refine lv_iload_n hx hb dL_is_45 rfl (lv_at hl 2 rfl) ?_
  refine mk_goI (va_runV (As := [.int (iI 2), .int (iI pl)]) (rest := []) ⟨hx, hb, hml, hown, hts⟩ (c_X5_costOf_2 l cg D ad st b hX pl h.1) (cwV 2 hts gL_is_X5_costOf rfl rfl rfl (by decide +kernel) ⟨Nat.le_of_ble_eq_true rfl, Nat.le_of_ble_eq_true rfl⟩) (mk_preV hK hN hW 0 (by decide) rfl rfl rfl) rfl rfl hl.1 rfl (lv_room (Nat.le_of_ble_eq_true rfl)) dL_is_46 ⟨Nat.zero_le _, Nat.zero_le _⟩) hW (fun z st1 hp H locs hW => ?_)
  obtain ⟨e1, y, hy, e2⟩ := hp
  rw [e1] at hW
  refine mk_sayi (y := co) (e2.trans (h.2 y hy).2.2.2.2.1) ?_
  refine lv_iload hx hb dL_is_49 (lv_at hl 7 rfl) ?_
  refine lv_icmp_ne (tgt := 69) hx hb dL_is_51 (by decide) (fun h => absurd rfl h) (fun _ => ?_)
  refine lv_aload_n hx hb dL_is_54 rfl (lv_at hl 0 rfl) ?_
  refine lv_iload_n hx hb dL_is_55 rfl (lv_at hl 1 rfl) ?_
  refine lv_iload_n hx hb dL_is_56 rfl (lv_at hl 2 rfl) ?_
  refine mk_goI (va_runV (As := [.int (iI 2), .int (iI pl)]) (rest := []) ⟨hx, hb, hml, hown, hts⟩ (c_X5_proceedsOf_2 l cg D ad st b hX pl h.1) (cwV 2 hts gL_is_X5_proceedsOf rfl rfl rfl (by decide +kernel) ⟨Nat.le_of_ble_eq_true rfl, Nat.le_of_ble_eq_true rfl⟩) (mk_preV hK hN hW 0 (by decide) rfl rfl rfl) rfl rfl hl.1 rfl (lv_room (Nat.le_of_ble_eq_true rfl)) dL_is_57 ⟨Nat.zero_le _, Nat.zero_le _⟩) hW (fun z st1 hp H locs hW => ?_)
  obtain ⟨e1, y, hy, e2⟩ := hp
  rw [e1] at hW
  refine mk_sayi (y := pr) (e2.trans (h.2 y hy).2.2.2.2.2) ?_
  refine lv_iload hx hb dL_is_60 (lv_at hl 8 rfl) ?_
  refine lv_icmp_ne (tgt := 69) hx hb dL_is_62 (by decide) (fun h => absurd rfl h) (fun _ => ?_)
  refine mk_iconst hx hb (1) dL_is_65 ?_
  refine lv_goto (tgt := 70) hx hb dL_is_66 (by decide) ?_
  exact mk_retZ hx hb hr hlocks hW (by omega) ⟨rfl, rfl⟩ dL_is_70

