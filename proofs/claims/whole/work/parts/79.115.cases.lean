section LAWC
variable {p : Program} {l : Launch} {e : Env} {R : Room} {s : State} {m : MethodId} {args : Array Value} {below : List Frame} {meth : Method} {c : Code} {H : Heap} {locs : List Loc} {cells slots : Nat} {Q : State → Prop}
variable {cc : ByteArray} {pc : Nat} {ls : Array Slot} {rest : List Value} {D : va_G} {cl : List vw_C} {A : Nat → Prop} {tys : List (ClassId × FieldType)} {H0 : Heap} {n n' : Nat} {cel cel' : (Nat → Nat) → (Nat → Int) → Nat → va_E} {ad ad' : Nat → Nat} {em : Nat → Nat} {st : Nat → Nat → Int} {cg : Nat → ClassId} {b L : Nat} {xs : Nat → Int32}
set_option maxHeartbeats 2000000 in
set_option maxRecDepth 100000 in
theorem lc_buyDay (F : LC p l s m meth c b L xs cg D) {i : Nat} (hi : i + 5 ≤ L) (hl : lv_has ls 7 [(0, .ref b), (1, .ref (ad 0)), (2, .ref (ad 74)), (3, .ref (ad 73)), (4, .int (iI (i : Int)))]) (hW : GW D vwCl 100 (celT cg) ad (fun q => s.heap.size ≤ q) s.heap st H locs) (hX : XI st (sub emM st))
    (kk : ∀ (ls : Array Slot) (st : Nat → Nat → Int) (H : Heap) (locs : List Loc), lv_has ls 7 [(0, .ref b), (1, .ref (ad 0)), (2, .ref (ad 74)), (3, .ref (ad 73)), (4, .int (iI (i : Int)))] → GW D vwCl 100 (celT cg) ad (fun q => s.heap.size ≤ q) s.heap st H locs → XI st (sub emM st) → W p l e room_1 s m #[Value.ref b] below meth c H locs (100 + (i + 5)) (5674 + 6 * (i + 5)) Q (F0 m 1597 ls [])) : W p l e room_1 s m #[Value.ref b] below meth c H locs (100 + i) (5674 + 6 * i) Q (F0 m 1089 ls []) := by
  obtain ⟨hx, hb, hr, hml, hown, hts, hXs, hbl, hlocks, hst, hK, hN, hxK, hxZ, hxN, hL⟩ := id F
  refine lv_aload_n hx hb dL_law_1089 rfl (lv_at hl 1 rfl) ?_
  refine lk_arg F hW (lv_at hl 0 rfl) (lv_at hl 4 rfl) (j := 1) (by omega) rfl dL_law_1090 dL_law_1091 dL_law_1093 dL_law_1094 dL_law_1095 ?_
  refine lk_arg F hW (lv_at hl 0 rfl) (lv_at hl 4 rfl) (j := 2) (by omega) rfl dL_law_1096 dL_law_1097 dL_law_1099 dL_law_1100 dL_law_1101 ?_
  refine lv_aload_n hx hb dL_law_1102 rfl (lv_at hl 3 rfl) ?_
  refine mw_goIE (EmbWT cg ad) (vx_runSW (As := [.ref (ad 0), .int (iI (xs (i + 1)).toInt), .int (iI (xs (i + 2)).toInt), .ref (ad 73)]) (rest := []) ⟨hx, hb, hml, hown, hts⟩ (w_buyDay l cg D ad st hst (sub emM st) hX ((xs (i + 1)).toInt) ((xs (i + 2)).toInt) (iI_rng (xs (i + 1))) (iI_rng (xs (i + 2)))) (vx_cwSW 4 hts gL_law_L_buyDay rfl rfl rfl (by decide +kernel) ⟨Nat.le_of_ble_eq_true rfl, Nat.le_of_ble_eq_true rfl⟩) (mw_preS hK hN hxK hxZ hxN (hW.emb (EmbWT cg ad))) rfl rfl hl.1 rfl (lv_room (Nat.le_of_ble_eq_true rfl)) dL_law_1103 ⟨show 100 + i + 1 ≤ 601024 by omega, show 5674 + 6 * i + 6 ≤ 7293034 by omega⟩) hW (fun z u hp H locs hW => ?_)
  obtain ⟨st1, e1⟩ : ∃ q, q = up 74 (fun k => k) u st := ⟨_, rfl⟩
  rw [← e1] at hW
  have e2 : sub emM st1 = sub emM st := by rw [e1]; exact sub_wm u st
  obtain ⟨v, b1, hp, hXu, hout⟩ := hp
  have hX1 : XI st1 b1 := hXu.on fun k hk => by rw [e1]; exact up_w (by omega) u st
  refine lv_istore (lv' := [(5, .int (iI z)), (0, .ref b), (1, .ref (ad 0)), (2, .ref (ad 74)), (3, .ref (ad 73)), (4, .int (iI (i : Int)))]) hx hb dL_law_1106 hl (by decide) rfl (fun ls hl => ?_)
  refine lv_aload_n hx hb dL_law_1108 rfl (lv_at hl 3 rfl) ?_
  refine lk_arg F hW (lv_at hl 1 rfl) (lv_at hl 5 rfl) (j := 1) (by omega) rfl dL_law_1109 dL_law_1110 dL_law_1112 dL_law_1113 dL_law_1114 ?_
  refine lk_arg F hW (lv_at hl 1 rfl) (lv_at hl 5 rfl) (j := 2) (by omega) rfl dL_law_1115 dL_law_1116 dL_law_1118 dL_law_1119 dL_law_1120 ?_
  refine mk_goIE (EmbMT cg ad) (va_runV (As := [.int (iI (xs (i + 1)).toInt), .int (iI (xs (i + 2)).toInt)]) (rest := []) ⟨hx, hb, hml, hown, hts⟩ (m_buyDay l cg D (fun j => ad (74 + j)) (sub emM st1) (xR st) (xD st) (by rw [e2]; exact hX.1) (by rw [e2]; exact hX.rows) ((xs (i + 1)).toInt) ((xs (i + 2)).toInt) (iI_rng (xs (i + 1))) (iI_rng (xs (i + 2)))) (cwV 2 hts gL_law_X6_buyDay rfl rfl rfl (by decide +kernel) ⟨Nat.le_of_ble_eq_true rfl, Nat.le_of_ble_eq_true rfl⟩) (mk_preV hK hN (hW.emb (EmbMT cg ad)) 0 (by decide) rfl rfl rfl) rfl rfl hl.1 rfl (lv_room (Nat.le_of_ble_eq_true rfl)) dL_law_1121 ⟨show 100 + i + 1 ≤ 601024 by omega, show 5674 + 6 * i + 6 ≤ 7293034 by omega⟩) hW (fun z2 u2 hp2 H locs hW => ?_)
  rw [e2] at hp2
  obtain ⟨b2, hp2, hbe⟩ := hp2
  obtain ⟨s1, s2, s3⟩ := POR.f (fun _ _ g1 g2 => P_buyDay_f _ _ _ _ _ g1 g2) hp hp2
  obtain ⟨st2, e3⟩ : ∃ q, q = up 26 emM u2 st1 := ⟨_, rfl⟩
  rw [← e3] at hW
  have hX2 : XI st2 (sub emM st2) := by rw [e3]; exact inv_next (st := st) hX1 (by rw [s3]; exact hbe)
  have h29 : st2 74 29 = z := by
    rw [e3]
    show up 26 emM u2 st1 (emM 0) 29 = z
    rw [up_in emM_inj (by decide)]
    exact s1.symm
  have h73 : z = 0 → st2 73 0 = wr z2 := fun h => by rw [e3, up_m_lo (by decide), e1, up_w (by decide), hout h, s2 h]
  refine W.widen (show 100 + i + 1 ≤ 100 + (i + 5) by omega) (show 5674 + 6 * i + 6 ≤ 5674 + 6 * (i + 5) by omega) ?_
  exact lk_tail F hl hW (POR.k hp) h29 h73 ⟨by omega, by omega⟩ (by decide) dL_law_1124 dL_law_1126 dL_law_1127 dL_law_1130 dL_law_1132 dL_law_1137 dL_law_1139 dL_law_1142 dL_law_1143 dL_law_1144 dL_law_1145 dL_law_1147 dL_law_1148 dL_law_1149 dL_law_1154 (fun ls H locs h1 h2 => kk ls st2 H locs h1 h2 hX2)
set_option maxHeartbeats 2000000 in
set_option maxRecDepth 100000 in
theorem lc_unitsOf (F : LC p l s m meth c b L xs cg D) {i : Nat} (hi : i + 5 ≤ L) (hl : lv_has ls 7 [(0, .ref b), (1, .ref (ad 0)), (2, .ref (ad 74)), (3, .ref (ad 73)), (4, .int (iI (i : Int)))]) (hW : GW D vwCl 100 (celT cg) ad (fun q => s.heap.size ≤ q) s.heap st H locs) (hX : XI st (sub emM st))
    (kk : ∀ (ls : Array Slot) (st : Nat → Nat → Int) (H : Heap) (locs : List Loc), lv_has ls 7 [(0, .ref b), (1, .ref (ad 0)), (2, .ref (ad 74)), (3, .ref (ad 73)), (4, .int (iI (i : Int)))] → GW D vwCl 100 (celT cg) ad (fun q => s.heap.size ≤ q) s.heap st H locs → XI st (sub emM st) → W p l e room_1 s m #[Value.ref b] below meth c H locs (100 + (i + 5)) (5674 + 6 * (i + 5)) Q (F0 m 1597 ls [])) : W p l e room_1 s m #[Value.ref b] below meth c H locs (100 + i) (5674 + 6 * i) Q (F0 m 1157 ls []) := by
  obtain ⟨hx, hb, hr, hml, hown, hts, hXs, hbl, hlocks, hst, hK, hN, hxK, hxZ, hxN, hL⟩ := id F
  refine lv_aload_n hx hb dL_law_1157 rfl (lv_at hl 1 rfl) ?_
  refine lk_arg F hW (lv_at hl 0 rfl) (lv_at hl 4 rfl) (j := 1) (by omega) rfl dL_law_1158 dL_law_1159 dL_law_1161 dL_law_1162 dL_law_1163 ?_
  refine lk_arg F hW (lv_at hl 0 rfl) (lv_at hl 4 rfl) (j := 2) (by omega) rfl dL_law_1164 dL_law_1165 dL_law_1167 dL_law_1168 dL_law_1169 ?_
  refine lv_aload_n hx hb dL_law_1170 rfl (lv_at hl 3 rfl) ?_
  refine mw_goIE (EmbWT cg ad) (vx_runSW (As := [.ref (ad 0), .int (iI (xs (i + 1)).toInt), .int (iI (xs (i + 2)).toInt), .ref (ad 73)]) (rest := []) ⟨hx, hb, hml, hown, hts⟩ (w_unitsOf l cg D ad st hst (sub emM st) hX ((xs (i + 1)).toInt) ((xs (i + 2)).toInt) (iI_rng (xs (i + 1))) (iI_rng (xs (i + 2)))) (vx_cwSW 4 hts gL_law_L_unitsOf rfl rfl rfl (by decide +kernel) ⟨Nat.le_of_ble_eq_true rfl, Nat.le_of_ble_eq_true rfl⟩) (mw_preS hK hN hxK hxZ hxN (hW.emb (EmbWT cg ad))) rfl rfl hl.1 rfl (lv_room (Nat.le_of_ble_eq_true rfl)) dL_law_1171 ⟨show 100 + i + 1 ≤ 601024 by omega, show 5674 + 6 * i + 6 ≤ 7293034 by omega⟩) hW (fun z u hp H locs hW => ?_)
  obtain ⟨st1, e1⟩ : ∃ q, q = up 74 (fun k => k) u st := ⟨_, rfl⟩
  rw [← e1] at hW
  have e2 : sub emM st1 = sub emM st := by rw [e1]; exact sub_wm u st
  obtain ⟨v, b1, hp, hXu, hout⟩ := hp
  have hX1 : XI st1 b1 := hXu.on fun k hk => by rw [e1]; exact up_w (by omega) u st
  refine lv_istore (lv' := [(5, .int (iI z)), (0, .ref b), (1, .ref (ad 0)), (2, .ref (ad 74)), (3, .ref (ad 73)), (4, .int (iI (i : Int)))]) hx hb dL_law_1174 hl (by decide) rfl (fun ls hl => ?_)
  refine lv_aload_n hx hb dL_law_1176 rfl (lv_at hl 3 rfl) ?_
  refine lk_arg F hW (lv_at hl 1 rfl) (lv_at hl 5 rfl) (j := 1) (by omega) rfl dL_law_1177 dL_law_1178 dL_law_1180 dL_law_1181 dL_law_1182 ?_
  refine lk_arg F hW (lv_at hl 1 rfl) (lv_at hl 5 rfl) (j := 2) (by omega) rfl dL_law_1183 dL_law_1184 dL_law_1186 dL_law_1187 dL_law_1188 ?_
  refine mk_goIE (EmbMT cg ad) (va_runV (As := [.int (iI (xs (i + 1)).toInt), .int (iI (xs (i + 2)).toInt)]) (rest := []) ⟨hx, hb, hml, hown, hts⟩ (m_unitsOf l cg D (fun j => ad (74 + j)) (sub emM st1) (xR st) (xD st) (by rw [e2]; exact hX.1) (by rw [e2]; exact hX.rows) ((xs (i + 1)).toInt) ((xs (i + 2)).toInt) (iI_rng (xs (i + 1))) (iI_rng (xs (i + 2)))) (cwV 2 hts gL_law_X6_unitsOf rfl rfl rfl (by decide +kernel) ⟨Nat.le_of_ble_eq_true rfl, Nat.le_of_ble_eq_true rfl⟩) (mk_preV hK hN (hW.emb (EmbMT cg ad)) 0 (by decide) rfl rfl rfl) rfl rfl hl.1 rfl (lv_room (Nat.le_of_ble_eq_true rfl)) dL_law_1189 ⟨show 100 + i + 1 ≤ 601024 by omega, show 5674 + 6 * i + 6 ≤ 7293034 by omega⟩) hW (fun z2 u2 hp2 H locs hW => ?_)
  rw [e2] at hp2
  obtain ⟨b2, hp2, hbe⟩ := hp2
  obtain ⟨s1, s2, s3⟩ := POR.f (fun _ _ g1 g2 => P_unitsOf_f _ _ _ _ _ g1 g2) hp hp2
  obtain ⟨st2, e3⟩ : ∃ q, q = up 26 emM u2 st1 := ⟨_, rfl⟩
  rw [← e3] at hW
  have hX2 : XI st2 (sub emM st2) := by rw [e3]; exact inv_next (st := st) hX1 (by rw [s3]; exact hbe)
  have h29 : st2 74 29 = z := by
    rw [e3]
    show up 26 emM u2 st1 (emM 0) 29 = z
    rw [up_in emM_inj (by decide)]
    exact s1.symm
  have h73 : z = 0 → st2 73 0 = wr z2 := fun h => by rw [e3, up_m_lo (by decide), e1, up_w (by decide), hout h, s2 h]
  refine W.widen (show 100 + i + 1 ≤ 100 + (i + 5) by omega) (show 5674 + 6 * i + 6 ≤ 5674 + 6 * (i + 5) by omega) ?_
  exact lk_tail F hl hW (POR.k hp) h29 h73 ⟨by omega, by omega⟩ (by decide) dL_law_1192 dL_law_1194 dL_law_1195 dL_law_1198 dL_law_1200 dL_law_1205 dL_law_1207 dL_law_1210 dL_law_1211 dL_law_1212 dL_law_1213 dL_law_1215 dL_law_1216 dL_law_1217 dL_law_1222 (fun ls H locs h1 h2 => kk ls st2 H locs h1 h2 hX2)
set_option maxHeartbeats 2000000 in
set_option maxRecDepth 100000 in
theorem lc_costOf (F : LC p l s m meth c b L xs cg D) {i : Nat} (hi : i + 5 ≤ L) (hl : lv_has ls 7 [(0, .ref b), (1, .ref (ad 0)), (2, .ref (ad 74)), (3, .ref (ad 73)), (4, .int (iI (i : Int)))]) (hW : GW D vwCl 100 (celT cg) ad (fun q => s.heap.size ≤ q) s.heap st H locs) (hX : XI st (sub emM st))
    (kk : ∀ (ls : Array Slot) (st : Nat → Nat → Int) (H : Heap) (locs : List Loc), lv_has ls 7 [(0, .ref b), (1, .ref (ad 0)), (2, .ref (ad 74)), (3, .ref (ad 73)), (4, .int (iI (i : Int)))] → GW D vwCl 100 (celT cg) ad (fun q => s.heap.size ≤ q) s.heap st H locs → XI st (sub emM st) → W p l e room_1 s m #[Value.ref b] below meth c H locs (100 + (i + 5)) (5674 + 6 * (i + 5)) Q (F0 m 1597 ls [])) : W p l e room_1 s m #[Value.ref b] below meth c H locs (100 + i) (5674 + 6 * i) Q (F0 m 1225 ls []) := by
  obtain ⟨hx, hb, hr, hml, hown, hts, hXs, hbl, hlocks, hst, hK, hN, hxK, hxZ, hxN, hL⟩ := id F
  refine lv_aload_n hx hb dL_law_1225 rfl (lv_at hl 1 rfl) ?_
  refine lk_arg F hW (lv_at hl 0 rfl) (lv_at hl 4 rfl) (j := 1) (by omega) rfl dL_law_1226 dL_law_1227 dL_law_1229 dL_law_1230 dL_law_1231 ?_
  refine lk_arg F hW (lv_at hl 0 rfl) (lv_at hl 4 rfl) (j := 2) (by omega) rfl dL_law_1232 dL_law_1233 dL_law_1235 dL_law_1236 dL_law_1237 ?_
  refine lv_aload_n hx hb dL_law_1238 rfl (lv_at hl 3 rfl) ?_
  refine mw_goIE (EmbWT cg ad) (vx_runSW (As := [.ref (ad 0), .int (iI (xs (i + 1)).toInt), .int (iI (xs (i + 2)).toInt), .ref (ad 73)]) (rest := []) ⟨hx, hb, hml, hown, hts⟩ (w_costOf l cg D ad st hst (sub emM st) hX ((xs (i + 1)).toInt) ((xs (i + 2)).toInt) (iI_rng (xs (i + 1))) (iI_rng (xs (i + 2)))) (vx_cwSW 4 hts gL_law_L_costOf rfl rfl rfl (by decide +kernel) ⟨Nat.le_of_ble_eq_true rfl, Nat.le_of_ble_eq_true rfl⟩) (mw_preS hK hN hxK hxZ hxN (hW.emb (EmbWT cg ad))) rfl rfl hl.1 rfl (lv_room (Nat.le_of_ble_eq_true rfl)) dL_law_1239 ⟨show 100 + i + 1 ≤ 601024 by omega, show 5674 + 6 * i + 6 ≤ 7293034 by omega⟩) hW (fun z u hp H locs hW => ?_)
  obtain ⟨st1, e1⟩ : ∃ q, q = up 74 (fun k => k) u st := ⟨_, rfl⟩
  rw [← e1] at hW
  have e2 : sub emM st1 = sub emM st := by rw [e1]; exact sub_wm u st
  obtain ⟨v, b1, hp, hXu, hout⟩ := hp
  have hX1 : XI st1 b1 := hXu.on fun k hk => by rw [e1]; exact up_w (by omega) u st
  refine lv_istore (lv' := [(5, .int (iI z)), (0, .ref b), (1, .ref (ad 0)), (2, .ref (ad 74)), (3, .ref (ad 73)), (4, .int (iI (i : Int)))]) hx hb dL_law_1242 hl (by decide) rfl (fun ls hl => ?_)
  refine lv_aload_n hx hb dL_law_1244 rfl (lv_at hl 3 rfl) ?_
  refine lk_arg F hW (lv_at hl 1 rfl) (lv_at hl 5 rfl) (j := 1) (by omega) rfl dL_law_1245 dL_law_1246 dL_law_1248 dL_law_1249 dL_law_1250 ?_
  refine lk_arg F hW (lv_at hl 1 rfl) (lv_at hl 5 rfl) (j := 2) (by omega) rfl dL_law_1251 dL_law_1252 dL_law_1254 dL_law_1255 dL_law_1256 ?_
  refine mk_goIE (EmbMT cg ad) (va_runV (As := [.int (iI (xs (i + 1)).toInt), .int (iI (xs (i + 2)).toInt)]) (rest := []) ⟨hx, hb, hml, hown, hts⟩ (m_costOf l cg D (fun j => ad (74 + j)) (sub emM st1) (xR st) (xD st) (by rw [e2]; exact hX.1) (by rw [e2]; exact hX.rows) ((xs (i + 1)).toInt) ((xs (i + 2)).toInt) (iI_rng (xs (i + 1))) (iI_rng (xs (i + 2)))) (cwV 2 hts gL_law_X6_costOf rfl rfl rfl (by decide +kernel) ⟨Nat.le_of_ble_eq_true rfl, Nat.le_of_ble_eq_true rfl⟩) (mk_preV hK hN (hW.emb (EmbMT cg ad)) 0 (by decide) rfl rfl rfl) rfl rfl hl.1 rfl (lv_room (Nat.le_of_ble_eq_true rfl)) dL_law_1257 ⟨show 100 + i + 1 ≤ 601024 by omega, show 5674 + 6 * i + 6 ≤ 7293034 by omega⟩) hW (fun z2 u2 hp2 H locs hW => ?_)
  rw [e2] at hp2
  obtain ⟨b2, hp2, hbe⟩ := hp2
  obtain ⟨s1, s2, s3⟩ := POR.f (fun _ _ g1 g2 => P_costOf_f _ _ _ _ _ g1 g2) hp hp2
  obtain ⟨st2, e3⟩ : ∃ q, q = up 26 emM u2 st1 := ⟨_, rfl⟩
  rw [← e3] at hW
  have hX2 : XI st2 (sub emM st2) := by rw [e3]; exact inv_next (st := st) hX1 (by rw [s3]; exact hbe)
  have h29 : st2 74 29 = z := by
    rw [e3]
    show up 26 emM u2 st1 (emM 0) 29 = z
    rw [up_in emM_inj (by decide)]
    exact s1.symm
  have h73 : z = 0 → st2 73 0 = wr z2 := fun h => by rw [e3, up_m_lo (by decide), e1, up_w (by decide), hout h, s2 h]
  refine W.widen (show 100 + i + 1 ≤ 100 + (i + 5) by omega) (show 5674 + 6 * i + 6 ≤ 5674 + 6 * (i + 5) by omega) ?_
  exact lk_tail F hl hW (POR.k hp) h29 h73 ⟨by omega, by omega⟩ (by decide) dL_law_1260 dL_law_1262 dL_law_1263 dL_law_1266 dL_law_1268 dL_law_1273 dL_law_1275 dL_law_1278 dL_law_1279 dL_law_1280 dL_law_1281 dL_law_1283 dL_law_1284 dL_law_1285 dL_law_1290 (fun ls H locs h1 h2 => kk ls st2 H locs h1 h2 hX2)
set_option maxHeartbeats 2000000 in
set_option maxRecDepth 100000 in
theorem lc_proceedsOf (F : LC p l s m meth c b L xs cg D) {i : Nat} (hi : i + 5 ≤ L) (hl : lv_has ls 7 [(0, .ref b), (1, .ref (ad 0)), (2, .ref (ad 74)), (3, .ref (ad 73)), (4, .int (iI (i : Int)))]) (hW : GW D vwCl 100 (celT cg) ad (fun q => s.heap.size ≤ q) s.heap st H locs) (hX : XI st (sub emM st))
    (kk : ∀ (ls : Array Slot) (st : Nat → Nat → Int) (H : Heap) (locs : List Loc), lv_has ls 7 [(0, .ref b), (1, .ref (ad 0)), (2, .ref (ad 74)), (3, .ref (ad 73)), (4, .int (iI (i : Int)))] → GW D vwCl 100 (celT cg) ad (fun q => s.heap.size ≤ q) s.heap st H locs → XI st (sub emM st) → W p l e room_1 s m #[Value.ref b] below meth c H locs (100 + (i + 5)) (5674 + 6 * (i + 5)) Q (F0 m 1597 ls [])) : W p l e room_1 s m #[Value.ref b] below meth c H locs (100 + i) (5674 + 6 * i) Q (F0 m 1293 ls []) := by
  obtain ⟨hx, hb, hr, hml, hown, hts, hXs, hbl, hlocks, hst, hK, hN, hxK, hxZ, hxN, hL⟩ := id F
  refine lv_aload_n hx hb dL_law_1293 rfl (lv_at hl 1 rfl) ?_
  refine lk_arg F hW (lv_at hl 0 rfl) (lv_at hl 4 rfl) (j := 1) (by omega) rfl dL_law_1294 dL_law_1295 dL_law_1297 dL_law_1298 dL_law_1299 ?_
  refine lk_arg F hW (lv_at hl 0 rfl) (lv_at hl 4 rfl) (j := 2) (by omega) rfl dL_law_1300 dL_law_1301 dL_law_1303 dL_law_1304 dL_law_1305 ?_
  refine lv_aload_n hx hb dL_law_1306 rfl (lv_at hl 3 rfl) ?_
  refine mw_goIE (EmbWT cg ad) (vx_runSW (As := [.ref (ad 0), .int (iI (xs (i + 1)).toInt), .int (iI (xs (i + 2)).toInt), .ref (ad 73)]) (rest := []) ⟨hx, hb, hml, hown, hts⟩ (w_proceedsOf l cg D ad st hst (sub emM st) hX ((xs (i + 1)).toInt) ((xs (i + 2)).toInt) (iI_rng (xs (i + 1))) (iI_rng (xs (i + 2)))) (vx_cwSW 4 hts gL_law_L_proceedsOf rfl rfl rfl (by decide +kernel) ⟨Nat.le_of_ble_eq_true rfl, Nat.le_of_ble_eq_true rfl⟩) (mw_preS hK hN hxK hxZ hxN (hW.emb (EmbWT cg ad))) rfl rfl hl.1 rfl (lv_room (Nat.le_of_ble_eq_true rfl)) dL_law_1307 ⟨show 100 + i + 1 ≤ 601024 by omega, show 5674 + 6 * i + 6 ≤ 7293034 by omega⟩) hW (fun z u hp H locs hW => ?_)
  obtain ⟨st1, e1⟩ : ∃ q, q = up 74 (fun k => k) u st := ⟨_, rfl⟩
  rw [← e1] at hW
  have e2 : sub emM st1 = sub emM st := by rw [e1]; exact sub_wm u st
  obtain ⟨v, b1, hp, hXu, hout⟩ := hp
  have hX1 : XI st1 b1 := hXu.on fun k hk => by rw [e1]; exact up_w (by omega) u st
  refine lv_istore (lv' := [(5, .int (iI z)), (0, .ref b), (1, .ref (ad 0)), (2, .ref (ad 74)), (3, .ref (ad 73)), (4, .int (iI (i : Int)))]) hx hb dL_law_1310 hl (by decide) rfl (fun ls hl => ?_)
  refine lv_aload_n hx hb dL_law_1312 rfl (lv_at hl 3 rfl) ?_
  refine lk_arg F hW (lv_at hl 1 rfl) (lv_at hl 5 rfl) (j := 1) (by omega) rfl dL_law_1313 dL_law_1314 dL_law_1316 dL_law_1317 dL_law_1318 ?_
  refine lk_arg F hW (lv_at hl 1 rfl) (lv_at hl 5 rfl) (j := 2) (by omega) rfl dL_law_1319 dL_law_1320 dL_law_1322 dL_law_1323 dL_law_1324 ?_
  refine mk_goIE (EmbMT cg ad) (va_runV (As := [.int (iI (xs (i + 1)).toInt), .int (iI (xs (i + 2)).toInt)]) (rest := []) ⟨hx, hb, hml, hown, hts⟩ (m_proceedsOf l cg D (fun j => ad (74 + j)) (sub emM st1) (xR st) (xD st) (by rw [e2]; exact hX.1) (by rw [e2]; exact hX.rows) ((xs (i + 1)).toInt) ((xs (i + 2)).toInt) (iI_rng (xs (i + 1))) (iI_rng (xs (i + 2)))) (cwV 2 hts gL_law_X6_proceedsOf rfl rfl rfl (by decide +kernel) ⟨Nat.le_of_ble_eq_true rfl, Nat.le_of_ble_eq_true rfl⟩) (mk_preV hK hN (hW.emb (EmbMT cg ad)) 0 (by decide) rfl rfl rfl) rfl rfl hl.1 rfl (lv_room (Nat.le_of_ble_eq_true rfl)) dL_law_1325 ⟨show 100 + i + 1 ≤ 601024 by omega, show 5674 + 6 * i + 6 ≤ 7293034 by omega⟩) hW (fun z2 u2 hp2 H locs hW => ?_)
  rw [e2] at hp2
  obtain ⟨b2, hp2, hbe⟩ := hp2
  obtain ⟨s1, s2, s3⟩ := POR.f (fun _ _ g1 g2 => P_proceedsOf_f _ _ _ _ _ g1 g2) hp hp2
  obtain ⟨st2, e3⟩ : ∃ q, q = up 26 emM u2 st1 := ⟨_, rfl⟩
  rw [← e3] at hW
  have hX2 : XI st2 (sub emM st2) := by rw [e3]; exact inv_next (st := st) hX1 (by rw [s3]; exact hbe)
  have h29 : st2 74 29 = z := by
    rw [e3]
    show up 26 emM u2 st1 (emM 0) 29 = z
    rw [up_in emM_inj (by decide)]
    exact s1.symm
  have h73 : z = 0 → st2 73 0 = wr z2 := fun h => by rw [e3, up_m_lo (by decide), e1, up_w (by decide), hout h, s2 h]
  refine W.widen (show 100 + i + 1 ≤ 100 + (i + 5) by omega) (show 5674 + 6 * i + 6 ≤ 5674 + 6 * (i + 5) by omega) ?_
  exact lk_tail F hl hW (POR.k hp) h29 h73 ⟨by omega, by omega⟩ (by decide) dL_law_1328 dL_law_1330 dL_law_1331 dL_law_1334 dL_law_1336 dL_law_1341 dL_law_1343 dL_law_1346 dL_law_1347 dL_law_1348 dL_law_1349 dL_law_1351 dL_law_1352 dL_law_1353 dL_law_1358 (fun ls H locs h1 h2 => kk ls st2 H locs h1 h2 hX2)
end LAWC

