section LAWC
variable {p : Program} {l : Launch} {e : Env} {R : Room} {s : State} {m : MethodId} {args : Array Value} {below : List Frame} {meth : Method} {c : Code} {H : Heap} {locs : List Loc} {cells slots : Nat} {Q : State → Prop}
variable {cc : ByteArray} {pc : Nat} {ls : Array Slot} {rest : List Value} {D : va_G} {cl : List vw_C} {A : Nat → Prop} {tys : List (ClassId × FieldType)} {H0 : Heap} {n n' : Nat} {cel cel' : (Nat → Nat) → (Nat → Int) → Nat → va_E} {ad ad' : Nat → Nat} {em : Nat → Nat} {st : Nat → Nat → Int} {cg : Nat → ClassId} {b L : Nat} {xs : Nat → Int32}
set_option maxHeartbeats 2000000 in
set_option maxRecDepth 100000 in
theorem lc_buy (F : LC p l s m meth c b L xs cg D) {i : Nat} (hi : i + 5 ≤ L) (hl : lv_has ls 7 [(0, .ref b), (1, .ref (ad 0)), (2, .ref (ad 74)), (3, .ref (ad 73)), (4, .int (iI (i : Int)))]) (hW : GW D vwCl 100 (celT cg) ad (fun q => s.heap.size ≤ q) s.heap st H locs) (hX : XI st (sub emM st))
    (kk : ∀ (ls : Array Slot) (st : Nat → Nat → Int) (H : Heap) (locs : List Loc), lv_has ls 7 [(0, .ref b), (1, .ref (ad 0)), (2, .ref (ad 74)), (3, .ref (ad 73)), (4, .int (iI (i : Int)))] → GW D vwCl 100 (celT cg) ad (fun q => s.heap.size ≤ q) s.heap st H locs → XI st (sub emM st) → W p l e room_1 s m #[Value.ref b] below meth c H locs (100 + (i + 5)) (5674 + 6 * (i + 5)) Q (F0 m 1597 ls [])) : W p l e room_1 s m #[Value.ref b] below meth c H locs (100 + i) (5674 + 6 * i) Q (F0 m 144 ls []) := by
  obtain ⟨hx, hb, hr, hml, hown, hts, hXs, hbl, hlocks, hst, hK, hN, hxK, hxZ, hxN, hL⟩ := id F
  refine lv_aload_n hx hb dL_law_144 rfl (lv_at hl 1 rfl) ?_
  refine lk_arg F hW (lv_at hl 0 rfl) (lv_at hl 4 rfl) (j := 1) (by omega) rfl dL_law_145 dL_law_146 dL_law_148 dL_law_149 dL_law_150 ?_
  refine lk_arg F hW (lv_at hl 0 rfl) (lv_at hl 4 rfl) (j := 2) (by omega) rfl dL_law_151 dL_law_152 dL_law_154 dL_law_155 dL_law_156 ?_
  refine lk_arg F hW (lv_at hl 0 rfl) (lv_at hl 4 rfl) (j := 3) (by omega) rfl dL_law_157 dL_law_158 dL_law_160 dL_law_161 dL_law_162 ?_
  refine lk_arg F hW (lv_at hl 0 rfl) (lv_at hl 4 rfl) (j := 4) (by omega) rfl dL_law_163 dL_law_164 dL_law_166 dL_law_167 dL_law_168 ?_
  refine lv_aload_n hx hb dL_law_169 rfl (lv_at hl 3 rfl) ?_
  refine mw_goIE (EmbWT cg ad) (vx_runSW (As := [.ref (ad 0), .int (iI (xs (i + 1)).toInt), .int (iI (xs (i + 2)).toInt), .int (iI (xs (i + 3)).toInt), .int (iI (xs (i + 4)).toInt), .ref (ad 73)]) (rest := []) ⟨hx, hb, hml, hown, hts⟩ (w_buy l cg D ad st hst (sub emM st) hX ((xs (i + 1)).toInt) ((xs (i + 2)).toInt) ((xs (i + 3)).toInt) ((xs (i + 4)).toInt) (iI_rng (xs (i + 1))) (iI_rng (xs (i + 2))) (iI_rng (xs (i + 3))) (iI_rng (xs (i + 4)))) (vx_cwSW 6 hts gL_law_L_buy rfl rfl rfl (by decide +kernel) ⟨Nat.le_of_ble_eq_true rfl, Nat.le_of_ble_eq_true rfl⟩) (mw_preS hK hN hxK hxZ hxN (hW.emb (EmbWT cg ad))) rfl rfl hl.1 rfl (lv_room (Nat.le_of_ble_eq_true rfl)) dL_law_170 ⟨show 100 + i + 1 ≤ 601024 by omega, show 5674 + 6 * i + 6 ≤ 7293034 by omega⟩) hW (fun z u hp H locs hW => ?_)
  obtain ⟨st1, e1⟩ : ∃ q, q = up 74 (fun k => k) u st := ⟨_, rfl⟩
  rw [← e1] at hW
  have e2 : sub emM st1 = sub emM st := by rw [e1]; exact sub_wm u st
  obtain ⟨v, b1, hp, hXu, hout⟩ := hp
  have hX1 : XI st1 b1 := hXu.on fun k hk => by rw [e1]; exact up_w (by omega) u st
  refine lv_istore (lv' := [(5, .int (iI z)), (0, .ref b), (1, .ref (ad 0)), (2, .ref (ad 74)), (3, .ref (ad 73)), (4, .int (iI (i : Int)))]) hx hb dL_law_173 hl (by decide) rfl (fun ls hl => ?_)
  refine lv_aload_n hx hb dL_law_175 rfl (lv_at hl 3 rfl) ?_
  refine lk_arg F hW (lv_at hl 1 rfl) (lv_at hl 5 rfl) (j := 1) (by omega) rfl dL_law_176 dL_law_177 dL_law_179 dL_law_180 dL_law_181 ?_
  refine lk_arg F hW (lv_at hl 1 rfl) (lv_at hl 5 rfl) (j := 2) (by omega) rfl dL_law_182 dL_law_183 dL_law_185 dL_law_186 dL_law_187 ?_
  refine lk_arg F hW (lv_at hl 1 rfl) (lv_at hl 5 rfl) (j := 3) (by omega) rfl dL_law_188 dL_law_189 dL_law_191 dL_law_192 dL_law_193 ?_
  refine lk_arg F hW (lv_at hl 1 rfl) (lv_at hl 5 rfl) (j := 4) (by omega) rfl dL_law_194 dL_law_195 dL_law_197 dL_law_198 dL_law_199 ?_
  refine mk_goIE (EmbMT cg ad) (va_runV (As := [.int (iI (xs (i + 1)).toInt), .int (iI (xs (i + 2)).toInt), .int (iI (xs (i + 3)).toInt), .int (iI (xs (i + 4)).toInt)]) (rest := []) ⟨hx, hb, hml, hown, hts⟩ (m_buy l cg D (fun j => ad (74 + j)) (sub emM st1) (xR st) (xD st) (by rw [e2]; exact hX.1) (by rw [e2]; exact hX.rows) ((xs (i + 1)).toInt) ((xs (i + 2)).toInt) ((xs (i + 3)).toInt) ((xs (i + 4)).toInt) (iI_rng (xs (i + 1))) (iI_rng (xs (i + 2))) (iI_rng (xs (i + 3))) (iI_rng (xs (i + 4)))) (cwV 4 hts gL_law_X6_buy rfl rfl rfl (by decide +kernel) ⟨Nat.le_of_ble_eq_true rfl, Nat.le_of_ble_eq_true rfl⟩) (mk_preV hK hN (hW.emb (EmbMT cg ad)) 0 (by decide) rfl rfl rfl) rfl rfl hl.1 rfl (lv_room (Nat.le_of_ble_eq_true rfl)) dL_law_200 ⟨show 100 + i + 1 ≤ 601024 by omega, show 5674 + 6 * i + 6 ≤ 7293034 by omega⟩) hW (fun z2 u2 hp2 H locs hW => ?_)
  rw [e2] at hp2
  obtain ⟨b2, hp2, hbe⟩ := hp2
  obtain ⟨s1, s2, s3⟩ := E4.f hp hp2
  obtain ⟨st2, e3⟩ : ∃ q, q = up 26 emM u2 st1 := ⟨_, rfl⟩
  rw [← e3] at hW
  have hX2 : XI st2 (sub emM st2) := by rw [e3]; exact inv_next (st := st) hX1 (by rw [s3]; exact hbe)
  have h29 : st2 74 29 = z := by
    rw [e3]
    show up 26 emM u2 st1 (emM 0) 29 = z
    rw [up_in emM_inj (by decide)]
    exact s1.symm
  have h73 : z = 0 → st2 73 0 = wr z2 := fun h => by rw [e3, up_m_lo (by decide), e1, up_w (by decide), hout h, s2 h]
  refine W.widen (show 100 + i + 1 ≤ 100 + (i + 5) by omega) (show 5674 + 6 * i + 6 ≤ 5674 + 6 * (i + 5) by omega) ?_
  exact lk_tail F hl hW (E4.k hp) h29 h73 ⟨by omega, by omega⟩ (by decide) dL_law_203 dL_law_205 dL_law_206 dL_law_209 dL_law_211 dL_law_216 dL_law_218 dL_law_221 dL_law_222 dL_law_223 dL_law_224 dL_law_226 dL_law_227 dL_law_228 dL_law_233 (fun ls H locs h1 h2 => kk ls st2 H locs h1 h2 hX2)
set_option maxHeartbeats 2000000 in
set_option maxRecDepth 100000 in
theorem lc_sell (F : LC p l s m meth c b L xs cg D) {i : Nat} (hi : i + 5 ≤ L) (hl : lv_has ls 7 [(0, .ref b), (1, .ref (ad 0)), (2, .ref (ad 74)), (3, .ref (ad 73)), (4, .int (iI (i : Int)))]) (hW : GW D vwCl 100 (celT cg) ad (fun q => s.heap.size ≤ q) s.heap st H locs) (hX : XI st (sub emM st))
    (kk : ∀ (ls : Array Slot) (st : Nat → Nat → Int) (H : Heap) (locs : List Loc), lv_has ls 7 [(0, .ref b), (1, .ref (ad 0)), (2, .ref (ad 74)), (3, .ref (ad 73)), (4, .int (iI (i : Int)))] → GW D vwCl 100 (celT cg) ad (fun q => s.heap.size ≤ q) s.heap st H locs → XI st (sub emM st) → W p l e room_1 s m #[Value.ref b] below meth c H locs (100 + (i + 5)) (5674 + 6 * (i + 5)) Q (F0 m 1597 ls [])) : W p l e room_1 s m #[Value.ref b] below meth c H locs (100 + i) (5674 + 6 * i) Q (F0 m 236 ls []) := by
  obtain ⟨hx, hb, hr, hml, hown, hts, hXs, hbl, hlocks, hst, hK, hN, hxK, hxZ, hxN, hL⟩ := id F
  refine lv_aload_n hx hb dL_law_236 rfl (lv_at hl 1 rfl) ?_
  refine lk_arg F hW (lv_at hl 0 rfl) (lv_at hl 4 rfl) (j := 1) (by omega) rfl dL_law_237 dL_law_238 dL_law_240 dL_law_241 dL_law_242 ?_
  refine lk_arg F hW (lv_at hl 0 rfl) (lv_at hl 4 rfl) (j := 2) (by omega) rfl dL_law_243 dL_law_244 dL_law_246 dL_law_247 dL_law_248 ?_
  refine lk_arg F hW (lv_at hl 0 rfl) (lv_at hl 4 rfl) (j := 3) (by omega) rfl dL_law_249 dL_law_250 dL_law_252 dL_law_253 dL_law_254 ?_
  refine lk_arg F hW (lv_at hl 0 rfl) (lv_at hl 4 rfl) (j := 4) (by omega) rfl dL_law_255 dL_law_256 dL_law_258 dL_law_259 dL_law_260 ?_
  refine lv_aload_n hx hb dL_law_261 rfl (lv_at hl 3 rfl) ?_
  refine mw_goIE (EmbWT cg ad) (vx_runSW (As := [.ref (ad 0), .int (iI (xs (i + 1)).toInt), .int (iI (xs (i + 2)).toInt), .int (iI (xs (i + 3)).toInt), .int (iI (xs (i + 4)).toInt), .ref (ad 73)]) (rest := []) ⟨hx, hb, hml, hown, hts⟩ (w_sell l cg D ad st hst (sub emM st) hX ((xs (i + 1)).toInt) ((xs (i + 2)).toInt) ((xs (i + 3)).toInt) ((xs (i + 4)).toInt) (iI_rng (xs (i + 1))) (iI_rng (xs (i + 2))) (iI_rng (xs (i + 3))) (iI_rng (xs (i + 4)))) (vx_cwSW 6 hts gL_law_L_sell rfl rfl rfl (by decide +kernel) ⟨Nat.le_of_ble_eq_true rfl, Nat.le_of_ble_eq_true rfl⟩) (mw_preS hK hN hxK hxZ hxN (hW.emb (EmbWT cg ad))) rfl rfl hl.1 rfl (lv_room (Nat.le_of_ble_eq_true rfl)) dL_law_262 ⟨show 100 + i + 1 ≤ 601024 by omega, show 5674 + 6 * i + 6 ≤ 7293034 by omega⟩) hW (fun z u hp H locs hW => ?_)
  obtain ⟨st1, e1⟩ : ∃ q, q = up 74 (fun k => k) u st := ⟨_, rfl⟩
  rw [← e1] at hW
  have e2 : sub emM st1 = sub emM st := by rw [e1]; exact sub_wm u st
  obtain ⟨v, b1, hp, hXu, hout⟩ := hp
  have hX1 : XI st1 b1 := hXu.on fun k hk => by rw [e1]; exact up_w (by omega) u st
  refine lv_istore (lv' := [(5, .int (iI z)), (0, .ref b), (1, .ref (ad 0)), (2, .ref (ad 74)), (3, .ref (ad 73)), (4, .int (iI (i : Int)))]) hx hb dL_law_265 hl (by decide) rfl (fun ls hl => ?_)
  refine lv_aload_n hx hb dL_law_267 rfl (lv_at hl 3 rfl) ?_
  refine lk_arg F hW (lv_at hl 1 rfl) (lv_at hl 5 rfl) (j := 1) (by omega) rfl dL_law_268 dL_law_269 dL_law_271 dL_law_272 dL_law_273 ?_
  refine lk_arg F hW (lv_at hl 1 rfl) (lv_at hl 5 rfl) (j := 2) (by omega) rfl dL_law_274 dL_law_275 dL_law_277 dL_law_278 dL_law_279 ?_
  refine lk_arg F hW (lv_at hl 1 rfl) (lv_at hl 5 rfl) (j := 3) (by omega) rfl dL_law_280 dL_law_281 dL_law_283 dL_law_284 dL_law_285 ?_
  refine lk_arg F hW (lv_at hl 1 rfl) (lv_at hl 5 rfl) (j := 4) (by omega) rfl dL_law_286 dL_law_287 dL_law_289 dL_law_290 dL_law_291 ?_
  refine mk_goIE (EmbMT cg ad) (va_runV (As := [.int (iI (xs (i + 1)).toInt), .int (iI (xs (i + 2)).toInt), .int (iI (xs (i + 3)).toInt), .int (iI (xs (i + 4)).toInt)]) (rest := []) ⟨hx, hb, hml, hown, hts⟩ (m_sell l cg D (fun j => ad (74 + j)) (sub emM st1) (xR st) (xD st) (by rw [e2]; exact hX.1) (by rw [e2]; exact hX.rows) ((xs (i + 1)).toInt) ((xs (i + 2)).toInt) ((xs (i + 3)).toInt) ((xs (i + 4)).toInt) (iI_rng (xs (i + 1))) (iI_rng (xs (i + 2))) (iI_rng (xs (i + 3))) (iI_rng (xs (i + 4)))) (cwV 4 hts gL_law_X6_sell rfl rfl rfl (by decide +kernel) ⟨Nat.le_of_ble_eq_true rfl, Nat.le_of_ble_eq_true rfl⟩) (mk_preV hK hN (hW.emb (EmbMT cg ad)) 0 (by decide) rfl rfl rfl) rfl rfl hl.1 rfl (lv_room (Nat.le_of_ble_eq_true rfl)) dL_law_292 ⟨show 100 + i + 1 ≤ 601024 by omega, show 5674 + 6 * i + 6 ≤ 7293034 by omega⟩) hW (fun z2 u2 hp2 H locs hW => ?_)
  rw [e2] at hp2
  obtain ⟨b2, hp2, hbe⟩ := hp2
  obtain ⟨s1, s2, s3⟩ := E4.f hp hp2
  obtain ⟨st2, e3⟩ : ∃ q, q = up 26 emM u2 st1 := ⟨_, rfl⟩
  rw [← e3] at hW
  have hX2 : XI st2 (sub emM st2) := by rw [e3]; exact inv_next (st := st) hX1 (by rw [s3]; exact hbe)
  have h29 : st2 74 29 = z := by
    rw [e3]
    show up 26 emM u2 st1 (emM 0) 29 = z
    rw [up_in emM_inj (by decide)]
    exact s1.symm
  have h73 : z = 0 → st2 73 0 = wr z2 := fun h => by rw [e3, up_m_lo (by decide), e1, up_w (by decide), hout h, s2 h]
  refine W.widen (show 100 + i + 1 ≤ 100 + (i + 5) by omega) (show 5674 + 6 * i + 6 ≤ 5674 + 6 * (i + 5) by omega) ?_
  exact lk_tail F hl hW (E4.k hp) h29 h73 ⟨by omega, by omega⟩ (by decide) dL_law_295 dL_law_297 dL_law_298 dL_law_301 dL_law_303 dL_law_308 dL_law_310 dL_law_313 dL_law_314 dL_law_315 dL_law_316 dL_law_318 dL_law_319 dL_law_320 dL_law_325 (fun ls H locs h1 h2 => kk ls st2 H locs h1 h2 hX2)
set_option maxHeartbeats 2000000 in
set_option maxRecDepth 100000 in
theorem lc_split (F : LC p l s m meth c b L xs cg D) {i : Nat} (hi : i + 5 ≤ L) (hl : lv_has ls 7 [(0, .ref b), (1, .ref (ad 0)), (2, .ref (ad 74)), (3, .ref (ad 73)), (4, .int (iI (i : Int)))]) (hW : GW D vwCl 100 (celT cg) ad (fun q => s.heap.size ≤ q) s.heap st H locs) (hX : XI st (sub emM st))
    (kk : ∀ (ls : Array Slot) (st : Nat → Nat → Int) (H : Heap) (locs : List Loc), lv_has ls 7 [(0, .ref b), (1, .ref (ad 0)), (2, .ref (ad 74)), (3, .ref (ad 73)), (4, .int (iI (i : Int)))] → GW D vwCl 100 (celT cg) ad (fun q => s.heap.size ≤ q) s.heap st H locs → XI st (sub emM st) → W p l e room_1 s m #[Value.ref b] below meth c H locs (100 + (i + 5)) (5674 + 6 * (i + 5)) Q (F0 m 1597 ls [])) : W p l e room_1 s m #[Value.ref b] below meth c H locs (100 + i) (5674 + 6 * i) Q (F0 m 328 ls []) := by
  obtain ⟨hx, hb, hr, hml, hown, hts, hXs, hbl, hlocks, hst, hK, hN, hxK, hxZ, hxN, hL⟩ := id F
  refine lv_aload_n hx hb dL_law_328 rfl (lv_at hl 1 rfl) ?_
  refine lk_arg F hW (lv_at hl 0 rfl) (lv_at hl 4 rfl) (j := 1) (by omega) rfl dL_law_329 dL_law_330 dL_law_332 dL_law_333 dL_law_334 ?_
  refine lk_arg F hW (lv_at hl 0 rfl) (lv_at hl 4 rfl) (j := 2) (by omega) rfl dL_law_335 dL_law_336 dL_law_338 dL_law_339 dL_law_340 ?_
  refine lk_arg F hW (lv_at hl 0 rfl) (lv_at hl 4 rfl) (j := 3) (by omega) rfl dL_law_341 dL_law_342 dL_law_344 dL_law_345 dL_law_346 ?_
  refine lv_aload_n hx hb dL_law_347 rfl (lv_at hl 3 rfl) ?_
  refine mw_goIE (EmbWT cg ad) (vx_runSW (As := [.ref (ad 0), .int (iI (xs (i + 1)).toInt), .int (iI (xs (i + 2)).toInt), .int (iI (xs (i + 3)).toInt), .ref (ad 73)]) (rest := []) ⟨hx, hb, hml, hown, hts⟩ (w_split l cg D ad st hst (sub emM st) hX ((xs (i + 1)).toInt) ((xs (i + 2)).toInt) ((xs (i + 3)).toInt) (iI_rng (xs (i + 1))) (iI_rng (xs (i + 2))) (iI_rng (xs (i + 3)))) (vx_cwSW 5 hts gL_law_L_split rfl rfl rfl (by decide +kernel) ⟨Nat.le_of_ble_eq_true rfl, Nat.le_of_ble_eq_true rfl⟩) (mw_preS hK hN hxK hxZ hxN (hW.emb (EmbWT cg ad))) rfl rfl hl.1 rfl (lv_room (Nat.le_of_ble_eq_true rfl)) dL_law_348 ⟨show 100 + i + 1 ≤ 601024 by omega, show 5674 + 6 * i + 6 ≤ 7293034 by omega⟩) hW (fun z u hp H locs hW => ?_)
  obtain ⟨st1, e1⟩ : ∃ q, q = up 74 (fun k => k) u st := ⟨_, rfl⟩
  rw [← e1] at hW
  have e2 : sub emM st1 = sub emM st := by rw [e1]; exact sub_wm u st
  obtain ⟨v, b1, hp, hXu, hout⟩ := hp
  have hX1 : XI st1 b1 := hXu.on fun k hk => by rw [e1]; exact up_w (by omega) u st
  refine lv_istore (lv' := [(5, .int (iI z)), (0, .ref b), (1, .ref (ad 0)), (2, .ref (ad 74)), (3, .ref (ad 73)), (4, .int (iI (i : Int)))]) hx hb dL_law_351 hl (by decide) rfl (fun ls hl => ?_)
  refine lv_aload_n hx hb dL_law_353 rfl (lv_at hl 3 rfl) ?_
  refine lk_arg F hW (lv_at hl 1 rfl) (lv_at hl 5 rfl) (j := 1) (by omega) rfl dL_law_354 dL_law_355 dL_law_357 dL_law_358 dL_law_359 ?_
  refine lk_arg F hW (lv_at hl 1 rfl) (lv_at hl 5 rfl) (j := 2) (by omega) rfl dL_law_360 dL_law_361 dL_law_363 dL_law_364 dL_law_365 ?_
  refine lk_arg F hW (lv_at hl 1 rfl) (lv_at hl 5 rfl) (j := 3) (by omega) rfl dL_law_366 dL_law_367 dL_law_369 dL_law_370 dL_law_371 ?_
  refine mk_goIE (EmbMT cg ad) (va_runV (As := [.int (iI (xs (i + 1)).toInt), .int (iI (xs (i + 2)).toInt), .int (iI (xs (i + 3)).toInt)]) (rest := []) ⟨hx, hb, hml, hown, hts⟩ (m_split l cg D (fun j => ad (74 + j)) (sub emM st1) (xR st) (xD st) (by rw [e2]; exact hX.1) (by rw [e2]; exact hX.rows) ((xs (i + 1)).toInt) ((xs (i + 2)).toInt) ((xs (i + 3)).toInt) (iI_rng (xs (i + 1))) (iI_rng (xs (i + 2))) (iI_rng (xs (i + 3)))) (cwV 3 hts gL_law_X6_split rfl rfl rfl (by decide +kernel) ⟨Nat.le_of_ble_eq_true rfl, Nat.le_of_ble_eq_true rfl⟩) (mk_preV hK hN (hW.emb (EmbMT cg ad)) 0 (by decide) rfl rfl rfl) rfl rfl hl.1 rfl (lv_room (Nat.le_of_ble_eq_true rfl)) dL_law_372 ⟨show 100 + i + 1 ≤ 601024 by omega, show 5674 + 6 * i + 6 ≤ 7293034 by omega⟩) hW (fun z2 u2 hp2 H locs hW => ?_)
  rw [e2] at hp2
  obtain ⟨b2, hp2, hbe⟩ := hp2
  obtain ⟨s1, s2, s3⟩ := E4.f hp hp2
  obtain ⟨st2, e3⟩ : ∃ q, q = up 26 emM u2 st1 := ⟨_, rfl⟩
  rw [← e3] at hW
  have hX2 : XI st2 (sub emM st2) := by rw [e3]; exact inv_next (st := st) hX1 (by rw [s3]; exact hbe)
  have h29 : st2 74 29 = z := by
    rw [e3]
    show up 26 emM u2 st1 (emM 0) 29 = z
    rw [up_in emM_inj (by decide)]
    exact s1.symm
  have h73 : z = 0 → st2 73 0 = wr z2 := fun h => by rw [e3, up_m_lo (by decide), e1, up_w (by decide), hout h, s2 h]
  refine W.widen (show 100 + i + 1 ≤ 100 + (i + 5) by omega) (show 5674 + 6 * i + 6 ≤ 5674 + 6 * (i + 5) by omega) ?_
  exact lk_tail F hl hW (E4.k hp) h29 h73 ⟨by omega, by omega⟩ (by decide) dL_law_375 dL_law_377 dL_law_378 dL_law_381 dL_law_383 dL_law_388 dL_law_390 dL_law_393 dL_law_394 dL_law_395 dL_law_396 dL_law_398 dL_law_399 dL_law_400 dL_law_405 (fun ls H locs h1 h2 => kk ls st2 H locs h1 h2 hX2)
end LAWC

