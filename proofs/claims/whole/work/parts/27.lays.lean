set_option maxHeartbeats 4000000 in
set_option maxRecDepth 100000 in
theorem c_X6_laysDays (l : Launch) (cg : Nat → ClassId) (D : va_G) (ad : Nat → Nat) (st : Nat → Nat → Int) (v n mm : Nat) (hv : v < 3) (hn : st 0 0 = n) (hJ : JV (st 5) (st 6) (st 1) (st 2) (st 3) (st 4) n) (hm : st 7 v = mm) (hS : SPV (fun i => st 8 (4 * v + i)) (fun i => st 9 (4 * v + i)) mm) (R : Nat) (fD : Nat → Int) (hI : IsR (lvb (st 6) (st 1) (v : Int)) (st 2) n R fD) : MV l yX6_laysDays wsX6_laysDays ({ frames := 1, cells := 0, slots := 0, locals := 24 }) D vwCl (TY cg) 26 (celM cg) ad st [.ref (ad 0), .int (iI ((v : Nat) : Int))] (fun st1 => Fr [0, 11, 12, 13, 14, 15, 16, 17] st st1 ∧ (st1 0 0 = st 0 0 ∧ st1 0 11 = st 0 11 ∧ st1 0 22 = st 0 22 ∧ st1 0 29 = st 0 29) ∧ st1 0 12 = R ∧ ∀ r, r < R → st1 11 r = fD r ∧ st1 12 r = (qB (lvb (st 6) (st 1) (v : Int)) (st 5) (st 2) (uni (st 3) (st 2) (fun i => st 8 (4 * v + i)) (fun i => st 9 (4 * v + i)) mm) n fD) r ∧ st1 13 r = (qB (lvb (st 6) (st 1) (v : Int)) (st 5) (st 2) (st 4) n fD) r ∧ st1 14 r = (qS (lvb (st 6) (st 1) (v : Int)) (st 5) (st 2) (uni (st 3) (st 2) (fun i => st 8 (4 * v + i)) (fun i => st 9 (4 * v + i)) mm) n fD) r ∧ st1 15 r = (qS (lvb (st 6) (st 1) (v : Int)) (st 5) (st 2) (st 4) n fD) r ∧ st1 16 r = (qB (lvb (st 6) (st 1) (v : Int)) (st 5) (st 2) (uni (st 3) (st 2) (fun i => st 8 (4 * v + i)) (fun i => st 9 (4 * v + i)) mm) n fD) r ∧ st1 17 r = (qS (lvb (st 6) (st 1) (v : Int)) (st 5) (st 2) (uni (st 3) (st 2) (fun i => st 8 (4 * v + i)) (fun i => st 9 (4 * v + i)) mm) n fD) r) := by
  refine mk_open (cc := cX6_laysDays) (maxL := 7) (ret := none) (by decide) rfl (Nat.le_of_ble_eq_true rfl) ?_
  intro p e s m args below meth c hx hb hml hr hown hts hlocks hK hN hargs ls hl hW
  have hown : s.vm.findClass RX6 = some m.cls := hown
  have hl : lv_has ls 7 [(0, .ref (ad 0)), (1, .int (iI ((v : Nat) : Int)))] := hl
  have inX6 : ∀ w ∈ wsX60, w ∈ wsX6_laysDays := by decide +kernel
  have fl124 := hts (.fieldLink RX6 124 "GainsReckonerModel" "days" "I") (by decide +kernel)
  have fl61 := hts (.fieldLink RX6 61 "GainsReckonerModel" "buyLeft" "[J") (by decide +kernel)
  have fl48 := hts (.fieldLink RX6 48 "GainsReckonerModel" "bought" "[J") (by decide +kernel)
  have fl64 := hts (.fieldLink RX6 64 "GainsReckonerModel" "saleLeft" "[J") (by decide +kernel)
  have fl55 := hts (.fieldLink RX6 55 "GainsReckonerModel" "sold" "[J") (by decide +kernel)
  have fl98 := hts (.fieldLink RX6 98 "GainsReckonerModel" "trades" "I") (by decide +kernel)
  have fl26 := hts (.fieldLink RX6 26 "GainsReckonerModel" "gone" "[Z") (by decide +kernel)
  have fl7 := hts (.fieldLink RX6 7 "GainsReckonerModel" "share" "[I") (by decide +kernel)
  have fl13 := hts (.fieldLink RX6 13 "GainsReckonerModel" "day" "[I") (by decide +kernel)
  have fl16 := hts (.fieldLink RX6 16 "GainsReckonerModel" "count" "[I") (by decide +kernel)
  have fl22 := hts (.fieldLink RX6 22 "GainsReckonerModel" "sale" "[Z") (by decide +kernel)
  have fl52 := hts (.fieldLink RX6 52 "GainsReckonerModel" "cost" "[J") (by decide +kernel)
  have fl19 := hts (.fieldLink RX6 19 "GainsReckonerModel" "money" "[I") (by decide +kernel)
  have fl58 := hts (.fieldLink RX6 58 "GainsReckonerModel" "proceeds" "[J") (by decide +kernel)
  have fl45 := hts (.fieldLink RX6 45 "GainsReckonerModel" "date" "[I") (by decide +kernel)
  have hn6 := hJ.1
  have hRn := hI.le
  refine lv_aload_n hx hb dX6_laysDays_0 rfl (lv_at hl 0 rfl) ?_
  refine mk_iconst hx hb (0) dX6_laysDays_1 ?_
  refine mk_put (ci := 6) (C := RX6) (T := TX6) (N := 30) hx hb hts inX6 tyX6 tyX6_ok nmX6 hown hK hW 0 (by decide) rfl rfl 12 (by decide) fl124 (fun _ h9 => h9) rfl (by decide +kernel) (Nat.le_of_ble_eq_true rfl) rfl dX6_laysDays_2 (fun H locs hW => ?_)
  obtain ⟨st1, est1⟩ : ∃ z, z = stC st 0 (fnU (st 0) 12 0) := ⟨_, rfl⟩
  rw [← est1] at hW
  refine mk_iconst hx hb (0) dX6_laysDays_5 ?_
  refine lv_istore_n (lv' := [(2, .int (iI 0)), (0, .ref (ad 0)), (1, .int (iI ((v : Nat) : Int)))]) hx hb dX6_laysDays_6 rfl hl (by decide) rfl (fun ls hl => ?_)
  have loop7 : ∀ (fuel : Nat) (q : Nat → Nat → Int) (dd : Nat) (r : Nat), (dd ≤ 1825) → (Fr [0, 11, 12, 13, 14, 15] st q) → (q 0 0 = st 0 0 ∧ q 0 11 = st 0 11 ∧ q 0 22 = st 0 22 ∧ q 0 29 = st 0 29) → (q 0 12 = r) → (r ≤ R) → (∀ i, i < r → fD i < dd) → (∀ i, r ≤ i → i < R → (dd : Int) ≤ fD i) → (∀ i, i < r → q 11 i = fD i ∧ q 12 i = (qB (lvb (st 6) (st 1) (v : Int)) (st 5) (st 2) (uni (st 3) (st 2) (fun i => st 8 (4 * v + i)) (fun i => st 9 (4 * v + i)) mm) n fD) i ∧ q 13 i = (qB (lvb (st 6) (st 1) (v : Int)) (st 5) (st 2) (st 4) n fD) i ∧ q 14 i = (qS (lvb (st 6) (st 1) (v : Int)) (st 5) (st 2) (uni (st 3) (st 2) (fun i => st 8 (4 * v + i)) (fun i => st 9 (4 * v + i)) mm) n fD) i ∧ q 15 i = (qS (lvb (st 6) (st 1) (v : Int)) (st 5) (st 2) (st 4) n fD) i) → 1825 - dd < fuel → ∀ (H : Heap) (locs : List Loc) (ls : Array Slot), GW D vwCl 26 (celM cg) ad (wA 26 ad) s.heap q H locs → lv_has ls 7 [(0, .ref (ad 0)), (1, .int (iI ((v : Nat) : Int))), (2, .int (iI ((dd : Nat) : Int)))] → W p l e (headSpec wsX6_laysDays ({ frames := 1, cells := 0, slots := 0, locals := 24 })).room s m args below meth c H locs 0 0 (MQ below (va_Qv (fun st1 => Fr [0, 11, 12, 13, 14, 15, 16, 17] st st1 ∧ (st1 0 0 = st 0 0 ∧ st1 0 11 = st 0 11 ∧ st1 0 22 = st 0 22 ∧ st1 0 29 = st 0 29) ∧ st1 0 12 = R ∧ ∀ r, r < R → st1 11 r = fD r ∧ st1 12 r = (qB (lvb (st 6) (st 1) (v : Int)) (st 5) (st 2) (uni (st 3) (st 2) (fun i => st 8 (4 * v + i)) (fun i => st 9 (4 * v + i)) mm) n fD) r ∧ st1 13 r = (qB (lvb (st 6) (st 1) (v : Int)) (st 5) (st 2) (st 4) n fD) r ∧ st1 14 r = (qS (lvb (st 6) (st 1) (v : Int)) (st 5) (st 2) (uni (st 3) (st 2) (fun i => st 8 (4 * v + i)) (fun i => st 9 (4 * v + i)) mm) n fD) r ∧ st1 15 r = (qS (lvb (st 6) (st 1) (v : Int)) (st 5) (st 2) (st 4) n fD) r ∧ st1 16 r = (qB (lvb (st 6) (st 1) (v : Int)) (st 5) (st 2) (uni (st 3) (st 2) (fun i => st 8 (4 * v + i)) (fun i => st 9 (4 * v + i)) mm) n fD) r ∧ st1 17 r = (qS (lvb (st 6) (st 1) (v : Int)) (st 5) (st 2) (uni (st 3) (st 2) (fun i => st 8 (4 * v + i)) (fun i => st 9 (4 * v + i)) mm) n fD) r) (mB D vwCl 26 (celM cg) ad) (wA 26 ad)) args s 0 0 (wA 26 ad)) (F0 m 7 ls []) := by
    intro fuel
    induction fuel with
    | zero => intro q dd r hd hf hkp hq12 hrR6 hlt hge hrw0 hmu; omega
    | succ fuel ih7 =>
      intro q dd r hd hf hkp hq12 hrR6 hlt hge hrw0 hmu H locs ls hW hl
      refine lv_iload_n hx hb dX6_laysDays_7 rfl (lv_at hl 2 rfl) ?_
      refine mk_sipush hx hb (1825) (by decide +kernel) dX6_laysDays_8 ?_
      refine mk_icmp_ge (tgt := 288) hx hb dX6_laysDays_11 (by decide) (by omega) (by omega) (fun c_11 => ?_) (fun c_11 => ?_)
      · skip
        have erR : r = R := by
          rcases Nat.lt_or_ge r R with y | y
          · obtain ⟨j, h4, h5, h6⟩ := hI.1 r y
            have := (hJ.2 j h4).2.2.2.1
            have := hge r (Nat.le_refl r) y
            omega
          · omega
        refine mk_iconst hx hb (0) dX6_laysDays_288 ?_
        refine lv_istore_n (lv' := [(2, .int (iI 0)), (0, .ref (ad 0)), (1, .int (iI ((v : Nat) : Int)))]) hx hb dX6_laysDays_289 rfl hl (by decide) rfl (fun ls hl => ?_)
        have loop290 : ∀ (fuel : Nat) (q4 : Nat → Nat → Int) (j : Nat), (j ≤ r) → (Fr [16, 17] q q4) → (∀ i, i < j → q4 16 i = (qB (lvb (st 6) (st 1) (v : Int)) (st 5) (st 2) (uni (st 3) (st 2) (fun i => st 8 (4 * v + i)) (fun i => st 9 (4 * v + i)) mm) n fD) i ∧ q4 17 i = (qS (lvb (st 6) (st 1) (v : Int)) (st 5) (st 2) (uni (st 3) (st 2) (fun i => st 8 (4 * v + i)) (fun i => st 9 (4 * v + i)) mm) n fD) i) → r - j < fuel → ∀ (H : Heap) (locs : List Loc) (ls : Array Slot), GW D vwCl 26 (celM cg) ad (wA 26 ad) s.heap q4 H locs → lv_has ls 7 [(0, .ref (ad 0)), (2, .int (iI ((j : Nat) : Int)))] → W p l e (headSpec wsX6_laysDays ({ frames := 1, cells := 0, slots := 0, locals := 24 })).room s m args below meth c H locs 0 0 (MQ below (va_Qv (fun st1 => Fr [0, 11, 12, 13, 14, 15, 16, 17] st st1 ∧ (st1 0 0 = st 0 0 ∧ st1 0 11 = st 0 11 ∧ st1 0 22 = st 0 22 ∧ st1 0 29 = st 0 29) ∧ st1 0 12 = R ∧ ∀ r, r < R → st1 11 r = fD r ∧ st1 12 r = (qB (lvb (st 6) (st 1) (v : Int)) (st 5) (st 2) (uni (st 3) (st 2) (fun i => st 8 (4 * v + i)) (fun i => st 9 (4 * v + i)) mm) n fD) r ∧ st1 13 r = (qB (lvb (st 6) (st 1) (v : Int)) (st 5) (st 2) (st 4) n fD) r ∧ st1 14 r = (qS (lvb (st 6) (st 1) (v : Int)) (st 5) (st 2) (uni (st 3) (st 2) (fun i => st 8 (4 * v + i)) (fun i => st 9 (4 * v + i)) mm) n fD) r ∧ st1 15 r = (qS (lvb (st 6) (st 1) (v : Int)) (st 5) (st 2) (st 4) n fD) r ∧ st1 16 r = (qB (lvb (st 6) (st 1) (v : Int)) (st 5) (st 2) (uni (st 3) (st 2) (fun i => st 8 (4 * v + i)) (fun i => st 9 (4 * v + i)) mm) n fD) r ∧ st1 17 r = (qS (lvb (st 6) (st 1) (v : Int)) (st 5) (st 2) (uni (st 3) (st 2) (fun i => st 8 (4 * v + i)) (fun i => st 9 (4 * v + i)) mm) n fD) r) (mB D vwCl 26 (celM cg) ad) (wA 26 ad)) args s 0 0 (wA 26 ad)) (F0 m 290 ls []) := by
          intro fuel
          induction fuel with
          | zero => intro q4 j hj6 hf4 hc4 hmu; omega
          | succ fuel ih290 =>
            intro q4 j hj6 hf4 hc4 hmu H locs ls hW hl
            refine lv_iload_n hx hb dX6_laysDays_290 rfl (lv_at hl 1 rfl) ?_
            refine lv_aload_n hx hb dX6_laysDays_291 rfl (lv_at hl 0 rfl) ?_
            refine mk_get (ci := 6) (C := RX6) (T := TX6) (N := 30) hx hb hts inX6 hown hK hW 0 (by decide) rfl rfl 12 (by decide) fl124 (fun _ h9 => h9) rfl dX6_laysDays_292 ?_
            refine mk_sayi (y := (q 0 12)) (by rw [hf4 0 (by decide)]) ?_
            refine mk_sayi (y := ((r : Nat) : Int)) hq12 ?_
            refine mk_icmp_ge (tgt := 328) hx hb dX6_laysDays_295 (by decide) (by omega) (by omega) (fun c_295 => ?_) (fun c_295 => ?_)
            · skip
              exact mk_retV hx hb hr hlocks hW (by
                have ej : j = r := by omega
                have e0 : ∀ i, q4 0 i = q 0 i := fun i => by rw [hf4 0 (by decide)]
                refine ⟨hf.tr hf4 [0, 11, 12, 13, 14, 15, 16, 17] (by decide), by rw [e0, e0, e0, e0]; exact hkp, by rw [e0, hq12, erR], fun i hi => ?_⟩
                obtain ⟨g1, g2, g3, g4, g5⟩ := hrw0 i (by omega)
                obtain ⟨g6, g7⟩ := hc4 i (by omega)
                rw [hf4 11 (by decide), hf4 12 (by decide), hf4 13 (by decide), hf4 14 (by decide), hf4 15 (by decide)]
                exact ⟨g1, g2, g3, g4, g5, g6, g7⟩) dX6_laysDays_328
            · skip
              refine lv_aload_n hx hb dX6_laysDays_298 rfl (lv_at hl 0 rfl) ?_
              refine mk_get (ci := 6) (C := RX6) (T := TX6) (N := 30) hx hb hts inX6 hown hK hW 0 (by decide) rfl rfl 18 (by decide) fl61 (fun _ h9 => h9) rfl dX6_laysDays_299 ?_
              refine lv_iload_n hx hb dX6_laysDays_302 rfl (lv_at hl 1 rfl) ?_
              refine lv_aload_n hx hb dX6_laysDays_303 rfl (lv_at hl 0 rfl) ?_
              refine mk_get (ci := 6) (C := RX6) (T := TX6) (N := 30) hx hb hts inX6 hown hK hW 0 (by decide) rfl rfl 14 (by decide) fl48 (fun _ h9 => h9) rfl dX6_laysDays_304 ?_
              refine lv_iload_n hx hb dX6_laysDays_307 rfl (lv_at hl 1 rfl) ?_
              refine mk_lald hx hb hK hW 12 (by decide) rfl 2 rfl (j := j) rfl (by omega) (by decide) dX6_laysDays_308 ?_
              refine mk_sayl (y := (q 12 j)) (by rw [hf4 12 (by decide)]) ?_
              refine mk_last hx hb hK hW 16 (by decide) (fun _ => rfl) 2 rfl (j := j) rfl (by omega) (by decide) dX6_laysDays_309 (fun H locs hW => ?_)
              obtain ⟨st2, est2⟩ : ∃ z, z = stC q4 16 (fnU (q4 16) j (q 12 j)) := ⟨_, rfl⟩
              rw [← est2] at hW
              refine lv_aload_n hx hb dX6_laysDays_310 rfl (lv_at hl 0 rfl) ?_
              refine mk_get (ci := 6) (C := RX6) (T := TX6) (N := 30) hx hb hts inX6 hown hK hW 0 (by decide) rfl rfl 19 (by decide) fl64 (fun _ h9 => h9) rfl dX6_laysDays_311 ?_
              refine lv_iload_n hx hb dX6_laysDays_314 rfl (lv_at hl 1 rfl) ?_
              refine lv_aload_n hx hb dX6_laysDays_315 rfl (lv_at hl 0 rfl) ?_
              refine mk_get (ci := 6) (C := RX6) (T := TX6) (N := 30) hx hb hts inX6 hown hK hW 0 (by decide) rfl rfl 16 (by decide) fl55 (fun _ h9 => h9) rfl dX6_laysDays_316 ?_
              refine lv_iload_n hx hb dX6_laysDays_319 rfl (lv_at hl 1 rfl) ?_
              refine mk_lald hx hb hK hW 14 (by decide) rfl 2 rfl (j := j) rfl (by omega) (by decide) dX6_laysDays_320 ?_
              refine mk_sayl (y := (q 14 j)) (by rw [show st2 14 = q4 14 from by rw [est2]; exact stC_ne (by decide), hf4 14 (by decide)]) ?_
              refine mk_last hx hb hK hW 17 (by decide) (fun _ => rfl) 2 rfl (j := j) rfl (by omega) (by decide) dX6_laysDays_321 (fun H locs hW => ?_)
              obtain ⟨st3, est3⟩ : ∃ z, z = stC st2 17 (fnU (st2 17) j (q 14 j)) := ⟨_, rfl⟩
              rw [← est3] at hW
              refine mk_iinc (w := ((j + 1 : Nat) : Int)) (lv' := [(2, .int (iI ((j + 1 : Nat) : Int))), (0, .ref (ad 0))]) hx hb dX6_laysDays_322 hl (k := 1) rfl (by omega) (by decide) rfl (fun ls hl => ?_)
              refine lv_goto (tgt := 290) hx hb dX6_laysDays_325 (by decide) ?_
              have hf5 : Fr [16, 17] q st3 := by rw [est3, est2]; exact (hf4.st (by decide)).st (by decide)
              have hc5 : ∀ i, i < j + 1 → st3 16 i = (qB (lvb (st 6) (st 1) (v : Int)) (st 5) (st 2) (uni (st 3) (st 2) (fun i => st 8 (4 * v + i)) (fun i => st 9 (4 * v + i)) mm) n fD) i ∧ st3 17 i = (qS (lvb (st 6) (st 1) (v : Int)) (st 5) (st 2) (uni (st 3) (st 2) (fun i => st 8 (4 * v + i)) (fun i => st 9 (4 * v + i)) mm) n fD) i := by
                intro i hi
                have h1 : st3 16 = fnU (q4 16) j (q 12 j) := by rw [est3, est2]; rfl
                have h2 : st3 17 = fnU (q4 17) j (q 14 j) := by rw [est3, est2]; rfl
                rw [h1, h2]
                rcases Nat.lt_or_ge i j with y | y
                · rw [fnU_ne (by omega), fnU_ne (by omega)]; exact hc4 i y
                · rw [show i = j by omega, fnU_eq, fnU_eq]; exact ⟨(hrw0 j (by omega)).2.1, (hrw0 j (by omega)).2.2.2.1⟩
              exact ih290 st3 (j + 1) (by omega) hf5 hc5 (by omega) _ _ _ hW (lv_sub hl [1, 0] rfl)
        exact loop290 _ q 0 (Nat.zero_le _) Fr.rf (fun i hi => absurd hi (by omega)) (Nat.lt_succ_self _) _ _ _ hW (lv_sub hl [1, 0] rfl)
      · skip
        refine mk_iconst hx hb (0) dX6_laysDays_14 ?_
        refine lv_istore_n (lv' := [(3, .int (iI 0)), (0, .ref (ad 0)), (1, .int (iI ((v : Nat) : Int))), (2, .int (iI ((dd : Nat) : Int)))]) hx hb dX6_laysDays_15 rfl hl (by decide) rfl (fun ls hl => ?_)
        refine mk_iconst hx hb (0) dX6_laysDays_16 ?_
        refine lv_istore (lv' := [(4, .int (iI 0)), (3, .int (iI 0)), (0, .ref (ad 0)), (1, .int (iI ((v : Nat) : Int))), (2, .int (iI ((dd : Nat) : Int)))]) hx hb dX6_laysDays_17 hl (by decide) rfl (fun ls hl => ?_)
        have loop19 : ∀ (fuel : Nat) (q2 : Nat → Nat → Int) (k : Nat) (a : Int), (k ≤ n) → (Fr [11, 12, 13, 14, 15] q q2) → (a = 0 ∨ a = 1) → (∀ i, i < r → q2 11 i = fD i ∧ q2 12 i = (qB (lvb (st 6) (st 1) (v : Int)) (st 5) (st 2) (uni (st 3) (st 2) (fun i => st 8 (4 * v + i)) (fun i => st 9 (4 * v + i)) mm) n fD) i ∧ q2 13 i = (qB (lvb (st 6) (st 1) (v : Int)) (st 5) (st 2) (st 4) n fD) i ∧ q2 14 i = (qS (lvb (st 6) (st 1) (v : Int)) (st 5) (st 2) (uni (st 3) (st 2) (fun i => st 8 (4 * v + i)) (fun i => st 9 (4 * v + i)) mm) n fD) i ∧ q2 15 i = (qS (lvb (st 6) (st 1) (v : Int)) (st 5) (st 2) (st 4) n fD) i) → ((a = 0 → ∀ i, i < k → ¬ ((lvb (st 6) (st 1) (v : Int)) i = true ∧ st 2 i = (dd : Int))) ∧ (a = 1 → r < R ∧ fD r = dd ∧ q2 11 r = dd ∧ q2 12 r = wsum (lvb (st 6) (st 1) (v : Int)) (st 2) (wB (st 5) (uni (st 3) (st 2) (fun i => st 8 (4 * v + i)) (fun i => st 9 (4 * v + i)) mm)) k (dd : Int) ∧ q2 13 r = wsum (lvb (st 6) (st 1) (v : Int)) (st 2) (wB (st 5) (st 4)) k (dd : Int) ∧ q2 14 r = wsum (lvb (st 6) (st 1) (v : Int)) (st 2) (wS (st 5) (uni (st 3) (st 2) (fun i => st 8 (4 * v + i)) (fun i => st 9 (4 * v + i)) mm)) k (dd : Int) ∧ q2 15 r = wsum (lvb (st 6) (st 1) (v : Int)) (st 2) (wS (st 5) (st 4)) k (dd : Int))) → n - k < fuel → ∀ (H : Heap) (locs : List Loc) (ls : Array Slot), GW D vwCl 26 (celM cg) ad (wA 26 ad) s.heap q2 H locs → lv_has ls 7 [(0, .ref (ad 0)), (1, .int (iI ((v : Nat) : Int))), (2, .int (iI ((dd : Nat) : Int))), (3, .int (iI a)), (4, .int (iI ((k : Nat) : Int)))] → W p l e (headSpec wsX6_laysDays ({ frames := 1, cells := 0, slots := 0, locals := 24 })).room s m args below meth c H locs 0 0 (MQ below (va_Qv (fun st1 => Fr [0, 11, 12, 13, 14, 15, 16, 17] st st1 ∧ (st1 0 0 = st 0 0 ∧ st1 0 11 = st 0 11 ∧ st1 0 22 = st 0 22 ∧ st1 0 29 = st 0 29) ∧ st1 0 12 = R ∧ ∀ r, r < R → st1 11 r = fD r ∧ st1 12 r = (qB (lvb (st 6) (st 1) (v : Int)) (st 5) (st 2) (uni (st 3) (st 2) (fun i => st 8 (4 * v + i)) (fun i => st 9 (4 * v + i)) mm) n fD) r ∧ st1 13 r = (qB (lvb (st 6) (st 1) (v : Int)) (st 5) (st 2) (st 4) n fD) r ∧ st1 14 r = (qS (lvb (st 6) (st 1) (v : Int)) (st 5) (st 2) (uni (st 3) (st 2) (fun i => st 8 (4 * v + i)) (fun i => st 9 (4 * v + i)) mm) n fD) r ∧ st1 15 r = (qS (lvb (st 6) (st 1) (v : Int)) (st 5) (st 2) (st 4) n fD) r ∧ st1 16 r = (qB (lvb (st 6) (st 1) (v : Int)) (st 5) (st 2) (uni (st 3) (st 2) (fun i => st 8 (4 * v + i)) (fun i => st 9 (4 * v + i)) mm) n fD) r ∧ st1 17 r = (qS (lvb (st 6) (st 1) (v : Int)) (st 5) (st 2) (uni (st 3) (st 2) (fun i => st 8 (4 * v + i)) (fun i => st 9 (4 * v + i)) mm) n fD) r) (mB D vwCl 26 (celM cg) ad) (wA 26 ad)) args s 0 0 (wA 26 ad)) (F0 m 19 ls []) := by
          intro fuel
          induction fuel with
          | zero => intro q2 k a hk hf2 a01 hrw hin hmu; omega
          | succ fuel ih19 =>
            intro q2 k a hk hf2 a01 hrw hin hmu H locs ls hW hl
            refine lv_iload hx hb dX6_laysDays_19 (lv_at hl 4 rfl) ?_
            refine lv_aload_n hx hb dX6_laysDays_21 rfl (lv_at hl 0 rfl) ?_
            refine mk_get (ci := 6) (C := RX6) (T := TX6) (N := 30) hx hb hts inX6 hown hK hW 0 (by decide) rfl rfl 0 (by decide) fl98 (fun _ h9 => h9) rfl dX6_laysDays_22 ?_
            refine mk_sayi (y := (st 0 0)) (by rw [hf2 0 (by decide), hkp.1]) ?_
            refine mk_sayi (y := ((n : Nat) : Int)) hn ?_
            refine mk_icmp_ge (tgt := 264) hx hb dX6_laysDays_25 (by decide) (by omega) (by omega) (fun c_25 => ?_) (fun c_25 => ?_)
            · skip
              refine lv_aload_n hx hb dX6_laysDays_264 rfl (lv_at hl 0 rfl) ?_
              refine lv_dup hx hb dX6_laysDays_265 rfl ?_
              refine mk_get (ci := 6) (C := RX6) (T := TX6) (N := 30) hx hb hts inX6 hown hK hW 0 (by decide) rfl rfl 12 (by decide) fl124 (fun _ h9 => h9) rfl dX6_laysDays_266 ?_
              refine mk_sayi (y := (q 0 12)) (by rw [hf2 0 (by decide)]) ?_
              refine mk_sayi (y := ((r : Nat) : Int)) hq12 ?_
              refine lv_iload_n hx hb dX6_laysDays_269 rfl (lv_at hl 3 rfl) ?_
              refine mk_if_eq (tgt := 277) hx hb dX6_laysDays_270 (by decide) (by omega) (fun c_270 => ?_) (fun c_270 => ?_)
              · skip
                refine mk_iconst hx hb (0) dX6_laysDays_277 ?_
                refine mk_iadd hx hb dX6_laysDays_278 ?_
                refine mk_put (ci := 6) (C := RX6) (T := TX6) (N := 30) hx hb hts inX6 tyX6 tyX6_ok nmX6 hown hK hW 0 (by decide) rfl rfl 12 (by decide) fl124 (fun _ h9 => h9) rfl (by decide +kernel) (Nat.le_of_ble_eq_true rfl) rfl dX6_laysDays_279 (fun H locs hW => ?_)
                obtain ⟨st4, est4⟩ : ∃ z, z = stC q2 0 (fnU (q2 0) 12 (((r : Nat) : Int) + 0)) := ⟨_, rfl⟩
                rw [← est4] at hW
                refine mk_iinc (w := ((dd + 1 : Nat) : Int)) (lv' := [(2, .int (iI ((dd + 1 : Nat) : Int))), (0, .ref (ad 0)), (1, .int (iI ((v : Nat) : Int))), (3, .int (iI a)), (4, .int (iI ((k : Nat) : Int)))]) hx hb dX6_laysDays_282 hl (k := 2) rfl (by omega) (by decide) rfl (fun ls hl => ?_)
                refine lv_goto (tgt := 7) hx hb dX6_laysDays_285 (by decide) ?_
                have hfq3 : Fr [0, 11, 12, 13, 14, 15] st st4 := by rw [est4]; exact (hf.tr hf2 [0, 11, 12, 13, 14, 15] (by decide)).st (by decide)
                have k0 : ∀ j, j ≠ 12 → st4 0 j = q 0 j := fun j hj => by rw [est4]; show fnU (q2 0) 12 _ j = _; rw [fnU_ne hj, hf2 0 (by decide)]
                have ek : k = n := by omega
                have kc : ∀ j, j ≠ 0 → st4 j = q2 j := fun j hj => by rw [est4]; exact stC_ne hj
                have hno := hin.1 (by omega)
                rw [ek] at hno
                have hge3 : ∀ i, r ≤ i → i < R → ((dd + 1 : Nat) : Int) ≤ fD i := by
                  intro i h1 h2
                  have h3 := hge i h1 h2
                  obtain ⟨j, h4, h5, h6⟩ := hI.1 i h2
                  have h7 : ¬ fD i = dd := fun h8 => hno j h4 ⟨h5, by omega⟩
                  omega
                have hrw3 : ∀ i, i < r → st4 11 i = fD i ∧ st4 12 i = (qB (lvb (st 6) (st 1) (v : Int)) (st 5) (st 2) (uni (st 3) (st 2) (fun i => st 8 (4 * v + i)) (fun i => st 9 (4 * v + i)) mm) n fD) i ∧ st4 13 i = (qB (lvb (st 6) (st 1) (v : Int)) (st 5) (st 2) (st 4) n fD) i ∧ st4 14 i = (qS (lvb (st 6) (st 1) (v : Int)) (st 5) (st 2) (uni (st 3) (st 2) (fun i => st 8 (4 * v + i)) (fun i => st 9 (4 * v + i)) mm) n fD) i ∧ st4 15 i = (qS (lvb (st 6) (st 1) (v : Int)) (st 5) (st 2) (st 4) n fD) i := by
                  intro i hi
                  rw [kc 11 (by decide), kc 12 (by decide), kc 13 (by decide), kc 14 (by decide), kc 15 (by decide)]
                  exact hrw i hi
                exact ih7 st4 (dd + 1) r (by omega) hfq3 ⟨by rw [k0 0 (by decide)]; exact hkp.1, by rw [k0 11 (by decide)]; exact hkp.2.1, by rw [k0 22 (by decide)]; exact hkp.2.2.1, by rw [k0 29 (by decide)]; exact hkp.2.2.2⟩ (by rw [est4]; exact (fnU_eq (q2 0) 12 ((r : Int) + 0)).trans (by omega)) (by omega) (fun i hi => by have := hlt i hi; omega) hge3 hrw3 (by omega) _ _ _ hW (lv_sub hl [1, 2, 0] rfl)
              · skip
                refine mk_iconst hx hb (1) dX6_laysDays_273 ?_
                refine lv_goto (tgt := 278) hx hb dX6_laysDays_274 (by decide) ?_
                refine mk_iadd hx hb dX6_laysDays_278 ?_
                refine mk_put (ci := 6) (C := RX6) (T := TX6) (N := 30) hx hb hts inX6 tyX6 tyX6_ok nmX6 hown hK hW 0 (by decide) rfl rfl 12 (by decide) fl124 (fun _ h9 => h9) rfl (by decide +kernel) (Nat.le_of_ble_eq_true rfl) rfl dX6_laysDays_279 (fun H locs hW => ?_)
                obtain ⟨st5, est5⟩ : ∃ z, z = stC q2 0 (fnU (q2 0) 12 (((r : Nat) : Int) + 1)) := ⟨_, rfl⟩
                rw [← est5] at hW
                refine mk_iinc (w := ((dd + 1 : Nat) : Int)) (lv' := [(2, .int (iI ((dd + 1 : Nat) : Int))), (0, .ref (ad 0)), (1, .int (iI ((v : Nat) : Int))), (3, .int (iI a)), (4, .int (iI ((k : Nat) : Int)))]) hx hb dX6_laysDays_282 hl (k := 2) rfl (by omega) (by decide) rfl (fun ls hl => ?_)
                refine lv_goto (tgt := 7) hx hb dX6_laysDays_285 (by decide) ?_
                have hfq3 : Fr [0, 11, 12, 13, 14, 15] st st5 := by rw [est5]; exact (hf.tr hf2 [0, 11, 12, 13, 14, 15] (by decide)).st (by decide)
                have k0 : ∀ j, j ≠ 12 → st5 0 j = q 0 j := fun j hj => by rw [est5]; show fnU (q2 0) 12 _ j = _; rw [fnU_ne hj, hf2 0 (by decide)]
                have ek : k = n := by omega
                have kc : ∀ j, j ≠ 0 → st5 j = q2 j := fun j hj => by rw [est5]; exact stC_ne hj
                have hcu := hin.2 (by omega)
                rw [ek] at hcu
                have hrw3 : ∀ i, i < r + 1 → st5 11 i = fD i ∧ st5 12 i = (qB (lvb (st 6) (st 1) (v : Int)) (st 5) (st 2) (uni (st 3) (st 2) (fun i => st 8 (4 * v + i)) (fun i => st 9 (4 * v + i)) mm) n fD) i ∧ st5 13 i = (qB (lvb (st 6) (st 1) (v : Int)) (st 5) (st 2) (st 4) n fD) i ∧ st5 14 i = (qS (lvb (st 6) (st 1) (v : Int)) (st 5) (st 2) (uni (st 3) (st 2) (fun i => st 8 (4 * v + i)) (fun i => st 9 (4 * v + i)) mm) n fD) i ∧ st5 15 i = (qS (lvb (st 6) (st 1) (v : Int)) (st 5) (st 2) (st 4) n fD) i := by
                  intro i hi
                  rw [kc 11 (by decide), kc 12 (by decide), kc 13 (by decide), kc 14 (by decide), kc 15 (by decide)]
                  rcases Nat.lt_or_ge i r with y | y
                  · exact hrw i y
                  · rw [show i = r by omega]
                    obtain ⟨g0, g1, g2, g3, g4, g5, g6⟩ := hcu
                    refine ⟨by rw [g2, g1], ?_, ?_, ?_, ?_⟩
                    · rw [g3, ← g1]; rfl
                    · rw [g4, ← g1]; rfl
                    · rw [g5, ← g1]; rfl
                    · rw [g6, ← g1]; rfl
                exact ih7 st5 (dd + 1) (r + 1) (by omega) hfq3 ⟨by rw [k0 0 (by decide)]; exact hkp.1, by rw [k0 11 (by decide)]; exact hkp.2.1, by rw [k0 22 (by decide)]; exact hkp.2.2.1, by rw [k0 29 (by decide)]; exact hkp.2.2.2⟩ (by rw [est5]; exact (fnU_eq (q2 0) 12 ((r : Int) + 1)).trans (by omega)) (by omega) (fun i hi => by rcases Nat.lt_or_ge i r with y | y; have := hlt i y; omega; rw [show i = r by omega]; have := hcu.2.1; omega) (fun i h1 h2 => by have := hI.2.2 r i (by omega) h2; have := hcu.2.1; omega) hrw3 (by omega) _ _ _ hW (lv_sub hl [1, 2, 0] rfl)
            · skip
              refine lv_aload_n hx hb dX6_laysDays_28 rfl (lv_at hl 0 rfl) ?_
              refine mk_get (ci := 6) (C := RX6) (T := TX6) (N := 30) hx hb hts inX6 hown hK hW 0 (by decide) rfl rfl 6 (by decide) fl26 (fun _ h9 => h9) rfl dX6_laysDays_29 ?_
              refine lv_iload hx hb dX6_laysDays_32 (lv_at hl 4 rfl) ?_
              refine mk_zald hx hb hK hW 6 (by decide) rfl 1 rfl (j := k) rfl (by omega) (by decide) dX6_laysDays_34 ?_
              refine mk_sayi (y := (st 6 k)) (by rw [hf2 6 (by decide), hf 6 (by decide)]) ?_
              have hj := hJ.2 k (by omega)
              refine mk_if_ne (tgt := 258) hx hb dX6_laysDays_35 (by decide) (by omega) (fun c_35 => ?_) (fun c_35 => ?_)
              · skip
                refine mk_iinc (w := ((k + 1 : Nat) : Int)) (lv' := [(4, .int (iI ((k + 1 : Nat) : Int))), (0, .ref (ad 0)), (1, .int (iI ((v : Nat) : Int))), (2, .int (iI ((dd : Nat) : Int))), (3, .int (iI a))]) hx hb dX6_laysDays_258 hl (k := 4) rfl (by omega) (by decide) rfl (fun ls hl => ?_)
                refine lv_goto (tgt := 19) hx hb dX6_laysDays_261 (by decide) ?_
                have hnk : ¬ ((lvb (st 6) (st 1) (v : Int)) k = true ∧ st 2 k = (dd : Int)) := fun h9 => by have := lvb_t.mp h9.1; omega
                have hin3 : (a = 0 → ∀ i, i < k + 1 → ¬ ((lvb (st 6) (st 1) (v : Int)) i = true ∧ st 2 i = (dd : Int))) ∧ (a = 1 → r < R ∧ fD r = dd ∧ q2 11 r = dd ∧ q2 12 r = wsum (lvb (st 6) (st 1) (v : Int)) (st 2) (wB (st 5) (uni (st 3) (st 2) (fun i => st 8 (4 * v + i)) (fun i => st 9 (4 * v + i)) mm)) (k + 1) (dd : Int) ∧ q2 13 r = wsum (lvb (st 6) (st 1) (v : Int)) (st 2) (wB (st 5) (st 4)) (k + 1) (dd : Int) ∧ q2 14 r = wsum (lvb (st 6) (st 1) (v : Int)) (st 2) (wS (st 5) (uni (st 3) (st 2) (fun i => st 8 (4 * v + i)) (fun i => st 9 (4 * v + i)) mm)) (k + 1) (dd : Int) ∧ q2 15 r = wsum (lvb (st 6) (st 1) (v : Int)) (st 2) (wS (st 5) (st 4)) (k + 1) (dd : Int)) := by
                  refine ⟨fun h i hi => ?_, fun h => ?_⟩
                  · rcases Nat.lt_or_ge i k with y | y
                    · exact hin.1 h i y
                    · rw [show i = k by omega]; exact hnk
                  · rw [wsum_dead hnk, wsum_dead hnk, wsum_dead hnk, wsum_dead hnk]; exact hin.2 h
                exact ih19 q2 (k + 1) a (by omega) hf2 a01 hrw hin3 (by omega) _ _ _ hW (lv_sub hl [1, 2, 3, 4, 0] rfl)
              · skip
                refine lv_aload_n hx hb dX6_laysDays_38 rfl (lv_at hl 0 rfl) ?_
                refine mk_get (ci := 6) (C := RX6) (T := TX6) (N := 30) hx hb hts inX6 hown hK hW 0 (by decide) rfl rfl 1 (by decide) fl7 (fun _ h9 => h9) rfl dX6_laysDays_39 ?_
                refine lv_iload hx hb dX6_laysDays_42 (lv_at hl 4 rfl) ?_
                refine mk_iald hx hb hK hW 1 (by decide) rfl 0 rfl (j := k) rfl (by omega) (by decide) dX6_laysDays_44 ?_
                refine mk_sayi (y := (st 1 k)) (by rw [hf2 1 (by decide), hf 1 (by decide)]) ?_
                refine lv_iload_n hx hb dX6_laysDays_45 rfl (lv_at hl 1 rfl) ?_
                refine mk_icmp_ne (tgt := 258) hx hb dX6_laysDays_46 (by decide) (by omega) (by omega) (fun c_46 => ?_) (fun c_46 => ?_)
                · skip
                  refine mk_iinc (w := ((k + 1 : Nat) : Int)) (lv' := [(4, .int (iI ((k + 1 : Nat) : Int))), (0, .ref (ad 0)), (1, .int (iI ((v : Nat) : Int))), (2, .int (iI ((dd : Nat) : Int))), (3, .int (iI a))]) hx hb dX6_laysDays_258 hl (k := 4) rfl (by omega) (by decide) rfl (fun ls hl => ?_)
                  refine lv_goto (tgt := 19) hx hb dX6_laysDays_261 (by decide) ?_
                  have hnk : ¬ ((lvb (st 6) (st 1) (v : Int)) k = true ∧ st 2 k = (dd : Int)) := fun h9 => by have := lvb_t.mp h9.1; omega
                  have hin3 : (a = 0 → ∀ i, i < k + 1 → ¬ ((lvb (st 6) (st 1) (v : Int)) i = true ∧ st 2 i = (dd : Int))) ∧ (a = 1 → r < R ∧ fD r = dd ∧ q2 11 r = dd ∧ q2 12 r = wsum (lvb (st 6) (st 1) (v : Int)) (st 2) (wB (st 5) (uni (st 3) (st 2) (fun i => st 8 (4 * v + i)) (fun i => st 9 (4 * v + i)) mm)) (k + 1) (dd : Int) ∧ q2 13 r = wsum (lvb (st 6) (st 1) (v : Int)) (st 2) (wB (st 5) (st 4)) (k + 1) (dd : Int) ∧ q2 14 r = wsum (lvb (st 6) (st 1) (v : Int)) (st 2) (wS (st 5) (uni (st 3) (st 2) (fun i => st 8 (4 * v + i)) (fun i => st 9 (4 * v + i)) mm)) (k + 1) (dd : Int) ∧ q2 15 r = wsum (lvb (st 6) (st 1) (v : Int)) (st 2) (wS (st 5) (st 4)) (k + 1) (dd : Int)) := by
                    refine ⟨fun h i hi => ?_, fun h => ?_⟩
                    · rcases Nat.lt_or_ge i k with y | y
                      · exact hin.1 h i y
                      · rw [show i = k by omega]; exact hnk
                    · rw [wsum_dead hnk, wsum_dead hnk, wsum_dead hnk, wsum_dead hnk]; exact hin.2 h
                  exact ih19 q2 (k + 1) a (by omega) hf2 a01 hrw hin3 (by omega) _ _ _ hW (lv_sub hl [1, 2, 3, 4, 0] rfl)
                · skip
                  refine lv_aload_n hx hb dX6_laysDays_49 rfl (lv_at hl 0 rfl) ?_
                  refine mk_get (ci := 6) (C := RX6) (T := TX6) (N := 30) hx hb hts inX6 hown hK hW 0 (by decide) rfl rfl 2 (by decide) fl13 (fun _ h9 => h9) rfl dX6_laysDays_50 ?_
                  refine lv_iload hx hb dX6_laysDays_53 (lv_at hl 4 rfl) ?_
                  refine mk_iald hx hb hK hW 2 (by decide) rfl 0 rfl (j := k) rfl (by omega) (by decide) dX6_laysDays_55 ?_
                  refine mk_sayi (y := (st 2 k)) (by rw [hf2 2 (by decide), hf 2 (by decide)]) ?_
                  refine lv_iload_n hx hb dX6_laysDays_56 rfl (lv_at hl 2 rfl) ?_
                  refine mk_icmp_ne (tgt := 258) hx hb dX6_laysDays_57 (by decide) (by omega) (by omega) (fun c_57 => ?_) (fun c_57 => ?_)
                  · skip
                    refine mk_iinc (w := ((k + 1 : Nat) : Int)) (lv' := [(4, .int (iI ((k + 1 : Nat) : Int))), (0, .ref (ad 0)), (1, .int (iI ((v : Nat) : Int))), (2, .int (iI ((dd : Nat) : Int))), (3, .int (iI a))]) hx hb dX6_laysDays_258 hl (k := 4) rfl (by omega) (by decide) rfl (fun ls hl => ?_)
                    refine lv_goto (tgt := 19) hx hb dX6_laysDays_261 (by decide) ?_
                    have hnk : ¬ ((lvb (st 6) (st 1) (v : Int)) k = true ∧ st 2 k = (dd : Int)) := fun h9 => by have := lvb_t.mp h9.1; omega
                    have hin3 : (a = 0 → ∀ i, i < k + 1 → ¬ ((lvb (st 6) (st 1) (v : Int)) i = true ∧ st 2 i = (dd : Int))) ∧ (a = 1 → r < R ∧ fD r = dd ∧ q2 11 r = dd ∧ q2 12 r = wsum (lvb (st 6) (st 1) (v : Int)) (st 2) (wB (st 5) (uni (st 3) (st 2) (fun i => st 8 (4 * v + i)) (fun i => st 9 (4 * v + i)) mm)) (k + 1) (dd : Int) ∧ q2 13 r = wsum (lvb (st 6) (st 1) (v : Int)) (st 2) (wB (st 5) (st 4)) (k + 1) (dd : Int) ∧ q2 14 r = wsum (lvb (st 6) (st 1) (v : Int)) (st 2) (wS (st 5) (uni (st 3) (st 2) (fun i => st 8 (4 * v + i)) (fun i => st 9 (4 * v + i)) mm)) (k + 1) (dd : Int) ∧ q2 15 r = wsum (lvb (st 6) (st 1) (v : Int)) (st 2) (wS (st 5) (st 4)) (k + 1) (dd : Int)) := by
                      refine ⟨fun h i hi => ?_, fun h => ?_⟩
                      · rcases Nat.lt_or_ge i k with y | y
                        · exact hin.1 h i y
                        · rw [show i = k by omega]; exact hnk
                      · rw [wsum_dead hnk, wsum_dead hnk, wsum_dead hnk, wsum_dead hnk]; exact hin.2 h
                    exact ih19 q2 (k + 1) a (by omega) hf2 a01 hrw hin3 (by omega) _ _ _ hW (lv_sub hl [1, 2, 3, 4, 0] rfl)
                  · skip
                    have hLk : (lvb (st 6) (st 1) (v : Int)) k = true := lvb_t.mpr (by omega)
                    have hrR : r < R ∧ fD r = dd := by
                      obtain ⟨i, hi, e9⟩ := hI.2.1 k (by omega) hLk
                      have h1 : r ≤ i := by
                        rcases Nat.lt_or_ge i r with y | y
                        · have := hlt i y; omega
                        · exact y
                      rcases Nat.lt_or_ge r i with y | y
                      · have := hI.2.2 r i y hi; have := hge r (Nat.le_refl r) (by omega); omega
                      · rw [show r = i by omega]; exact ⟨hi, by omega⟩
                    refine lv_iload_n hx hb dX6_laysDays_60 rfl (lv_at hl 3 rfl) ?_
                    refine mk_if_ne (tgt := 114) hx hb dX6_laysDays_61 (by decide) (by omega) (fun c_61 => ?_) (fun c_61 => ?_)
                    · skip
                      have hcur : r < R ∧ fD r = dd ∧ q2 11 r = dd ∧ q2 12 r = wsum (lvb (st 6) (st 1) (v : Int)) (st 2) (wB (st 5) (uni (st 3) (st 2) (fun i => st 8 (4 * v + i)) (fun i => st 9 (4 * v + i)) mm)) k (dd : Int) ∧ q2 13 r = wsum (lvb (st 6) (st 1) (v : Int)) (st 2) (wB (st 5) (st 4)) k (dd : Int) ∧ q2 14 r = wsum (lvb (st 6) (st 1) (v : Int)) (st 2) (wS (st 5) (uni (st 3) (st 2) (fun i => st 8 (4 * v + i)) (fun i => st 9 (4 * v + i)) mm)) k (dd : Int) ∧ q2 15 r = wsum (lvb (st 6) (st 1) (v : Int)) (st 2) (wS (st 5) (st 4)) k (dd : Int) := hin.2 (by omega)
                      have hrow : ∀ i, i < r → q2 11 i = fD i ∧ q2 12 i = (qB (lvb (st 6) (st 1) (v : Int)) (st 5) (st 2) (uni (st 3) (st 2) (fun i => st 8 (4 * v + i)) (fun i => st 9 (4 * v + i)) mm) n fD) i ∧ q2 13 i = (qB (lvb (st 6) (st 1) (v : Int)) (st 5) (st 2) (st 4) n fD) i ∧ q2 14 i = (qS (lvb (st 6) (st 1) (v : Int)) (st 5) (st 2) (uni (st 3) (st 2) (fun i => st 8 (4 * v + i)) (fun i => st 9 (4 * v + i)) mm) n fD) i ∧ q2 15 i = (qS (lvb (st 6) (st 1) (v : Int)) (st 5) (st 2) (st 4) n fD) i := hrw
                      refine mk_iconst hx hb (1) dX6_laysDays_114 ?_
                      refine lv_istore_n (lv' := [(3, .int (iI 1)), (0, .ref (ad 0)), (1, .int (iI ((v : Nat) : Int))), (2, .int (iI ((dd : Nat) : Int))), (4, .int (iI ((k : Nat) : Int)))]) hx hb dX6_laysDays_115 rfl hl (by decide) rfl (fun ls hl => ?_)
                      refine lv_aload_n hx hb dX6_laysDays_116 rfl (lv_at hl 1 rfl) ?_
                      refine mk_get (ci := 6) (C := RX6) (T := TX6) (N := 30) hx hb hts inX6 hown hK hW 0 (by decide) rfl rfl 3 (by decide) fl16 (fun _ h9 => h9) rfl dX6_laysDays_117 ?_
                      refine lv_iload hx hb dX6_laysDays_120 (lv_at hl 4 rfl) ?_
                      refine mk_iald hx hb hK hW 3 (by decide) rfl 0 rfl (j := k) rfl (by omega) (by decide) dX6_laysDays_122 ?_
                      refine mk_sayi (y := (st 3 k)) (by rw [hf2 3 (by decide), hf 3 (by decide)]) ?_
                      refine mk_i2l hx hb dX6_laysDays_123 (by omega) ?_
                      refine lv_aload_n hx hb dX6_laysDays_124 rfl (lv_at hl 1 rfl) ?_
                      refine lv_iload_n hx hb dX6_laysDays_125 rfl (lv_at hl 2 rfl) ?_
                      refine lv_iload_n hx hb dX6_laysDays_126 rfl (lv_at hl 3 rfl) ?_
                      refine mk_goI (va_runV (As := [.int (iI ((v : Nat) : Int)), .int (iI ((dd : Nat) : Int))]) (rest := [.long (lI (st 3 k))]) ⟨hx, hb, hml, hown, hts⟩ (c_X6_later l cg D ad q2 v mm (dd : Int) hv (by rw [hf2 7 (by decide), hf 7 (by decide)]; exact hm) (by rw [hf2 8 (by decide), hf 8 (by decide), hf2 9 (by decide), hf 9 (by decide)]; exact hS) (by omega)) (cwV 2 hts gX6_laysDays_X6_later rfl rfl rfl (by decide +kernel) ⟨Nat.le_of_ble_eq_true rfl, Nat.le_of_ble_eq_true rfl⟩) (mk_preV hK hN hW 0 (by decide) rfl rfl rfl) rfl rfl hl.1 rfl (lv_room (Nat.le_of_ble_eq_true rfl)) dX6_laysDays_127 ⟨Nat.zero_le _, Nat.zero_le _⟩) hW (fun z st6 hp127 H locs hW => ?_)
                      obtain ⟨est6, hz⟩ := hp127
                      rw [est6] at hW
                      rw [hf2 8 (by decide), hf 8 (by decide), hf2 9 (by decide), hf 9 (by decide)] at hz
                      have hfb := fla_bd hS (dd : Int)
                      refine mk_i2l hx hb dX6_laysDays_130 (by omega) ?_
                      refine mk_lmul hx hb dX6_laysDays_131 ?_
                      refine mk_topl (fun x e_x => ?_)
                      refine lv_lstore (lv' := [(5, .long (lI x)), (3, .int (iI 1)), (0, .ref (ad 0)), (1, .int (iI ((v : Nat) : Int))), (2, .int (iI ((dd : Nat) : Int))), (4, .int (iI ((k : Nat) : Int)))]) hx hb dX6_laysDays_132 hl (by decide) rfl (fun ls hl => ?_)
                      have hx9 : x = (uni (st 3) (st 2) (fun i => st 8 (4 * v + i)) (fun i => st 9 (4 * v + i)) mm) k := by
                        rw [e_x, hz]
                        show _ = st 3 k * fla (fun i => st 8 (4 * v + i)) (fun i => st 9 (4 * v + i)) mm (st 2 k)
                        rw [show st 2 k = (dd : Int) by omega]
                      refine lv_aload_n hx hb dX6_laysDays_134 rfl (lv_at hl 2 rfl) ?_
                      refine mk_get (ci := 6) (C := RX6) (T := TX6) (N := 30) hx hb hts inX6 hown hK hW 0 (by decide) rfl rfl 14 (by decide) fl48 (fun _ h9 => h9) rfl dX6_laysDays_135 ?_
                      refine lv_aload_n hx hb dX6_laysDays_138 rfl (lv_at hl 2 rfl) ?_
                      refine mk_get (ci := 6) (C := RX6) (T := TX6) (N := 30) hx hb hts inX6 hown hK hW 0 (by decide) rfl rfl 12 (by decide) fl124 (fun _ h9 => h9) rfl dX6_laysDays_139 ?_
                      refine mk_sayi (y := (q 0 12)) (by rw [hf2 0 (by decide)]) ?_
                      refine mk_sayi (y := ((r : Nat) : Int)) hq12 ?_
                      refine lv_dup2_11 hx hb dX6_laysDays_142 rfl rfl ?_
                      refine mk_lald hx hb hK hW 12 (by decide) rfl 2 rfl (j := r) rfl (by omega) (by decide) dX6_laysDays_143 ?_
                      refine mk_sayl (y := wsum (lvb (st 6) (st 1) (v : Int)) (st 2) (wB (st 5) (uni (st 3) (st 2) (fun i => st 8 (4 * v + i)) (fun i => st 9 (4 * v + i)) mm)) k (dd : Int)) hcur.2.2.2.1 ?_
                      refine lv_aload_n hx hb dX6_laysDays_144 rfl (lv_at hl 2 rfl) ?_
                      refine mk_get (ci := 6) (C := RX6) (T := TX6) (N := 30) hx hb hts inX6 hown hK hW 0 (by decide) rfl rfl 5 (by decide) fl22 (fun _ h9 => h9) rfl dX6_laysDays_145 ?_
                      refine lv_iload hx hb dX6_laysDays_148 (lv_at hl 5 rfl) ?_
                      refine mk_zald hx hb hK hW 5 (by decide) rfl 1 rfl (j := k) rfl (by omega) (by decide) dX6_laysDays_150 ?_
                      refine mk_sayi (y := (st 5 k)) (by rw [hf2 5 (by decide), hf 5 (by decide)]) ?_
                      refine mk_if_eq (tgt := 158) hx hb dX6_laysDays_151 (by decide) (by omega) (fun c_151 => ?_) (fun c_151 => ?_)
                      · skip
                        refine lv_lload hx hb dX6_laysDays_158 (lv_at hl 0 rfl) ?_
                        refine mk_ladd hx hb dX6_laysDays_160 ?_
                        refine mk_last hx hb hK hW 12 (by decide) (fun _ => rfl) 2 rfl (j := r) rfl (by omega) (by decide) dX6_laysDays_161 (fun H locs hW => ?_)
                        obtain ⟨st7, est7⟩ : ∃ z, z = stC q2 12 (fnU (q2 12) r (wsum (lvb (st 6) (st 1) (v : Int)) (st 2) (wB (st 5) (uni (st 3) (st 2) (fun i => st 8 (4 * v + i)) (fun i => st 9 (4 * v + i)) mm)) k (dd : Int) + x)) := ⟨_, rfl⟩
                        rw [← est7] at hW
                        refine lv_aload_n hx hb dX6_laysDays_162 rfl (lv_at hl 2 rfl) ?_
                        refine mk_get (ci := 6) (C := RX6) (T := TX6) (N := 30) hx hb hts inX6 hown hK hW 0 (by decide) rfl rfl 15 (by decide) fl52 (fun _ h9 => h9) rfl dX6_laysDays_163 ?_
                        refine lv_aload_n hx hb dX6_laysDays_166 rfl (lv_at hl 2 rfl) ?_
                        refine mk_get (ci := 6) (C := RX6) (T := TX6) (N := 30) hx hb hts inX6 hown hK hW 0 (by decide) rfl rfl 12 (by decide) fl124 (fun _ h9 => h9) rfl dX6_laysDays_167 ?_
                        refine mk_sayi (y := (q 0 12)) (by rw [show st7 0 = q2 0 from by rw [est7]; exact stC_ne (by decide), hf2 0 (by decide)]) ?_
                        refine mk_sayi (y := ((r : Nat) : Int)) hq12 ?_
                        refine lv_dup2_11 hx hb dX6_laysDays_170 rfl rfl ?_
                        refine mk_lald hx hb hK hW 13 (by decide) rfl 2 rfl (j := r) rfl (by omega) (by decide) dX6_laysDays_171 ?_
                        refine mk_sayl (y := wsum (lvb (st 6) (st 1) (v : Int)) (st 2) (wB (st 5) (st 4)) k (dd : Int)) (by rw [show st7 13 = q2 13 from by rw [est7]; exact stC_ne (by decide)]; exact hcur.2.2.2.2.1) ?_
                        refine lv_aload_n hx hb dX6_laysDays_172 rfl (lv_at hl 2 rfl) ?_
                        refine mk_get (ci := 6) (C := RX6) (T := TX6) (N := 30) hx hb hts inX6 hown hK hW 0 (by decide) rfl rfl 5 (by decide) fl22 (fun _ h9 => h9) rfl dX6_laysDays_173 ?_
                        refine lv_iload hx hb dX6_laysDays_176 (lv_at hl 5 rfl) ?_
                        refine mk_zald hx hb hK hW 5 (by decide) rfl 1 rfl (j := k) rfl (by omega) (by decide) dX6_laysDays_178 ?_
                        refine mk_sayi (y := (st 5 k)) (by rw [show st7 5 = q2 5 from by rw [est7]; exact stC_ne (by decide), hf2 5 (by decide), hf 5 (by decide)]) ?_
                        refine mk_if_eq (tgt := 186) hx hb dX6_laysDays_179 (by decide) (by omega) (fun c_179 => ?_) (fun c_179 => ?_)
                        · skip
                          refine lv_aload_n hx hb dX6_laysDays_186 rfl (lv_at hl 2 rfl) ?_
                          refine mk_get (ci := 6) (C := RX6) (T := TX6) (N := 30) hx hb hts inX6 hown hK hW 0 (by decide) rfl rfl 4 (by decide) fl19 (fun _ h9 => h9) rfl dX6_laysDays_187 ?_
                          refine lv_iload hx hb dX6_laysDays_190 (lv_at hl 5 rfl) ?_
                          refine mk_iald hx hb hK hW 4 (by decide) rfl 0 rfl (j := k) rfl (by omega) (by decide) dX6_laysDays_192 ?_
                          refine mk_sayi (y := (st 4 k)) (by rw [show st7 4 = q2 4 from by rw [est7]; exact stC_ne (by decide), hf2 4 (by decide), hf 4 (by decide)]) ?_
                          refine mk_i2l hx hb dX6_laysDays_193 (by omega) ?_
                          refine mk_ladd hx hb dX6_laysDays_194 ?_
                          refine mk_last hx hb hK hW 13 (by decide) (fun _ => rfl) 2 rfl (j := r) rfl (by omega) (by decide) dX6_laysDays_195 (fun H locs hW => ?_)
                          obtain ⟨st8, est8⟩ : ∃ z, z = stC st7 13 (fnU (st7 13) r (wsum (lvb (st 6) (st 1) (v : Int)) (st 2) (wB (st 5) (st 4)) k (dd : Int) + (st 4 k))) := ⟨_, rfl⟩
                          rw [← est8] at hW
                          refine lv_aload_n hx hb dX6_laysDays_196 rfl (lv_at hl 2 rfl) ?_
                          refine mk_get (ci := 6) (C := RX6) (T := TX6) (N := 30) hx hb hts inX6 hown hK hW 0 (by decide) rfl rfl 16 (by decide) fl55 (fun _ h9 => h9) rfl dX6_laysDays_197 ?_
                          refine lv_aload_n hx hb dX6_laysDays_200 rfl (lv_at hl 2 rfl) ?_
                          refine mk_get (ci := 6) (C := RX6) (T := TX6) (N := 30) hx hb hts inX6 hown hK hW 0 (by decide) rfl rfl 12 (by decide) fl124 (fun _ h9 => h9) rfl dX6_laysDays_201 ?_
                          refine mk_sayi (y := (q 0 12)) (by rw [show st8 0 = st7 0 from by rw [est8]; exact stC_ne (by decide), show st7 0 = q2 0 from by rw [est7]; exact stC_ne (by decide), hf2 0 (by decide)]) ?_
                          refine mk_sayi (y := ((r : Nat) : Int)) hq12 ?_
                          refine lv_dup2_11 hx hb dX6_laysDays_204 rfl rfl ?_
                          refine mk_lald hx hb hK hW 14 (by decide) rfl 2 rfl (j := r) rfl (by omega) (by decide) dX6_laysDays_205 ?_
                          refine mk_sayl (y := wsum (lvb (st 6) (st 1) (v : Int)) (st 2) (wS (st 5) (uni (st 3) (st 2) (fun i => st 8 (4 * v + i)) (fun i => st 9 (4 * v + i)) mm)) k (dd : Int)) (by rw [show st8 14 = st7 14 from by rw [est8]; exact stC_ne (by decide), show st7 14 = q2 14 from by rw [est7]; exact stC_ne (by decide)]; exact hcur.2.2.2.2.2.1) ?_
                          refine lv_aload_n hx hb dX6_laysDays_206 rfl (lv_at hl 2 rfl) ?_
                          refine mk_get (ci := 6) (C := RX6) (T := TX6) (N := 30) hx hb hts inX6 hown hK hW 0 (by decide) rfl rfl 5 (by decide) fl22 (fun _ h9 => h9) rfl dX6_laysDays_207 ?_
                          refine lv_iload hx hb dX6_laysDays_210 (lv_at hl 5 rfl) ?_
                          refine mk_zald hx hb hK hW 5 (by decide) rfl 1 rfl (j := k) rfl (by omega) (by decide) dX6_laysDays_212 ?_
                          refine mk_sayi (y := (st 5 k)) (by rw [show st8 5 = st7 5 from by rw [est8]; exact stC_ne (by decide), show st7 5 = q2 5 from by rw [est7]; exact stC_ne (by decide), hf2 5 (by decide), hf 5 (by decide)]) ?_
                          refine mk_if_eq (tgt := 221) hx hb dX6_laysDays_213 (by decide) (by omega) (fun c_213 => ?_) (fun c_213 => ?_)
                          · skip
                            refine mk_lconst hx hb (0) rfl dX6_laysDays_221 ?_
                            refine mk_ladd hx hb dX6_laysDays_222 ?_
                            refine mk_last hx hb hK hW 14 (by decide) (fun _ => rfl) 2 rfl (j := r) rfl (by omega) (by decide) dX6_laysDays_223 (fun H locs hW => ?_)
                            obtain ⟨st9, est9⟩ : ∃ z, z = stC st8 14 (fnU (st8 14) r (wsum (lvb (st 6) (st 1) (v : Int)) (st 2) (wS (st 5) (uni (st 3) (st 2) (fun i => st 8 (4 * v + i)) (fun i => st 9 (4 * v + i)) mm)) k (dd : Int) + 0)) := ⟨_, rfl⟩
                            rw [← est9] at hW
                            refine lv_aload_n hx hb dX6_laysDays_224 rfl (lv_at hl 2 rfl) ?_
                            refine mk_get (ci := 6) (C := RX6) (T := TX6) (N := 30) hx hb hts inX6 hown hK hW 0 (by decide) rfl rfl 17 (by decide) fl58 (fun _ h9 => h9) rfl dX6_laysDays_225 ?_
                            refine lv_aload_n hx hb dX6_laysDays_228 rfl (lv_at hl 2 rfl) ?_
                            refine mk_get (ci := 6) (C := RX6) (T := TX6) (N := 30) hx hb hts inX6 hown hK hW 0 (by decide) rfl rfl 12 (by decide) fl124 (fun _ h9 => h9) rfl dX6_laysDays_229 ?_
                            refine mk_sayi (y := (q 0 12)) (by rw [show st9 0 = st8 0 from by rw [est9]; exact stC_ne (by decide), show st8 0 = st7 0 from by rw [est8]; exact stC_ne (by decide), show st7 0 = q2 0 from by rw [est7]; exact stC_ne (by decide), hf2 0 (by decide)]) ?_
                            refine mk_sayi (y := ((r : Nat) : Int)) hq12 ?_
                            refine lv_dup2_11 hx hb dX6_laysDays_232 rfl rfl ?_
                            refine mk_lald hx hb hK hW 15 (by decide) rfl 2 rfl (j := r) rfl (by omega) (by decide) dX6_laysDays_233 ?_
                            refine mk_sayl (y := wsum (lvb (st 6) (st 1) (v : Int)) (st 2) (wS (st 5) (st 4)) k (dd : Int)) (by rw [show st9 15 = st8 15 from by rw [est9]; exact stC_ne (by decide), show st8 15 = st7 15 from by rw [est8]; exact stC_ne (by decide), show st7 15 = q2 15 from by rw [est7]; exact stC_ne (by decide)]; exact hcur.2.2.2.2.2.2) ?_
                            refine lv_aload_n hx hb dX6_laysDays_234 rfl (lv_at hl 2 rfl) ?_
                            refine mk_get (ci := 6) (C := RX6) (T := TX6) (N := 30) hx hb hts inX6 hown hK hW 0 (by decide) rfl rfl 5 (by decide) fl22 (fun _ h9 => h9) rfl dX6_laysDays_235 ?_
                            refine lv_iload hx hb dX6_laysDays_238 (lv_at hl 5 rfl) ?_
                            refine mk_zald hx hb hK hW 5 (by decide) rfl 1 rfl (j := k) rfl (by omega) (by decide) dX6_laysDays_240 ?_
                            refine mk_sayi (y := (st 5 k)) (by rw [show st9 5 = st8 5 from by rw [est9]; exact stC_ne (by decide), show st8 5 = st7 5 from by rw [est8]; exact stC_ne (by decide), show st7 5 = q2 5 from by rw [est7]; exact stC_ne (by decide), hf2 5 (by decide), hf 5 (by decide)]) ?_
                            refine mk_if_eq (tgt := 255) hx hb dX6_laysDays_241 (by decide) (by omega) (fun c_241 => ?_) (fun c_241 => ?_)
                            · skip
                              refine mk_lconst hx hb (0) rfl dX6_laysDays_255 ?_
                              refine mk_ladd hx hb dX6_laysDays_256 ?_
                              refine mk_last hx hb hK hW 15 (by decide) (fun _ => rfl) 2 rfl (j := r) rfl (by omega) (by decide) dX6_laysDays_257 (fun H locs hW => ?_)
                              obtain ⟨st10, est10⟩ : ∃ z, z = stC st9 15 (fnU (st9 15) r (wsum (lvb (st 6) (st 1) (v : Int)) (st 2) (wS (st 5) (st 4)) k (dd : Int) + 0)) := ⟨_, rfl⟩
                              rw [← est10] at hW
                              refine mk_iinc (w := ((k + 1 : Nat) : Int)) (lv' := [(4, .int (iI ((k + 1 : Nat) : Int))), (5, .long (lI x)), (3, .int (iI 1)), (0, .ref (ad 0)), (1, .int (iI ((v : Nat) : Int))), (2, .int (iI ((dd : Nat) : Int)))]) hx hb dX6_laysDays_258 hl (k := 5) rfl (by omega) (by decide) rfl (fun ls hl => ?_)
                              refine lv_goto (tgt := 19) hx hb dX6_laysDays_261 (by decide) ?_
                              have y12 : st10 12 = fnU (q2 12) r (wsum (lvb (st 6) (st 1) (v : Int)) (st 2) (wB (st 5) (uni (st 3) (st 2) (fun i => st 8 (4 * v + i)) (fun i => st 9 (4 * v + i)) mm)) k (dd : Int) + x) := by rw [est10, est9, est8, est7]; rfl
                              have y13 : st10 13 = fnU (q2 13) r (wsum (lvb (st 6) (st 1) (v : Int)) (st 2) (wB (st 5) (st 4)) k (dd : Int) + (st 4 k)) := by rw [est10, est9, est8, est7]; rfl
                              have y14 : st10 14 = fnU (q2 14) r (wsum (lvb (st 6) (st 1) (v : Int)) (st 2) (wS (st 5) (uni (st 3) (st 2) (fun i => st 8 (4 * v + i)) (fun i => st 9 (4 * v + i)) mm)) k (dd : Int) + 0) := by rw [est10, est9, est8, est7]; rfl
                              have y15 : st10 15 = fnU (q2 15) r (wsum (lvb (st 6) (st 1) (v : Int)) (st 2) (wS (st 5) (st 4)) k (dd : Int) + 0) := by rw [est10, est9, est8, est7]; rfl
                              have y11 : st10 11 = q2 11 := by rw [est10, est9, est8, est7]; rfl
                              have hcur2 : r < R ∧ fD r = dd ∧ st10 11 r = dd ∧ st10 12 r = wsum (lvb (st 6) (st 1) (v : Int)) (st 2) (wB (st 5) (uni (st 3) (st 2) (fun i => st 8 (4 * v + i)) (fun i => st 9 (4 * v + i)) mm)) (k + 1) (dd : Int) ∧ st10 13 r = wsum (lvb (st 6) (st 1) (v : Int)) (st 2) (wB (st 5) (st 4)) (k + 1) (dd : Int) ∧ st10 14 r = wsum (lvb (st 6) (st 1) (v : Int)) (st 2) (wS (st 5) (uni (st 3) (st 2) (fun i => st 8 (4 * v + i)) (fun i => st 9 (4 * v + i)) mm)) (k + 1) (dd : Int) ∧ st10 15 r = wsum (lvb (st 6) (st 1) (v : Int)) (st 2) (wS (st 5) (st 4)) (k + 1) (dd : Int) := by
                                rw [y11, y12, y13, y14, y15, fnU_eq, fnU_eq, fnU_eq, fnU_eq, wsum_live hLk (by omega), wsum_live hLk (by omega), wsum_live hLk (by omega), wsum_live hLk (by omega)]
                                unfold wB wS
                                rw [if_pos c_151, if_pos c_151, if_pos c_151, if_pos c_151, hx9]
                                exact ⟨hrR.1, hrR.2, hcur.2.2.1, rfl, rfl, rfl, rfl⟩
                              have hrow2 : ∀ i, i < r → st10 11 i = fD i ∧ st10 12 i = (qB (lvb (st 6) (st 1) (v : Int)) (st 5) (st 2) (uni (st 3) (st 2) (fun i => st 8 (4 * v + i)) (fun i => st 9 (4 * v + i)) mm) n fD) i ∧ st10 13 i = (qB (lvb (st 6) (st 1) (v : Int)) (st 5) (st 2) (st 4) n fD) i ∧ st10 14 i = (qS (lvb (st 6) (st 1) (v : Int)) (st 5) (st 2) (uni (st 3) (st 2) (fun i => st 8 (4 * v + i)) (fun i => st 9 (4 * v + i)) mm) n fD) i ∧ st10 15 i = (qS (lvb (st 6) (st 1) (v : Int)) (st 5) (st 2) (st 4) n fD) i := by
                                intro i hi
                                rw [y11, y12, y13, y14, y15, fnU_ne (by omega), fnU_ne (by omega), fnU_ne (by omega), fnU_ne (by omega)]
                                exact hrow i hi
                              have hfY : Fr [11, 12, 13, 14, 15] q st10 := by rw [est10, est9, est8, est7]; exact (((hf2.st (by decide)).st (by decide)).st (by decide)).st (by decide)
                              exact ih19 st10 (k + 1) 1 (by omega) hfY (Or.inr rfl) hrow2 ⟨fun h => absurd h (by decide), fun _ => hcur2⟩ (by omega) _ _ _ hW (lv_sub hl [3, 4, 5, 2, 0] rfl)
                            · skip
                              exact absurd c_151 c_241
                          · skip
                            exact absurd c_151 c_213
                        · skip
                          exact absurd c_151 c_179
                      · skip
                        refine mk_lconst hx hb (0) rfl dX6_laysDays_154 ?_
                        refine lv_goto (tgt := 160) hx hb dX6_laysDays_155 (by decide) ?_
                        refine mk_ladd hx hb dX6_laysDays_160 ?_
                        refine mk_last hx hb hK hW 12 (by decide) (fun _ => rfl) 2 rfl (j := r) rfl (by omega) (by decide) dX6_laysDays_161 (fun H locs hW => ?_)
                        obtain ⟨st11, est11⟩ : ∃ z, z = stC q2 12 (fnU (q2 12) r (wsum (lvb (st 6) (st 1) (v : Int)) (st 2) (wB (st 5) (uni (st 3) (st 2) (fun i => st 8 (4 * v + i)) (fun i => st 9 (4 * v + i)) mm)) k (dd : Int) + 0)) := ⟨_, rfl⟩
                        rw [← est11] at hW
                        refine lv_aload_n hx hb dX6_laysDays_162 rfl (lv_at hl 2 rfl) ?_
                        refine mk_get (ci := 6) (C := RX6) (T := TX6) (N := 30) hx hb hts inX6 hown hK hW 0 (by decide) rfl rfl 15 (by decide) fl52 (fun _ h9 => h9) rfl dX6_laysDays_163 ?_
                        refine lv_aload_n hx hb dX6_laysDays_166 rfl (lv_at hl 2 rfl) ?_
                        refine mk_get (ci := 6) (C := RX6) (T := TX6) (N := 30) hx hb hts inX6 hown hK hW 0 (by decide) rfl rfl 12 (by decide) fl124 (fun _ h9 => h9) rfl dX6_laysDays_167 ?_
                        refine mk_sayi (y := (q 0 12)) (by rw [show st11 0 = q2 0 from by rw [est11]; exact stC_ne (by decide), hf2 0 (by decide)]) ?_
                        refine mk_sayi (y := ((r : Nat) : Int)) hq12 ?_
                        refine lv_dup2_11 hx hb dX6_laysDays_170 rfl rfl ?_
                        refine mk_lald hx hb hK hW 13 (by decide) rfl 2 rfl (j := r) rfl (by omega) (by decide) dX6_laysDays_171 ?_
                        refine mk_sayl (y := wsum (lvb (st 6) (st 1) (v : Int)) (st 2) (wB (st 5) (st 4)) k (dd : Int)) (by rw [show st11 13 = q2 13 from by rw [est11]; exact stC_ne (by decide)]; exact hcur.2.2.2.2.1) ?_
                        refine lv_aload_n hx hb dX6_laysDays_172 rfl (lv_at hl 2 rfl) ?_
                        refine mk_get (ci := 6) (C := RX6) (T := TX6) (N := 30) hx hb hts inX6 hown hK hW 0 (by decide) rfl rfl 5 (by decide) fl22 (fun _ h9 => h9) rfl dX6_laysDays_173 ?_
                        refine lv_iload hx hb dX6_laysDays_176 (lv_at hl 5 rfl) ?_
                        refine mk_zald hx hb hK hW 5 (by decide) rfl 1 rfl (j := k) rfl (by omega) (by decide) dX6_laysDays_178 ?_
                        refine mk_sayi (y := (st 5 k)) (by rw [show st11 5 = q2 5 from by rw [est11]; exact stC_ne (by decide), hf2 5 (by decide), hf 5 (by decide)]) ?_
                        refine mk_if_eq (tgt := 186) hx hb dX6_laysDays_179 (by decide) (by omega) (fun c_179 => ?_) (fun c_179 => ?_)
                        · skip
                          exact absurd c_179 c_151
                        · skip
                          refine mk_lconst hx hb (0) rfl dX6_laysDays_182 ?_
                          refine lv_goto (tgt := 194) hx hb dX6_laysDays_183 (by decide) ?_
                          refine mk_ladd hx hb dX6_laysDays_194 ?_
                          refine mk_last hx hb hK hW 13 (by decide) (fun _ => rfl) 2 rfl (j := r) rfl (by omega) (by decide) dX6_laysDays_195 (fun H locs hW => ?_)
                          obtain ⟨st12, est12⟩ : ∃ z, z = stC st11 13 (fnU (st11 13) r (wsum (lvb (st 6) (st 1) (v : Int)) (st 2) (wB (st 5) (st 4)) k (dd : Int) + 0)) := ⟨_, rfl⟩
                          rw [← est12] at hW
                          refine lv_aload_n hx hb dX6_laysDays_196 rfl (lv_at hl 2 rfl) ?_
                          refine mk_get (ci := 6) (C := RX6) (T := TX6) (N := 30) hx hb hts inX6 hown hK hW 0 (by decide) rfl rfl 16 (by decide) fl55 (fun _ h9 => h9) rfl dX6_laysDays_197 ?_
                          refine lv_aload_n hx hb dX6_laysDays_200 rfl (lv_at hl 2 rfl) ?_
                          refine mk_get (ci := 6) (C := RX6) (T := TX6) (N := 30) hx hb hts inX6 hown hK hW 0 (by decide) rfl rfl 12 (by decide) fl124 (fun _ h9 => h9) rfl dX6_laysDays_201 ?_
                          refine mk_sayi (y := (q 0 12)) (by rw [show st12 0 = st11 0 from by rw [est12]; exact stC_ne (by decide), show st11 0 = q2 0 from by rw [est11]; exact stC_ne (by decide), hf2 0 (by decide)]) ?_
                          refine mk_sayi (y := ((r : Nat) : Int)) hq12 ?_
                          refine lv_dup2_11 hx hb dX6_laysDays_204 rfl rfl ?_
                          refine mk_lald hx hb hK hW 14 (by decide) rfl 2 rfl (j := r) rfl (by omega) (by decide) dX6_laysDays_205 ?_
                          refine mk_sayl (y := wsum (lvb (st 6) (st 1) (v : Int)) (st 2) (wS (st 5) (uni (st 3) (st 2) (fun i => st 8 (4 * v + i)) (fun i => st 9 (4 * v + i)) mm)) k (dd : Int)) (by rw [show st12 14 = st11 14 from by rw [est12]; exact stC_ne (by decide), show st11 14 = q2 14 from by rw [est11]; exact stC_ne (by decide)]; exact hcur.2.2.2.2.2.1) ?_
                          refine lv_aload_n hx hb dX6_laysDays_206 rfl (lv_at hl 2 rfl) ?_
                          refine mk_get (ci := 6) (C := RX6) (T := TX6) (N := 30) hx hb hts inX6 hown hK hW 0 (by decide) rfl rfl 5 (by decide) fl22 (fun _ h9 => h9) rfl dX6_laysDays_207 ?_
                          refine lv_iload hx hb dX6_laysDays_210 (lv_at hl 5 rfl) ?_
                          refine mk_zald hx hb hK hW 5 (by decide) rfl 1 rfl (j := k) rfl (by omega) (by decide) dX6_laysDays_212 ?_
                          refine mk_sayi (y := (st 5 k)) (by rw [show st12 5 = st11 5 from by rw [est12]; exact stC_ne (by decide), show st11 5 = q2 5 from by rw [est11]; exact stC_ne (by decide), hf2 5 (by decide), hf 5 (by decide)]) ?_
                          refine mk_if_eq (tgt := 221) hx hb dX6_laysDays_213 (by decide) (by omega) (fun c_213 => ?_) (fun c_213 => ?_)
                          · skip
                            exact absurd c_213 c_151
                          · skip
                            refine lv_lload hx hb dX6_laysDays_216 (lv_at hl 0 rfl) ?_
                            refine lv_goto (tgt := 222) hx hb dX6_laysDays_218 (by decide) ?_
                            refine mk_ladd hx hb dX6_laysDays_222 ?_
                            refine mk_last hx hb hK hW 14 (by decide) (fun _ => rfl) 2 rfl (j := r) rfl (by omega) (by decide) dX6_laysDays_223 (fun H locs hW => ?_)
                            obtain ⟨st13, est13⟩ : ∃ z, z = stC st12 14 (fnU (st12 14) r (wsum (lvb (st 6) (st 1) (v : Int)) (st 2) (wS (st 5) (uni (st 3) (st 2) (fun i => st 8 (4 * v + i)) (fun i => st 9 (4 * v + i)) mm)) k (dd : Int) + x)) := ⟨_, rfl⟩
                            rw [← est13] at hW
                            refine lv_aload_n hx hb dX6_laysDays_224 rfl (lv_at hl 2 rfl) ?_
                            refine mk_get (ci := 6) (C := RX6) (T := TX6) (N := 30) hx hb hts inX6 hown hK hW 0 (by decide) rfl rfl 17 (by decide) fl58 (fun _ h9 => h9) rfl dX6_laysDays_225 ?_
                            refine lv_aload_n hx hb dX6_laysDays_228 rfl (lv_at hl 2 rfl) ?_
                            refine mk_get (ci := 6) (C := RX6) (T := TX6) (N := 30) hx hb hts inX6 hown hK hW 0 (by decide) rfl rfl 12 (by decide) fl124 (fun _ h9 => h9) rfl dX6_laysDays_229 ?_
                            refine mk_sayi (y := (q 0 12)) (by rw [show st13 0 = st12 0 from by rw [est13]; exact stC_ne (by decide), show st12 0 = st11 0 from by rw [est12]; exact stC_ne (by decide), show st11 0 = q2 0 from by rw [est11]; exact stC_ne (by decide), hf2 0 (by decide)]) ?_
                            refine mk_sayi (y := ((r : Nat) : Int)) hq12 ?_
                            refine lv_dup2_11 hx hb dX6_laysDays_232 rfl rfl ?_
                            refine mk_lald hx hb hK hW 15 (by decide) rfl 2 rfl (j := r) rfl (by omega) (by decide) dX6_laysDays_233 ?_
                            refine mk_sayl (y := wsum (lvb (st 6) (st 1) (v : Int)) (st 2) (wS (st 5) (st 4)) k (dd : Int)) (by rw [show st13 15 = st12 15 from by rw [est13]; exact stC_ne (by decide), show st12 15 = st11 15 from by rw [est12]; exact stC_ne (by decide), show st11 15 = q2 15 from by rw [est11]; exact stC_ne (by decide)]; exact hcur.2.2.2.2.2.2) ?_
                            refine lv_aload_n hx hb dX6_laysDays_234 rfl (lv_at hl 2 rfl) ?_
                            refine mk_get (ci := 6) (C := RX6) (T := TX6) (N := 30) hx hb hts inX6 hown hK hW 0 (by decide) rfl rfl 5 (by decide) fl22 (fun _ h9 => h9) rfl dX6_laysDays_235 ?_
                            refine lv_iload hx hb dX6_laysDays_238 (lv_at hl 5 rfl) ?_
                            refine mk_zald hx hb hK hW 5 (by decide) rfl 1 rfl (j := k) rfl (by omega) (by decide) dX6_laysDays_240 ?_
                            refine mk_sayi (y := (st 5 k)) (by rw [show st13 5 = st12 5 from by rw [est13]; exact stC_ne (by decide), show st12 5 = st11 5 from by rw [est12]; exact stC_ne (by decide), show st11 5 = q2 5 from by rw [est11]; exact stC_ne (by decide), hf2 5 (by decide), hf 5 (by decide)]) ?_
                            refine mk_if_eq (tgt := 255) hx hb dX6_laysDays_241 (by decide) (by omega) (fun c_241 => ?_) (fun c_241 => ?_)
                            · skip
                              exact absurd c_241 c_151
                            · skip
                              refine lv_aload_n hx hb dX6_laysDays_244 rfl (lv_at hl 2 rfl) ?_
                              refine mk_get (ci := 6) (C := RX6) (T := TX6) (N := 30) hx hb hts inX6 hown hK hW 0 (by decide) rfl rfl 4 (by decide) fl19 (fun _ h9 => h9) rfl dX6_laysDays_245 ?_
                              refine lv_iload hx hb dX6_laysDays_248 (lv_at hl 5 rfl) ?_
                              refine mk_iald hx hb hK hW 4 (by decide) rfl 0 rfl (j := k) rfl (by omega) (by decide) dX6_laysDays_250 ?_
                              refine mk_sayi (y := (st 4 k)) (by rw [show st13 4 = st12 4 from by rw [est13]; exact stC_ne (by decide), show st12 4 = st11 4 from by rw [est12]; exact stC_ne (by decide), show st11 4 = q2 4 from by rw [est11]; exact stC_ne (by decide), hf2 4 (by decide), hf 4 (by decide)]) ?_
                              refine mk_i2l hx hb dX6_laysDays_251 (by omega) ?_
                              refine lv_goto (tgt := 256) hx hb dX6_laysDays_252 (by decide) ?_
                              refine mk_ladd hx hb dX6_laysDays_256 ?_
                              refine mk_last hx hb hK hW 15 (by decide) (fun _ => rfl) 2 rfl (j := r) rfl (by omega) (by decide) dX6_laysDays_257 (fun H locs hW => ?_)
                              obtain ⟨st14, est14⟩ : ∃ z, z = stC st13 15 (fnU (st13 15) r (wsum (lvb (st 6) (st 1) (v : Int)) (st 2) (wS (st 5) (st 4)) k (dd : Int) + (st 4 k))) := ⟨_, rfl⟩
                              rw [← est14] at hW
                              refine mk_iinc (w := ((k + 1 : Nat) : Int)) (lv' := [(4, .int (iI ((k + 1 : Nat) : Int))), (5, .long (lI x)), (3, .int (iI 1)), (0, .ref (ad 0)), (1, .int (iI ((v : Nat) : Int))), (2, .int (iI ((dd : Nat) : Int)))]) hx hb dX6_laysDays_258 hl (k := 5) rfl (by omega) (by decide) rfl (fun ls hl => ?_)
                              refine lv_goto (tgt := 19) hx hb dX6_laysDays_261 (by decide) ?_
                              have y12 : st14 12 = fnU (q2 12) r (wsum (lvb (st 6) (st 1) (v : Int)) (st 2) (wB (st 5) (uni (st 3) (st 2) (fun i => st 8 (4 * v + i)) (fun i => st 9 (4 * v + i)) mm)) k (dd : Int) + 0) := by rw [est14, est13, est12, est11]; rfl
                              have y13 : st14 13 = fnU (q2 13) r (wsum (lvb (st 6) (st 1) (v : Int)) (st 2) (wB (st 5) (st 4)) k (dd : Int) + 0) := by rw [est14, est13, est12, est11]; rfl
                              have y14 : st14 14 = fnU (q2 14) r (wsum (lvb (st 6) (st 1) (v : Int)) (st 2) (wS (st 5) (uni (st 3) (st 2) (fun i => st 8 (4 * v + i)) (fun i => st 9 (4 * v + i)) mm)) k (dd : Int) + x) := by rw [est14, est13, est12, est11]; rfl
                              have y15 : st14 15 = fnU (q2 15) r (wsum (lvb (st 6) (st 1) (v : Int)) (st 2) (wS (st 5) (st 4)) k (dd : Int) + (st 4 k)) := by rw [est14, est13, est12, est11]; rfl
                              have y11 : st14 11 = q2 11 := by rw [est14, est13, est12, est11]; rfl
                              have hcur2 : r < R ∧ fD r = dd ∧ st14 11 r = dd ∧ st14 12 r = wsum (lvb (st 6) (st 1) (v : Int)) (st 2) (wB (st 5) (uni (st 3) (st 2) (fun i => st 8 (4 * v + i)) (fun i => st 9 (4 * v + i)) mm)) (k + 1) (dd : Int) ∧ st14 13 r = wsum (lvb (st 6) (st 1) (v : Int)) (st 2) (wB (st 5) (st 4)) (k + 1) (dd : Int) ∧ st14 14 r = wsum (lvb (st 6) (st 1) (v : Int)) (st 2) (wS (st 5) (uni (st 3) (st 2) (fun i => st 8 (4 * v + i)) (fun i => st 9 (4 * v + i)) mm)) (k + 1) (dd : Int) ∧ st14 15 r = wsum (lvb (st 6) (st 1) (v : Int)) (st 2) (wS (st 5) (st 4)) (k + 1) (dd : Int) := by
                                rw [y11, y12, y13, y14, y15, fnU_eq, fnU_eq, fnU_eq, fnU_eq, wsum_live hLk (by omega), wsum_live hLk (by omega), wsum_live hLk (by omega), wsum_live hLk (by omega)]
                                unfold wB wS
                                rw [if_neg c_151, if_neg c_151, if_neg c_151, if_neg c_151, hx9]
                                exact ⟨hrR.1, hrR.2, hcur.2.2.1, rfl, rfl, rfl, rfl⟩
                              have hrow2 : ∀ i, i < r → st14 11 i = fD i ∧ st14 12 i = (qB (lvb (st 6) (st 1) (v : Int)) (st 5) (st 2) (uni (st 3) (st 2) (fun i => st 8 (4 * v + i)) (fun i => st 9 (4 * v + i)) mm) n fD) i ∧ st14 13 i = (qB (lvb (st 6) (st 1) (v : Int)) (st 5) (st 2) (st 4) n fD) i ∧ st14 14 i = (qS (lvb (st 6) (st 1) (v : Int)) (st 5) (st 2) (uni (st 3) (st 2) (fun i => st 8 (4 * v + i)) (fun i => st 9 (4 * v + i)) mm) n fD) i ∧ st14 15 i = (qS (lvb (st 6) (st 1) (v : Int)) (st 5) (st 2) (st 4) n fD) i := by
                                intro i hi
                                rw [y11, y12, y13, y14, y15, fnU_ne (by omega), fnU_ne (by omega), fnU_ne (by omega), fnU_ne (by omega)]
                                exact hrow i hi
                              have hfY : Fr [11, 12, 13, 14, 15] q st14 := by rw [est14, est13, est12, est11]; exact (((hf2.st (by decide)).st (by decide)).st (by decide)).st (by decide)
                              exact ih19 st14 (k + 1) 1 (by omega) hfY (Or.inr rfl) hrow2 ⟨fun h => absurd h (by decide), fun _ => hcur2⟩ (by omega) _ _ _ hW (lv_sub hl [3, 4, 5, 2, 0] rfl)
                    · skip
                      refine lv_aload_n hx hb dX6_laysDays_64 rfl (lv_at hl 0 rfl) ?_
                      refine mk_get (ci := 6) (C := RX6) (T := TX6) (N := 30) hx hb hts inX6 hown hK hW 0 (by decide) rfl rfl 13 (by decide) fl45 (fun _ h9 => h9) rfl dX6_laysDays_65 ?_
                      refine lv_aload_n hx hb dX6_laysDays_68 rfl (lv_at hl 0 rfl) ?_
                      refine mk_get (ci := 6) (C := RX6) (T := TX6) (N := 30) hx hb hts inX6 hown hK hW 0 (by decide) rfl rfl 12 (by decide) fl124 (fun _ h9 => h9) rfl dX6_laysDays_69 ?_
                      refine mk_sayi (y := (q 0 12)) (by rw [hf2 0 (by decide)]) ?_
                      refine mk_sayi (y := ((r : Nat) : Int)) hq12 ?_
                      refine lv_iload_n hx hb dX6_laysDays_72 rfl (lv_at hl 2 rfl) ?_
                      refine mk_iast hx hb hK hW 11 (by decide) (fun _ => rfl) 0 rfl (j := r) rfl (by omega) (by decide) dX6_laysDays_73 (fun H locs hW => ?_)
                      obtain ⟨st15, est15⟩ : ∃ z, z = stC q2 11 (fnU (q2 11) r ((dd : Nat) : Int)) := ⟨_, rfl⟩
                      rw [← est15] at hW
                      refine lv_aload_n hx hb dX6_laysDays_74 rfl (lv_at hl 0 rfl) ?_
                      refine mk_get (ci := 6) (C := RX6) (T := TX6) (N := 30) hx hb hts inX6 hown hK hW 0 (by decide) rfl rfl 14 (by decide) fl48 (fun _ h9 => h9) rfl dX6_laysDays_75 ?_
                      refine lv_aload_n hx hb dX6_laysDays_78 rfl (lv_at hl 0 rfl) ?_
                      refine mk_get (ci := 6) (C := RX6) (T := TX6) (N := 30) hx hb hts inX6 hown hK hW 0 (by decide) rfl rfl 12 (by decide) fl124 (fun _ h9 => h9) rfl dX6_laysDays_79 ?_
                      refine mk_sayi (y := (q 0 12)) (by rw [show st15 0 = q2 0 from by rw [est15]; exact stC_ne (by decide), hf2 0 (by decide)]) ?_
                      refine mk_sayi (y := ((r : Nat) : Int)) hq12 ?_
                      refine mk_lconst hx hb (0) rfl dX6_laysDays_82 ?_
                      refine mk_last hx hb hK hW 12 (by decide) (fun _ => rfl) 2 rfl (j := r) rfl (by omega) (by decide) dX6_laysDays_83 (fun H locs hW => ?_)
                      obtain ⟨st16, est16⟩ : ∃ z, z = stC st15 12 (fnU (st15 12) r 0) := ⟨_, rfl⟩
                      rw [← est16] at hW
                      refine lv_aload_n hx hb dX6_laysDays_84 rfl (lv_at hl 0 rfl) ?_
                      refine mk_get (ci := 6) (C := RX6) (T := TX6) (N := 30) hx hb hts inX6 hown hK hW 0 (by decide) rfl rfl 15 (by decide) fl52 (fun _ h9 => h9) rfl dX6_laysDays_85 ?_
                      refine lv_aload_n hx hb dX6_laysDays_88 rfl (lv_at hl 0 rfl) ?_
                      refine mk_get (ci := 6) (C := RX6) (T := TX6) (N := 30) hx hb hts inX6 hown hK hW 0 (by decide) rfl rfl 12 (by decide) fl124 (fun _ h9 => h9) rfl dX6_laysDays_89 ?_
                      refine mk_sayi (y := (q 0 12)) (by rw [show st16 0 = st15 0 from by rw [est16]; exact stC_ne (by decide), show st15 0 = q2 0 from by rw [est15]; exact stC_ne (by decide), hf2 0 (by decide)]) ?_
                      refine mk_sayi (y := ((r : Nat) : Int)) hq12 ?_
                      refine mk_lconst hx hb (0) rfl dX6_laysDays_92 ?_
                      refine mk_last hx hb hK hW 13 (by decide) (fun _ => rfl) 2 rfl (j := r) rfl (by omega) (by decide) dX6_laysDays_93 (fun H locs hW => ?_)
                      obtain ⟨st17, est17⟩ : ∃ z, z = stC st16 13 (fnU (st16 13) r 0) := ⟨_, rfl⟩
                      rw [← est17] at hW
                      refine lv_aload_n hx hb dX6_laysDays_94 rfl (lv_at hl 0 rfl) ?_
                      refine mk_get (ci := 6) (C := RX6) (T := TX6) (N := 30) hx hb hts inX6 hown hK hW 0 (by decide) rfl rfl 16 (by decide) fl55 (fun _ h9 => h9) rfl dX6_laysDays_95 ?_
                      refine lv_aload_n hx hb dX6_laysDays_98 rfl (lv_at hl 0 rfl) ?_
                      refine mk_get (ci := 6) (C := RX6) (T := TX6) (N := 30) hx hb hts inX6 hown hK hW 0 (by decide) rfl rfl 12 (by decide) fl124 (fun _ h9 => h9) rfl dX6_laysDays_99 ?_
                      refine mk_sayi (y := (q 0 12)) (by rw [show st17 0 = st16 0 from by rw [est17]; exact stC_ne (by decide), show st16 0 = st15 0 from by rw [est16]; exact stC_ne (by decide), show st15 0 = q2 0 from by rw [est15]; exact stC_ne (by decide), hf2 0 (by decide)]) ?_
                      refine mk_sayi (y := ((r : Nat) : Int)) hq12 ?_
                      refine mk_lconst hx hb (0) rfl dX6_laysDays_102 ?_
                      refine mk_last hx hb hK hW 14 (by decide) (fun _ => rfl) 2 rfl (j := r) rfl (by omega) (by decide) dX6_laysDays_103 (fun H locs hW => ?_)
                      obtain ⟨st18, est18⟩ : ∃ z, z = stC st17 14 (fnU (st17 14) r 0) := ⟨_, rfl⟩
                      rw [← est18] at hW
                      refine lv_aload_n hx hb dX6_laysDays_104 rfl (lv_at hl 0 rfl) ?_
                      refine mk_get (ci := 6) (C := RX6) (T := TX6) (N := 30) hx hb hts inX6 hown hK hW 0 (by decide) rfl rfl 17 (by decide) fl58 (fun _ h9 => h9) rfl dX6_laysDays_105 ?_
                      refine lv_aload_n hx hb dX6_laysDays_108 rfl (lv_at hl 0 rfl) ?_
                      refine mk_get (ci := 6) (C := RX6) (T := TX6) (N := 30) hx hb hts inX6 hown hK hW 0 (by decide) rfl rfl 12 (by decide) fl124 (fun _ h9 => h9) rfl dX6_laysDays_109 ?_
                      refine mk_sayi (y := (q 0 12)) (by rw [show st18 0 = st17 0 from by rw [est18]; exact stC_ne (by decide), show st17 0 = st16 0 from by rw [est17]; exact stC_ne (by decide), show st16 0 = st15 0 from by rw [est16]; exact stC_ne (by decide), show st15 0 = q2 0 from by rw [est15]; exact stC_ne (by decide), hf2 0 (by decide)]) ?_
                      refine mk_sayi (y := ((r : Nat) : Int)) hq12 ?_
                      refine mk_lconst hx hb (0) rfl dX6_laysDays_112 ?_
                      refine mk_last hx hb hK hW 15 (by decide) (fun _ => rfl) 2 rfl (j := r) rfl (by omega) (by decide) dX6_laysDays_113 (fun H locs hW => ?_)
                      obtain ⟨st19, est19⟩ : ∃ z, z = stC st18 15 (fnU (st18 15) r 0) := ⟨_, rfl⟩
                      rw [← est19] at hW
                      have x11 : st19 11 = fnU (q2 11) r dd := by rw [est19, est18, est17, est16, est15]; rfl
                      have x12 : st19 12 = fnU (q2 12) r 0 := by rw [est19, est18, est17, est16, est15]; rfl
                      have x13 : st19 13 = fnU (q2 13) r 0 := by rw [est19, est18, est17, est16, est15]; rfl
                      have x14 : st19 14 = fnU (q2 14) r 0 := by rw [est19, est18, est17, est16, est15]; rfl
                      have x15 : st19 15 = fnU (q2 15) r 0 := by rw [est19, est18, est17, est16, est15]; rfl
                      have hno := hin.1 (by omega)
                      have hcur : r < R ∧ fD r = dd ∧ st19 11 r = dd ∧ st19 12 r = wsum (lvb (st 6) (st 1) (v : Int)) (st 2) (wB (st 5) (uni (st 3) (st 2) (fun i => st 8 (4 * v + i)) (fun i => st 9 (4 * v + i)) mm)) k (dd : Int) ∧ st19 13 r = wsum (lvb (st 6) (st 1) (v : Int)) (st 2) (wB (st 5) (st 4)) k (dd : Int) ∧ st19 14 r = wsum (lvb (st 6) (st 1) (v : Int)) (st 2) (wS (st 5) (uni (st 3) (st 2) (fun i => st 8 (4 * v + i)) (fun i => st 9 (4 * v + i)) mm)) k (dd : Int) ∧ st19 15 r = wsum (lvb (st 6) (st 1) (v : Int)) (st 2) (wS (st 5) (st 4)) k (dd : Int) := by
                        rw [x11, x12, x13, x14, x15, fnU_eq, fnU_eq, fnU_eq, fnU_eq, fnU_eq, wsum_none hno, wsum_none hno, wsum_none hno, wsum_none hno]
                        exact ⟨hrR.1, hrR.2, rfl, rfl, rfl, rfl, rfl⟩
                      have hrow : ∀ i, i < r → st19 11 i = fD i ∧ st19 12 i = (qB (lvb (st 6) (st 1) (v : Int)) (st 5) (st 2) (uni (st 3) (st 2) (fun i => st 8 (4 * v + i)) (fun i => st 9 (4 * v + i)) mm) n fD) i ∧ st19 13 i = (qB (lvb (st 6) (st 1) (v : Int)) (st 5) (st 2) (st 4) n fD) i ∧ st19 14 i = (qS (lvb (st 6) (st 1) (v : Int)) (st 5) (st 2) (uni (st 3) (st 2) (fun i => st 8 (4 * v + i)) (fun i => st 9 (4 * v + i)) mm) n fD) i ∧ st19 15 i = (qS (lvb (st 6) (st 1) (v : Int)) (st 5) (st 2) (st 4) n fD) i := by
                        intro i hi
                        rw [x11, x12, x13, x14, x15, fnU_ne (by omega), fnU_ne (by omega), fnU_ne (by omega), fnU_ne (by omega), fnU_ne (by omega)]
                        exact hrw i hi
                      have hfx0 : Fr [11, 12, 13, 14, 15] q st19 := by rw [est19, est18, est17, est16, est15]; exact ((((hf2.st (by decide)).st (by decide)).st (by decide)).st (by decide)).st (by decide)
                      refine mk_iconst hx hb (1) dX6_laysDays_114 ?_
                      refine lv_istore_n (lv' := [(3, .int (iI 1)), (0, .ref (ad 0)), (1, .int (iI ((v : Nat) : Int))), (2, .int (iI ((dd : Nat) : Int))), (4, .int (iI ((k : Nat) : Int)))]) hx hb dX6_laysDays_115 rfl hl (by decide) rfl (fun ls hl => ?_)
                      refine lv_aload_n hx hb dX6_laysDays_116 rfl (lv_at hl 1 rfl) ?_
                      refine mk_get (ci := 6) (C := RX6) (T := TX6) (N := 30) hx hb hts inX6 hown hK hW 0 (by decide) rfl rfl 3 (by decide) fl16 (fun _ h9 => h9) rfl dX6_laysDays_117 ?_
                      refine lv_iload hx hb dX6_laysDays_120 (lv_at hl 4 rfl) ?_
                      refine mk_iald hx hb hK hW 3 (by decide) rfl 0 rfl (j := k) rfl (by omega) (by decide) dX6_laysDays_122 ?_
                      refine mk_sayi (y := (st 3 k)) (by rw [show st19 3 = st18 3 from by rw [est19]; exact stC_ne (by decide), show st18 3 = st17 3 from by rw [est18]; exact stC_ne (by decide), show st17 3 = st16 3 from by rw [est17]; exact stC_ne (by decide), show st16 3 = st15 3 from by rw [est16]; exact stC_ne (by decide), show st15 3 = q2 3 from by rw [est15]; exact stC_ne (by decide), hf2 3 (by decide), hf 3 (by decide)]) ?_
                      refine mk_i2l hx hb dX6_laysDays_123 (by omega) ?_
                      refine lv_aload_n hx hb dX6_laysDays_124 rfl (lv_at hl 1 rfl) ?_
                      refine lv_iload_n hx hb dX6_laysDays_125 rfl (lv_at hl 2 rfl) ?_
                      refine lv_iload_n hx hb dX6_laysDays_126 rfl (lv_at hl 3 rfl) ?_
                      refine mk_goI (va_runV (As := [.int (iI ((v : Nat) : Int)), .int (iI ((dd : Nat) : Int))]) (rest := [.long (lI (st 3 k))]) ⟨hx, hb, hml, hown, hts⟩ (c_X6_later l cg D ad st19 v mm (dd : Int) hv (by rw [show st19 7 = st18 7 from by rw [est19]; exact stC_ne (by decide), show st18 7 = st17 7 from by rw [est18]; exact stC_ne (by decide), show st17 7 = st16 7 from by rw [est17]; exact stC_ne (by decide), show st16 7 = st15 7 from by rw [est16]; exact stC_ne (by decide), show st15 7 = q2 7 from by rw [est15]; exact stC_ne (by decide), hf2 7 (by decide), hf 7 (by decide)]; exact hm) (by rw [show st19 8 = st18 8 from by rw [est19]; exact stC_ne (by decide), show st18 8 = st17 8 from by rw [est18]; exact stC_ne (by decide), show st17 8 = st16 8 from by rw [est17]; exact stC_ne (by decide), show st16 8 = st15 8 from by rw [est16]; exact stC_ne (by decide), show st15 8 = q2 8 from by rw [est15]; exact stC_ne (by decide), hf2 8 (by decide), hf 8 (by decide), show st19 9 = st18 9 from by rw [est19]; exact stC_ne (by decide), show st18 9 = st17 9 from by rw [est18]; exact stC_ne (by decide), show st17 9 = st16 9 from by rw [est17]; exact stC_ne (by decide), show st16 9 = st15 9 from by rw [est16]; exact stC_ne (by decide), show st15 9 = q2 9 from by rw [est15]; exact stC_ne (by decide), hf2 9 (by decide), hf 9 (by decide)]; exact hS) (by omega)) (cwV 2 hts gX6_laysDays_X6_later rfl rfl rfl (by decide +kernel) ⟨Nat.le_of_ble_eq_true rfl, Nat.le_of_ble_eq_true rfl⟩) (mk_preV hK hN hW 0 (by decide) rfl rfl rfl) rfl rfl hl.1 rfl (lv_room (Nat.le_of_ble_eq_true rfl)) dX6_laysDays_127 ⟨Nat.zero_le _, Nat.zero_le _⟩) hW (fun z st20 hp127 H locs hW => ?_)
                      obtain ⟨est20, hz⟩ := hp127
                      rw [est20] at hW
                      rw [show st19 8 = st18 8 from by rw [est19]; exact stC_ne (by decide), show st18 8 = st17 8 from by rw [est18]; exact stC_ne (by decide), show st17 8 = st16 8 from by rw [est17]; exact stC_ne (by decide), show st16 8 = st15 8 from by rw [est16]; exact stC_ne (by decide), show st15 8 = q2 8 from by rw [est15]; exact stC_ne (by decide), hf2 8 (by decide), hf 8 (by decide), show st19 9 = st18 9 from by rw [est19]; exact stC_ne (by decide), show st18 9 = st17 9 from by rw [est18]; exact stC_ne (by decide), show st17 9 = st16 9 from by rw [est17]; exact stC_ne (by decide), show st16 9 = st15 9 from by rw [est16]; exact stC_ne (by decide), show st15 9 = q2 9 from by rw [est15]; exact stC_ne (by decide), hf2 9 (by decide), hf 9 (by decide)] at hz
                      have hfb := fla_bd hS (dd : Int)
                      refine mk_i2l hx hb dX6_laysDays_130 (by omega) ?_
                      refine mk_lmul hx hb dX6_laysDays_131 ?_
                      refine mk_topl (fun x e_x => ?_)
                      refine lv_lstore (lv' := [(5, .long (lI x)), (3, .int (iI 1)), (0, .ref (ad 0)), (1, .int (iI ((v : Nat) : Int))), (2, .int (iI ((dd : Nat) : Int))), (4, .int (iI ((k : Nat) : Int)))]) hx hb dX6_laysDays_132 hl (by decide) rfl (fun ls hl => ?_)
                      have hx9 : x = (uni (st 3) (st 2) (fun i => st 8 (4 * v + i)) (fun i => st 9 (4 * v + i)) mm) k := by
                        rw [e_x, hz]
                        show _ = st 3 k * fla (fun i => st 8 (4 * v + i)) (fun i => st 9 (4 * v + i)) mm (st 2 k)
                        rw [show st 2 k = (dd : Int) by omega]
                      refine lv_aload_n hx hb dX6_laysDays_134 rfl (lv_at hl 2 rfl) ?_
                      refine mk_get (ci := 6) (C := RX6) (T := TX6) (N := 30) hx hb hts inX6 hown hK hW 0 (by decide) rfl rfl 14 (by decide) fl48 (fun _ h9 => h9) rfl dX6_laysDays_135 ?_
                      refine lv_aload_n hx hb dX6_laysDays_138 rfl (lv_at hl 2 rfl) ?_
                      refine mk_get (ci := 6) (C := RX6) (T := TX6) (N := 30) hx hb hts inX6 hown hK hW 0 (by decide) rfl rfl 12 (by decide) fl124 (fun _ h9 => h9) rfl dX6_laysDays_139 ?_
                      refine mk_sayi (y := (q 0 12)) (by rw [show st19 0 = st18 0 from by rw [est19]; exact stC_ne (by decide), show st18 0 = st17 0 from by rw [est18]; exact stC_ne (by decide), show st17 0 = st16 0 from by rw [est17]; exact stC_ne (by decide), show st16 0 = st15 0 from by rw [est16]; exact stC_ne (by decide), show st15 0 = q2 0 from by rw [est15]; exact stC_ne (by decide), hf2 0 (by decide)]) ?_
                      refine mk_sayi (y := ((r : Nat) : Int)) hq12 ?_
                      refine lv_dup2_11 hx hb dX6_laysDays_142 rfl rfl ?_
                      refine mk_lald hx hb hK hW 12 (by decide) rfl 2 rfl (j := r) rfl (by omega) (by decide) dX6_laysDays_143 ?_
                      refine mk_sayl (y := wsum (lvb (st 6) (st 1) (v : Int)) (st 2) (wB (st 5) (uni (st 3) (st 2) (fun i => st 8 (4 * v + i)) (fun i => st 9 (4 * v + i)) mm)) k (dd : Int)) hcur.2.2.2.1 ?_
                      refine lv_aload_n hx hb dX6_laysDays_144 rfl (lv_at hl 2 rfl) ?_
                      refine mk_get (ci := 6) (C := RX6) (T := TX6) (N := 30) hx hb hts inX6 hown hK hW 0 (by decide) rfl rfl 5 (by decide) fl22 (fun _ h9 => h9) rfl dX6_laysDays_145 ?_
                      refine lv_iload hx hb dX6_laysDays_148 (lv_at hl 5 rfl) ?_
                      refine mk_zald hx hb hK hW 5 (by decide) rfl 1 rfl (j := k) rfl (by omega) (by decide) dX6_laysDays_150 ?_
                      refine mk_sayi (y := (st 5 k)) (by rw [show st19 5 = st18 5 from by rw [est19]; exact stC_ne (by decide), show st18 5 = st17 5 from by rw [est18]; exact stC_ne (by decide), show st17 5 = st16 5 from by rw [est17]; exact stC_ne (by decide), show st16 5 = st15 5 from by rw [est16]; exact stC_ne (by decide), show st15 5 = q2 5 from by rw [est15]; exact stC_ne (by decide), hf2 5 (by decide), hf 5 (by decide)]) ?_
                      refine mk_if_eq (tgt := 158) hx hb dX6_laysDays_151 (by decide) (by omega) (fun c_151 => ?_) (fun c_151 => ?_)
                      · skip
                        refine lv_lload hx hb dX6_laysDays_158 (lv_at hl 0 rfl) ?_
                        refine mk_ladd hx hb dX6_laysDays_160 ?_
                        refine mk_last hx hb hK hW 12 (by decide) (fun _ => rfl) 2 rfl (j := r) rfl (by omega) (by decide) dX6_laysDays_161 (fun H locs hW => ?_)
                        obtain ⟨st21, est21⟩ : ∃ z, z = stC st19 12 (fnU (st19 12) r (wsum (lvb (st 6) (st 1) (v : Int)) (st 2) (wB (st 5) (uni (st 3) (st 2) (fun i => st 8 (4 * v + i)) (fun i => st 9 (4 * v + i)) mm)) k (dd : Int) + x)) := ⟨_, rfl⟩
                        rw [← est21] at hW
                        refine lv_aload_n hx hb dX6_laysDays_162 rfl (lv_at hl 2 rfl) ?_
                        refine mk_get (ci := 6) (C := RX6) (T := TX6) (N := 30) hx hb hts inX6 hown hK hW 0 (by decide) rfl rfl 15 (by decide) fl52 (fun _ h9 => h9) rfl dX6_laysDays_163 ?_
                        refine lv_aload_n hx hb dX6_laysDays_166 rfl (lv_at hl 2 rfl) ?_
                        refine mk_get (ci := 6) (C := RX6) (T := TX6) (N := 30) hx hb hts inX6 hown hK hW 0 (by decide) rfl rfl 12 (by decide) fl124 (fun _ h9 => h9) rfl dX6_laysDays_167 ?_
                        refine mk_sayi (y := (q 0 12)) (by rw [show st21 0 = st19 0 from by rw [est21]; exact stC_ne (by decide), show st19 0 = st18 0 from by rw [est19]; exact stC_ne (by decide), show st18 0 = st17 0 from by rw [est18]; exact stC_ne (by decide), show st17 0 = st16 0 from by rw [est17]; exact stC_ne (by decide), show st16 0 = st15 0 from by rw [est16]; exact stC_ne (by decide), show st15 0 = q2 0 from by rw [est15]; exact stC_ne (by decide), hf2 0 (by decide)]) ?_
                        refine mk_sayi (y := ((r : Nat) : Int)) hq12 ?_
                        refine lv_dup2_11 hx hb dX6_laysDays_170 rfl rfl ?_
                        refine mk_lald hx hb hK hW 13 (by decide) rfl 2 rfl (j := r) rfl (by omega) (by decide) dX6_laysDays_171 ?_
                        refine mk_sayl (y := wsum (lvb (st 6) (st 1) (v : Int)) (st 2) (wB (st 5) (st 4)) k (dd : Int)) (by rw [show st21 13 = st19 13 from by rw [est21]; exact stC_ne (by decide)]; exact hcur.2.2.2.2.1) ?_
                        refine lv_aload_n hx hb dX6_laysDays_172 rfl (lv_at hl 2 rfl) ?_
                        refine mk_get (ci := 6) (C := RX6) (T := TX6) (N := 30) hx hb hts inX6 hown hK hW 0 (by decide) rfl rfl 5 (by decide) fl22 (fun _ h9 => h9) rfl dX6_laysDays_173 ?_
                        refine lv_iload hx hb dX6_laysDays_176 (lv_at hl 5 rfl) ?_
                        refine mk_zald hx hb hK hW 5 (by decide) rfl 1 rfl (j := k) rfl (by omega) (by decide) dX6_laysDays_178 ?_
                        refine mk_sayi (y := (st 5 k)) (by rw [show st21 5 = st19 5 from by rw [est21]; exact stC_ne (by decide), show st19 5 = st18 5 from by rw [est19]; exact stC_ne (by decide), show st18 5 = st17 5 from by rw [est18]; exact stC_ne (by decide), show st17 5 = st16 5 from by rw [est17]; exact stC_ne (by decide), show st16 5 = st15 5 from by rw [est16]; exact stC_ne (by decide), show st15 5 = q2 5 from by rw [est15]; exact stC_ne (by decide), hf2 5 (by decide), hf 5 (by decide)]) ?_
                        refine mk_if_eq (tgt := 186) hx hb dX6_laysDays_179 (by decide) (by omega) (fun c_179 => ?_) (fun c_179 => ?_)
                        · skip
                          refine lv_aload_n hx hb dX6_laysDays_186 rfl (lv_at hl 2 rfl) ?_
                          refine mk_get (ci := 6) (C := RX6) (T := TX6) (N := 30) hx hb hts inX6 hown hK hW 0 (by decide) rfl rfl 4 (by decide) fl19 (fun _ h9 => h9) rfl dX6_laysDays_187 ?_
                          refine lv_iload hx hb dX6_laysDays_190 (lv_at hl 5 rfl) ?_
                          refine mk_iald hx hb hK hW 4 (by decide) rfl 0 rfl (j := k) rfl (by omega) (by decide) dX6_laysDays_192 ?_
                          refine mk_sayi (y := (st 4 k)) (by rw [show st21 4 = st19 4 from by rw [est21]; exact stC_ne (by decide), show st19 4 = st18 4 from by rw [est19]; exact stC_ne (by decide), show st18 4 = st17 4 from by rw [est18]; exact stC_ne (by decide), show st17 4 = st16 4 from by rw [est17]; exact stC_ne (by decide), show st16 4 = st15 4 from by rw [est16]; exact stC_ne (by decide), show st15 4 = q2 4 from by rw [est15]; exact stC_ne (by decide), hf2 4 (by decide), hf 4 (by decide)]) ?_
                          refine mk_i2l hx hb dX6_laysDays_193 (by omega) ?_
                          refine mk_ladd hx hb dX6_laysDays_194 ?_
                          refine mk_last hx hb hK hW 13 (by decide) (fun _ => rfl) 2 rfl (j := r) rfl (by omega) (by decide) dX6_laysDays_195 (fun H locs hW => ?_)
                          obtain ⟨st22, est22⟩ : ∃ z, z = stC st21 13 (fnU (st21 13) r (wsum (lvb (st 6) (st 1) (v : Int)) (st 2) (wB (st 5) (st 4)) k (dd : Int) + (st 4 k))) := ⟨_, rfl⟩
                          rw [← est22] at hW
                          refine lv_aload_n hx hb dX6_laysDays_196 rfl (lv_at hl 2 rfl) ?_
                          refine mk_get (ci := 6) (C := RX6) (T := TX6) (N := 30) hx hb hts inX6 hown hK hW 0 (by decide) rfl rfl 16 (by decide) fl55 (fun _ h9 => h9) rfl dX6_laysDays_197 ?_
                          refine lv_aload_n hx hb dX6_laysDays_200 rfl (lv_at hl 2 rfl) ?_
                          refine mk_get (ci := 6) (C := RX6) (T := TX6) (N := 30) hx hb hts inX6 hown hK hW 0 (by decide) rfl rfl 12 (by decide) fl124 (fun _ h9 => h9) rfl dX6_laysDays_201 ?_
                          refine mk_sayi (y := (q 0 12)) (by rw [show st22 0 = st21 0 from by rw [est22]; exact stC_ne (by decide), show st21 0 = st19 0 from by rw [est21]; exact stC_ne (by decide), show st19 0 = st18 0 from by rw [est19]; exact stC_ne (by decide), show st18 0 = st17 0 from by rw [est18]; exact stC_ne (by decide), show st17 0 = st16 0 from by rw [est17]; exact stC_ne (by decide), show st16 0 = st15 0 from by rw [est16]; exact stC_ne (by decide), show st15 0 = q2 0 from by rw [est15]; exact stC_ne (by decide), hf2 0 (by decide)]) ?_
                          refine mk_sayi (y := ((r : Nat) : Int)) hq12 ?_
                          refine lv_dup2_11 hx hb dX6_laysDays_204 rfl rfl ?_
                          refine mk_lald hx hb hK hW 14 (by decide) rfl 2 rfl (j := r) rfl (by omega) (by decide) dX6_laysDays_205 ?_
                          refine mk_sayl (y := wsum (lvb (st 6) (st 1) (v : Int)) (st 2) (wS (st 5) (uni (st 3) (st 2) (fun i => st 8 (4 * v + i)) (fun i => st 9 (4 * v + i)) mm)) k (dd : Int)) (by rw [show st22 14 = st21 14 from by rw [est22]; exact stC_ne (by decide), show st21 14 = st19 14 from by rw [est21]; exact stC_ne (by decide)]; exact hcur.2.2.2.2.2.1) ?_
                          refine lv_aload_n hx hb dX6_laysDays_206 rfl (lv_at hl 2 rfl) ?_
                          refine mk_get (ci := 6) (C := RX6) (T := TX6) (N := 30) hx hb hts inX6 hown hK hW 0 (by decide) rfl rfl 5 (by decide) fl22 (fun _ h9 => h9) rfl dX6_laysDays_207 ?_
                          refine lv_iload hx hb dX6_laysDays_210 (lv_at hl 5 rfl) ?_
                          refine mk_zald hx hb hK hW 5 (by decide) rfl 1 rfl (j := k) rfl (by omega) (by decide) dX6_laysDays_212 ?_
                          refine mk_sayi (y := (st 5 k)) (by rw [show st22 5 = st21 5 from by rw [est22]; exact stC_ne (by decide), show st21 5 = st19 5 from by rw [est21]; exact stC_ne (by decide), show st19 5 = st18 5 from by rw [est19]; exact stC_ne (by decide), show st18 5 = st17 5 from by rw [est18]; exact stC_ne (by decide), show st17 5 = st16 5 from by rw [est17]; exact stC_ne (by decide), show st16 5 = st15 5 from by rw [est16]; exact stC_ne (by decide), show st15 5 = q2 5 from by rw [est15]; exact stC_ne (by decide), hf2 5 (by decide), hf 5 (by decide)]) ?_
                          refine mk_if_eq (tgt := 221) hx hb dX6_laysDays_213 (by decide) (by omega) (fun c_213 => ?_) (fun c_213 => ?_)
                          · skip
                            refine mk_lconst hx hb (0) rfl dX6_laysDays_221 ?_
                            refine mk_ladd hx hb dX6_laysDays_222 ?_
                            refine mk_last hx hb hK hW 14 (by decide) (fun _ => rfl) 2 rfl (j := r) rfl (by omega) (by decide) dX6_laysDays_223 (fun H locs hW => ?_)
                            obtain ⟨st23, est23⟩ : ∃ z, z = stC st22 14 (fnU (st22 14) r (wsum (lvb (st 6) (st 1) (v : Int)) (st 2) (wS (st 5) (uni (st 3) (st 2) (fun i => st 8 (4 * v + i)) (fun i => st 9 (4 * v + i)) mm)) k (dd : Int) + 0)) := ⟨_, rfl⟩
                            rw [← est23] at hW
                            refine lv_aload_n hx hb dX6_laysDays_224 rfl (lv_at hl 2 rfl) ?_
                            refine mk_get (ci := 6) (C := RX6) (T := TX6) (N := 30) hx hb hts inX6 hown hK hW 0 (by decide) rfl rfl 17 (by decide) fl58 (fun _ h9 => h9) rfl dX6_laysDays_225 ?_
                            refine lv_aload_n hx hb dX6_laysDays_228 rfl (lv_at hl 2 rfl) ?_
                            refine mk_get (ci := 6) (C := RX6) (T := TX6) (N := 30) hx hb hts inX6 hown hK hW 0 (by decide) rfl rfl 12 (by decide) fl124 (fun _ h9 => h9) rfl dX6_laysDays_229 ?_
                            refine mk_sayi (y := (q 0 12)) (by rw [show st23 0 = st22 0 from by rw [est23]; exact stC_ne (by decide), show st22 0 = st21 0 from by rw [est22]; exact stC_ne (by decide), show st21 0 = st19 0 from by rw [est21]; exact stC_ne (by decide), show st19 0 = st18 0 from by rw [est19]; exact stC_ne (by decide), show st18 0 = st17 0 from by rw [est18]; exact stC_ne (by decide), show st17 0 = st16 0 from by rw [est17]; exact stC_ne (by decide), show st16 0 = st15 0 from by rw [est16]; exact stC_ne (by decide), show st15 0 = q2 0 from by rw [est15]; exact stC_ne (by decide), hf2 0 (by decide)]) ?_
                            refine mk_sayi (y := ((r : Nat) : Int)) hq12 ?_
                            refine lv_dup2_11 hx hb dX6_laysDays_232 rfl rfl ?_
                            refine mk_lald hx hb hK hW 15 (by decide) rfl 2 rfl (j := r) rfl (by omega) (by decide) dX6_laysDays_233 ?_
                            refine mk_sayl (y := wsum (lvb (st 6) (st 1) (v : Int)) (st 2) (wS (st 5) (st 4)) k (dd : Int)) (by rw [show st23 15 = st22 15 from by rw [est23]; exact stC_ne (by decide), show st22 15 = st21 15 from by rw [est22]; exact stC_ne (by decide), show st21 15 = st19 15 from by rw [est21]; exact stC_ne (by decide)]; exact hcur.2.2.2.2.2.2) ?_
                            refine lv_aload_n hx hb dX6_laysDays_234 rfl (lv_at hl 2 rfl) ?_
                            refine mk_get (ci := 6) (C := RX6) (T := TX6) (N := 30) hx hb hts inX6 hown hK hW 0 (by decide) rfl rfl 5 (by decide) fl22 (fun _ h9 => h9) rfl dX6_laysDays_235 ?_
                            refine lv_iload hx hb dX6_laysDays_238 (lv_at hl 5 rfl) ?_
                            refine mk_zald hx hb hK hW 5 (by decide) rfl 1 rfl (j := k) rfl (by omega) (by decide) dX6_laysDays_240 ?_
                            refine mk_sayi (y := (st 5 k)) (by rw [show st23 5 = st22 5 from by rw [est23]; exact stC_ne (by decide), show st22 5 = st21 5 from by rw [est22]; exact stC_ne (by decide), show st21 5 = st19 5 from by rw [est21]; exact stC_ne (by decide), show st19 5 = st18 5 from by rw [est19]; exact stC_ne (by decide), show st18 5 = st17 5 from by rw [est18]; exact stC_ne (by decide), show st17 5 = st16 5 from by rw [est17]; exact stC_ne (by decide), show st16 5 = st15 5 from by rw [est16]; exact stC_ne (by decide), show st15 5 = q2 5 from by rw [est15]; exact stC_ne (by decide), hf2 5 (by decide), hf 5 (by decide)]) ?_
                            refine mk_if_eq (tgt := 255) hx hb dX6_laysDays_241 (by decide) (by omega) (fun c_241 => ?_) (fun c_241 => ?_)
                            · skip
                              refine mk_lconst hx hb (0) rfl dX6_laysDays_255 ?_
                              refine mk_ladd hx hb dX6_laysDays_256 ?_
                              refine mk_last hx hb hK hW 15 (by decide) (fun _ => rfl) 2 rfl (j := r) rfl (by omega) (by decide) dX6_laysDays_257 (fun H locs hW => ?_)
                              obtain ⟨st24, est24⟩ : ∃ z, z = stC st23 15 (fnU (st23 15) r (wsum (lvb (st 6) (st 1) (v : Int)) (st 2) (wS (st 5) (st 4)) k (dd : Int) + 0)) := ⟨_, rfl⟩
                              rw [← est24] at hW
                              refine mk_iinc (w := ((k + 1 : Nat) : Int)) (lv' := [(4, .int (iI ((k + 1 : Nat) : Int))), (5, .long (lI x)), (3, .int (iI 1)), (0, .ref (ad 0)), (1, .int (iI ((v : Nat) : Int))), (2, .int (iI ((dd : Nat) : Int)))]) hx hb dX6_laysDays_258 hl (k := 5) rfl (by omega) (by decide) rfl (fun ls hl => ?_)
                              refine lv_goto (tgt := 19) hx hb dX6_laysDays_261 (by decide) ?_
                              have y12 : st24 12 = fnU (st19 12) r (wsum (lvb (st 6) (st 1) (v : Int)) (st 2) (wB (st 5) (uni (st 3) (st 2) (fun i => st 8 (4 * v + i)) (fun i => st 9 (4 * v + i)) mm)) k (dd : Int) + x) := by rw [est24, est23, est22, est21]; rfl
                              have y13 : st24 13 = fnU (st19 13) r (wsum (lvb (st 6) (st 1) (v : Int)) (st 2) (wB (st 5) (st 4)) k (dd : Int) + (st 4 k)) := by rw [est24, est23, est22, est21]; rfl
                              have y14 : st24 14 = fnU (st19 14) r (wsum (lvb (st 6) (st 1) (v : Int)) (st 2) (wS (st 5) (uni (st 3) (st 2) (fun i => st 8 (4 * v + i)) (fun i => st 9 (4 * v + i)) mm)) k (dd : Int) + 0) := by rw [est24, est23, est22, est21]; rfl
                              have y15 : st24 15 = fnU (st19 15) r (wsum (lvb (st 6) (st 1) (v : Int)) (st 2) (wS (st 5) (st 4)) k (dd : Int) + 0) := by rw [est24, est23, est22, est21]; rfl
                              have y11 : st24 11 = st19 11 := by rw [est24, est23, est22, est21]; rfl
                              have hcur2 : r < R ∧ fD r = dd ∧ st24 11 r = dd ∧ st24 12 r = wsum (lvb (st 6) (st 1) (v : Int)) (st 2) (wB (st 5) (uni (st 3) (st 2) (fun i => st 8 (4 * v + i)) (fun i => st 9 (4 * v + i)) mm)) (k + 1) (dd : Int) ∧ st24 13 r = wsum (lvb (st 6) (st 1) (v : Int)) (st 2) (wB (st 5) (st 4)) (k + 1) (dd : Int) ∧ st24 14 r = wsum (lvb (st 6) (st 1) (v : Int)) (st 2) (wS (st 5) (uni (st 3) (st 2) (fun i => st 8 (4 * v + i)) (fun i => st 9 (4 * v + i)) mm)) (k + 1) (dd : Int) ∧ st24 15 r = wsum (lvb (st 6) (st 1) (v : Int)) (st 2) (wS (st 5) (st 4)) (k + 1) (dd : Int) := by
                                rw [y11, y12, y13, y14, y15, fnU_eq, fnU_eq, fnU_eq, fnU_eq, wsum_live hLk (by omega), wsum_live hLk (by omega), wsum_live hLk (by omega), wsum_live hLk (by omega)]
                                unfold wB wS
                                rw [if_pos c_151, if_pos c_151, if_pos c_151, if_pos c_151, hx9]
                                exact ⟨hrR.1, hrR.2, hcur.2.2.1, rfl, rfl, rfl, rfl⟩
                              have hrow2 : ∀ i, i < r → st24 11 i = fD i ∧ st24 12 i = (qB (lvb (st 6) (st 1) (v : Int)) (st 5) (st 2) (uni (st 3) (st 2) (fun i => st 8 (4 * v + i)) (fun i => st 9 (4 * v + i)) mm) n fD) i ∧ st24 13 i = (qB (lvb (st 6) (st 1) (v : Int)) (st 5) (st 2) (st 4) n fD) i ∧ st24 14 i = (qS (lvb (st 6) (st 1) (v : Int)) (st 5) (st 2) (uni (st 3) (st 2) (fun i => st 8 (4 * v + i)) (fun i => st 9 (4 * v + i)) mm) n fD) i ∧ st24 15 i = (qS (lvb (st 6) (st 1) (v : Int)) (st 5) (st 2) (st 4) n fD) i := by
                                intro i hi
                                rw [y11, y12, y13, y14, y15, fnU_ne (by omega), fnU_ne (by omega), fnU_ne (by omega), fnU_ne (by omega)]
                                exact hrow i hi
                              have hfY : Fr [11, 12, 13, 14, 15] q st24 := by rw [est24, est23, est22, est21]; exact (((hfx0.st (by decide)).st (by decide)).st (by decide)).st (by decide)
                              exact ih19 st24 (k + 1) 1 (by omega) hfY (Or.inr rfl) hrow2 ⟨fun h => absurd h (by decide), fun _ => hcur2⟩ (by omega) _ _ _ hW (lv_sub hl [3, 4, 5, 2, 0] rfl)
                            · skip
                              exact absurd c_151 c_241
                          · skip
                            exact absurd c_151 c_213
                        · skip
                          exact absurd c_151 c_179
                      · skip
                        refine mk_lconst hx hb (0) rfl dX6_laysDays_154 ?_
                        refine lv_goto (tgt := 160) hx hb dX6_laysDays_155 (by decide) ?_
                        refine mk_ladd hx hb dX6_laysDays_160 ?_
                        refine mk_last hx hb hK hW 12 (by decide) (fun _ => rfl) 2 rfl (j := r) rfl (by omega) (by decide) dX6_laysDays_161 (fun H locs hW => ?_)
                        obtain ⟨st25, est25⟩ : ∃ z, z = stC st19 12 (fnU (st19 12) r (wsum (lvb (st 6) (st 1) (v : Int)) (st 2) (wB (st 5) (uni (st 3) (st 2) (fun i => st 8 (4 * v + i)) (fun i => st 9 (4 * v + i)) mm)) k (dd : Int) + 0)) := ⟨_, rfl⟩
                        rw [← est25] at hW
                        refine lv_aload_n hx hb dX6_laysDays_162 rfl (lv_at hl 2 rfl) ?_
                        refine mk_get (ci := 6) (C := RX6) (T := TX6) (N := 30) hx hb hts inX6 hown hK hW 0 (by decide) rfl rfl 15 (by decide) fl52 (fun _ h9 => h9) rfl dX6_laysDays_163 ?_
                        refine lv_aload_n hx hb dX6_laysDays_166 rfl (lv_at hl 2 rfl) ?_
                        refine mk_get (ci := 6) (C := RX6) (T := TX6) (N := 30) hx hb hts inX6 hown hK hW 0 (by decide) rfl rfl 12 (by decide) fl124 (fun _ h9 => h9) rfl dX6_laysDays_167 ?_
                        refine mk_sayi (y := (q 0 12)) (by rw [show st25 0 = st19 0 from by rw [est25]; exact stC_ne (by decide), show st19 0 = st18 0 from by rw [est19]; exact stC_ne (by decide), show st18 0 = st17 0 from by rw [est18]; exact stC_ne (by decide), show st17 0 = st16 0 from by rw [est17]; exact stC_ne (by decide), show st16 0 = st15 0 from by rw [est16]; exact stC_ne (by decide), show st15 0 = q2 0 from by rw [est15]; exact stC_ne (by decide), hf2 0 (by decide)]) ?_
                        refine mk_sayi (y := ((r : Nat) : Int)) hq12 ?_
                        refine lv_dup2_11 hx hb dX6_laysDays_170 rfl rfl ?_
                        refine mk_lald hx hb hK hW 13 (by decide) rfl 2 rfl (j := r) rfl (by omega) (by decide) dX6_laysDays_171 ?_
                        refine mk_sayl (y := wsum (lvb (st 6) (st 1) (v : Int)) (st 2) (wB (st 5) (st 4)) k (dd : Int)) (by rw [show st25 13 = st19 13 from by rw [est25]; exact stC_ne (by decide)]; exact hcur.2.2.2.2.1) ?_
                        refine lv_aload_n hx hb dX6_laysDays_172 rfl (lv_at hl 2 rfl) ?_
                        refine mk_get (ci := 6) (C := RX6) (T := TX6) (N := 30) hx hb hts inX6 hown hK hW 0 (by decide) rfl rfl 5 (by decide) fl22 (fun _ h9 => h9) rfl dX6_laysDays_173 ?_
                        refine lv_iload hx hb dX6_laysDays_176 (lv_at hl 5 rfl) ?_
                        refine mk_zald hx hb hK hW 5 (by decide) rfl 1 rfl (j := k) rfl (by omega) (by decide) dX6_laysDays_178 ?_
                        refine mk_sayi (y := (st 5 k)) (by rw [show st25 5 = st19 5 from by rw [est25]; exact stC_ne (by decide), show st19 5 = st18 5 from by rw [est19]; exact stC_ne (by decide), show st18 5 = st17 5 from by rw [est18]; exact stC_ne (by decide), show st17 5 = st16 5 from by rw [est17]; exact stC_ne (by decide), show st16 5 = st15 5 from by rw [est16]; exact stC_ne (by decide), show st15 5 = q2 5 from by rw [est15]; exact stC_ne (by decide), hf2 5 (by decide), hf 5 (by decide)]) ?_
                        refine mk_if_eq (tgt := 186) hx hb dX6_laysDays_179 (by decide) (by omega) (fun c_179 => ?_) (fun c_179 => ?_)
                        · skip
                          exact absurd c_179 c_151
                        · skip
                          refine mk_lconst hx hb (0) rfl dX6_laysDays_182 ?_
                          refine lv_goto (tgt := 194) hx hb dX6_laysDays_183 (by decide) ?_
                          refine mk_ladd hx hb dX6_laysDays_194 ?_
                          refine mk_last hx hb hK hW 13 (by decide) (fun _ => rfl) 2 rfl (j := r) rfl (by omega) (by decide) dX6_laysDays_195 (fun H locs hW => ?_)
                          obtain ⟨st26, est26⟩ : ∃ z, z = stC st25 13 (fnU (st25 13) r (wsum (lvb (st 6) (st 1) (v : Int)) (st 2) (wB (st 5) (st 4)) k (dd : Int) + 0)) := ⟨_, rfl⟩
                          rw [← est26] at hW
                          refine lv_aload_n hx hb dX6_laysDays_196 rfl (lv_at hl 2 rfl) ?_
                          refine mk_get (ci := 6) (C := RX6) (T := TX6) (N := 30) hx hb hts inX6 hown hK hW 0 (by decide) rfl rfl 16 (by decide) fl55 (fun _ h9 => h9) rfl dX6_laysDays_197 ?_
                          refine lv_aload_n hx hb dX6_laysDays_200 rfl (lv_at hl 2 rfl) ?_
                          refine mk_get (ci := 6) (C := RX6) (T := TX6) (N := 30) hx hb hts inX6 hown hK hW 0 (by decide) rfl rfl 12 (by decide) fl124 (fun _ h9 => h9) rfl dX6_laysDays_201 ?_
                          refine mk_sayi (y := (q 0 12)) (by rw [show st26 0 = st25 0 from by rw [est26]; exact stC_ne (by decide), show st25 0 = st19 0 from by rw [est25]; exact stC_ne (by decide), show st19 0 = st18 0 from by rw [est19]; exact stC_ne (by decide), show st18 0 = st17 0 from by rw [est18]; exact stC_ne (by decide), show st17 0 = st16 0 from by rw [est17]; exact stC_ne (by decide), show st16 0 = st15 0 from by rw [est16]; exact stC_ne (by decide), show st15 0 = q2 0 from by rw [est15]; exact stC_ne (by decide), hf2 0 (by decide)]) ?_
                          refine mk_sayi (y := ((r : Nat) : Int)) hq12 ?_
                          refine lv_dup2_11 hx hb dX6_laysDays_204 rfl rfl ?_
                          refine mk_lald hx hb hK hW 14 (by decide) rfl 2 rfl (j := r) rfl (by omega) (by decide) dX6_laysDays_205 ?_
                          refine mk_sayl (y := wsum (lvb (st 6) (st 1) (v : Int)) (st 2) (wS (st 5) (uni (st 3) (st 2) (fun i => st 8 (4 * v + i)) (fun i => st 9 (4 * v + i)) mm)) k (dd : Int)) (by rw [show st26 14 = st25 14 from by rw [est26]; exact stC_ne (by decide), show st25 14 = st19 14 from by rw [est25]; exact stC_ne (by decide)]; exact hcur.2.2.2.2.2.1) ?_
                          refine lv_aload_n hx hb dX6_laysDays_206 rfl (lv_at hl 2 rfl) ?_
                          refine mk_get (ci := 6) (C := RX6) (T := TX6) (N := 30) hx hb hts inX6 hown hK hW 0 (by decide) rfl rfl 5 (by decide) fl22 (fun _ h9 => h9) rfl dX6_laysDays_207 ?_
                          refine lv_iload hx hb dX6_laysDays_210 (lv_at hl 5 rfl) ?_
                          refine mk_zald hx hb hK hW 5 (by decide) rfl 1 rfl (j := k) rfl (by omega) (by decide) dX6_laysDays_212 ?_
                          refine mk_sayi (y := (st 5 k)) (by rw [show st26 5 = st25 5 from by rw [est26]; exact stC_ne (by decide), show st25 5 = st19 5 from by rw [est25]; exact stC_ne (by decide), show st19 5 = st18 5 from by rw [est19]; exact stC_ne (by decide), show st18 5 = st17 5 from by rw [est18]; exact stC_ne (by decide), show st17 5 = st16 5 from by rw [est17]; exact stC_ne (by decide), show st16 5 = st15 5 from by rw [est16]; exact stC_ne (by decide), show st15 5 = q2 5 from by rw [est15]; exact stC_ne (by decide), hf2 5 (by decide), hf 5 (by decide)]) ?_
                          refine mk_if_eq (tgt := 221) hx hb dX6_laysDays_213 (by decide) (by omega) (fun c_213 => ?_) (fun c_213 => ?_)
                          · skip
                            exact absurd c_213 c_151
                          · skip
                            refine lv_lload hx hb dX6_laysDays_216 (lv_at hl 0 rfl) ?_
                            refine lv_goto (tgt := 222) hx hb dX6_laysDays_218 (by decide) ?_
                            refine mk_ladd hx hb dX6_laysDays_222 ?_
                            refine mk_last hx hb hK hW 14 (by decide) (fun _ => rfl) 2 rfl (j := r) rfl (by omega) (by decide) dX6_laysDays_223 (fun H locs hW => ?_)
                            obtain ⟨st27, est27⟩ : ∃ z, z = stC st26 14 (fnU (st26 14) r (wsum (lvb (st 6) (st 1) (v : Int)) (st 2) (wS (st 5) (uni (st 3) (st 2) (fun i => st 8 (4 * v + i)) (fun i => st 9 (4 * v + i)) mm)) k (dd : Int) + x)) := ⟨_, rfl⟩
                            rw [← est27] at hW
                            refine lv_aload_n hx hb dX6_laysDays_224 rfl (lv_at hl 2 rfl) ?_
                            refine mk_get (ci := 6) (C := RX6) (T := TX6) (N := 30) hx hb hts inX6 hown hK hW 0 (by decide) rfl rfl 17 (by decide) fl58 (fun _ h9 => h9) rfl dX6_laysDays_225 ?_
                            refine lv_aload_n hx hb dX6_laysDays_228 rfl (lv_at hl 2 rfl) ?_
                            refine mk_get (ci := 6) (C := RX6) (T := TX6) (N := 30) hx hb hts inX6 hown hK hW 0 (by decide) rfl rfl 12 (by decide) fl124 (fun _ h9 => h9) rfl dX6_laysDays_229 ?_
                            refine mk_sayi (y := (q 0 12)) (by rw [show st27 0 = st26 0 from by rw [est27]; exact stC_ne (by decide), show st26 0 = st25 0 from by rw [est26]; exact stC_ne (by decide), show st25 0 = st19 0 from by rw [est25]; exact stC_ne (by decide), show st19 0 = st18 0 from by rw [est19]; exact stC_ne (by decide), show st18 0 = st17 0 from by rw [est18]; exact stC_ne (by decide), show st17 0 = st16 0 from by rw [est17]; exact stC_ne (by decide), show st16 0 = st15 0 from by rw [est16]; exact stC_ne (by decide), show st15 0 = q2 0 from by rw [est15]; exact stC_ne (by decide), hf2 0 (by decide)]) ?_
                            refine mk_sayi (y := ((r : Nat) : Int)) hq12 ?_
                            refine lv_dup2_11 hx hb dX6_laysDays_232 rfl rfl ?_
                            refine mk_lald hx hb hK hW 15 (by decide) rfl 2 rfl (j := r) rfl (by omega) (by decide) dX6_laysDays_233 ?_
                            refine mk_sayl (y := wsum (lvb (st 6) (st 1) (v : Int)) (st 2) (wS (st 5) (st 4)) k (dd : Int)) (by rw [show st27 15 = st26 15 from by rw [est27]; exact stC_ne (by decide), show st26 15 = st25 15 from by rw [est26]; exact stC_ne (by decide), show st25 15 = st19 15 from by rw [est25]; exact stC_ne (by decide)]; exact hcur.2.2.2.2.2.2) ?_
                            refine lv_aload_n hx hb dX6_laysDays_234 rfl (lv_at hl 2 rfl) ?_
                            refine mk_get (ci := 6) (C := RX6) (T := TX6) (N := 30) hx hb hts inX6 hown hK hW 0 (by decide) rfl rfl 5 (by decide) fl22 (fun _ h9 => h9) rfl dX6_laysDays_235 ?_
                            refine lv_iload hx hb dX6_laysDays_238 (lv_at hl 5 rfl) ?_
                            refine mk_zald hx hb hK hW 5 (by decide) rfl 1 rfl (j := k) rfl (by omega) (by decide) dX6_laysDays_240 ?_
                            refine mk_sayi (y := (st 5 k)) (by rw [show st27 5 = st26 5 from by rw [est27]; exact stC_ne (by decide), show st26 5 = st25 5 from by rw [est26]; exact stC_ne (by decide), show st25 5 = st19 5 from by rw [est25]; exact stC_ne (by decide), show st19 5 = st18 5 from by rw [est19]; exact stC_ne (by decide), show st18 5 = st17 5 from by rw [est18]; exact stC_ne (by decide), show st17 5 = st16 5 from by rw [est17]; exact stC_ne (by decide), show st16 5 = st15 5 from by rw [est16]; exact stC_ne (by decide), show st15 5 = q2 5 from by rw [est15]; exact stC_ne (by decide), hf2 5 (by decide), hf 5 (by decide)]) ?_
                            refine mk_if_eq (tgt := 255) hx hb dX6_laysDays_241 (by decide) (by omega) (fun c_241 => ?_) (fun c_241 => ?_)
                            · skip
                              exact absurd c_241 c_151
                            · skip
                              refine lv_aload_n hx hb dX6_laysDays_244 rfl (lv_at hl 2 rfl) ?_
                              refine mk_get (ci := 6) (C := RX6) (T := TX6) (N := 30) hx hb hts inX6 hown hK hW 0 (by decide) rfl rfl 4 (by decide) fl19 (fun _ h9 => h9) rfl dX6_laysDays_245 ?_
                              refine lv_iload hx hb dX6_laysDays_248 (lv_at hl 5 rfl) ?_
                              refine mk_iald hx hb hK hW 4 (by decide) rfl 0 rfl (j := k) rfl (by omega) (by decide) dX6_laysDays_250 ?_
                              refine mk_sayi (y := (st 4 k)) (by rw [show st27 4 = st26 4 from by rw [est27]; exact stC_ne (by decide), show st26 4 = st25 4 from by rw [est26]; exact stC_ne (by decide), show st25 4 = st19 4 from by rw [est25]; exact stC_ne (by decide), show st19 4 = st18 4 from by rw [est19]; exact stC_ne (by decide), show st18 4 = st17 4 from by rw [est18]; exact stC_ne (by decide), show st17 4 = st16 4 from by rw [est17]; exact stC_ne (by decide), show st16 4 = st15 4 from by rw [est16]; exact stC_ne (by decide), show st15 4 = q2 4 from by rw [est15]; exact stC_ne (by decide), hf2 4 (by decide), hf 4 (by decide)]) ?_
                              refine mk_i2l hx hb dX6_laysDays_251 (by omega) ?_
                              refine lv_goto (tgt := 256) hx hb dX6_laysDays_252 (by decide) ?_
                              refine mk_ladd hx hb dX6_laysDays_256 ?_
                              refine mk_last hx hb hK hW 15 (by decide) (fun _ => rfl) 2 rfl (j := r) rfl (by omega) (by decide) dX6_laysDays_257 (fun H locs hW => ?_)
                              obtain ⟨st28, est28⟩ : ∃ z, z = stC st27 15 (fnU (st27 15) r (wsum (lvb (st 6) (st 1) (v : Int)) (st 2) (wS (st 5) (st 4)) k (dd : Int) + (st 4 k))) := ⟨_, rfl⟩
                              rw [← est28] at hW
                              refine mk_iinc (w := ((k + 1 : Nat) : Int)) (lv' := [(4, .int (iI ((k + 1 : Nat) : Int))), (5, .long (lI x)), (3, .int (iI 1)), (0, .ref (ad 0)), (1, .int (iI ((v : Nat) : Int))), (2, .int (iI ((dd : Nat) : Int)))]) hx hb dX6_laysDays_258 hl (k := 5) rfl (by omega) (by decide) rfl (fun ls hl => ?_)
                              refine lv_goto (tgt := 19) hx hb dX6_laysDays_261 (by decide) ?_
                              have y12 : st28 12 = fnU (st19 12) r (wsum (lvb (st 6) (st 1) (v : Int)) (st 2) (wB (st 5) (uni (st 3) (st 2) (fun i => st 8 (4 * v + i)) (fun i => st 9 (4 * v + i)) mm)) k (dd : Int) + 0) := by rw [est28, est27, est26, est25]; rfl
                              have y13 : st28 13 = fnU (st19 13) r (wsum (lvb (st 6) (st 1) (v : Int)) (st 2) (wB (st 5) (st 4)) k (dd : Int) + 0) := by rw [est28, est27, est26, est25]; rfl
                              have y14 : st28 14 = fnU (st19 14) r (wsum (lvb (st 6) (st 1) (v : Int)) (st 2) (wS (st 5) (uni (st 3) (st 2) (fun i => st 8 (4 * v + i)) (fun i => st 9 (4 * v + i)) mm)) k (dd : Int) + x) := by rw [est28, est27, est26, est25]; rfl
                              have y15 : st28 15 = fnU (st19 15) r (wsum (lvb (st 6) (st 1) (v : Int)) (st 2) (wS (st 5) (st 4)) k (dd : Int) + (st 4 k)) := by rw [est28, est27, est26, est25]; rfl
                              have y11 : st28 11 = st19 11 := by rw [est28, est27, est26, est25]; rfl
                              have hcur2 : r < R ∧ fD r = dd ∧ st28 11 r = dd ∧ st28 12 r = wsum (lvb (st 6) (st 1) (v : Int)) (st 2) (wB (st 5) (uni (st 3) (st 2) (fun i => st 8 (4 * v + i)) (fun i => st 9 (4 * v + i)) mm)) (k + 1) (dd : Int) ∧ st28 13 r = wsum (lvb (st 6) (st 1) (v : Int)) (st 2) (wB (st 5) (st 4)) (k + 1) (dd : Int) ∧ st28 14 r = wsum (lvb (st 6) (st 1) (v : Int)) (st 2) (wS (st 5) (uni (st 3) (st 2) (fun i => st 8 (4 * v + i)) (fun i => st 9 (4 * v + i)) mm)) (k + 1) (dd : Int) ∧ st28 15 r = wsum (lvb (st 6) (st 1) (v : Int)) (st 2) (wS (st 5) (st 4)) (k + 1) (dd : Int) := by
                                rw [y11, y12, y13, y14, y15, fnU_eq, fnU_eq, fnU_eq, fnU_eq, wsum_live hLk (by omega), wsum_live hLk (by omega), wsum_live hLk (by omega), wsum_live hLk (by omega)]
                                unfold wB wS
                                rw [if_neg c_151, if_neg c_151, if_neg c_151, if_neg c_151, hx9]
                                exact ⟨hrR.1, hrR.2, hcur.2.2.1, rfl, rfl, rfl, rfl⟩
                              have hrow2 : ∀ i, i < r → st28 11 i = fD i ∧ st28 12 i = (qB (lvb (st 6) (st 1) (v : Int)) (st 5) (st 2) (uni (st 3) (st 2) (fun i => st 8 (4 * v + i)) (fun i => st 9 (4 * v + i)) mm) n fD) i ∧ st28 13 i = (qB (lvb (st 6) (st 1) (v : Int)) (st 5) (st 2) (st 4) n fD) i ∧ st28 14 i = (qS (lvb (st 6) (st 1) (v : Int)) (st 5) (st 2) (uni (st 3) (st 2) (fun i => st 8 (4 * v + i)) (fun i => st 9 (4 * v + i)) mm) n fD) i ∧ st28 15 i = (qS (lvb (st 6) (st 1) (v : Int)) (st 5) (st 2) (st 4) n fD) i := by
                                intro i hi
                                rw [y11, y12, y13, y14, y15, fnU_ne (by omega), fnU_ne (by omega), fnU_ne (by omega), fnU_ne (by omega)]
                                exact hrow i hi
                              have hfY : Fr [11, 12, 13, 14, 15] q st28 := by rw [est28, est27, est26, est25]; exact (((hfx0.st (by decide)).st (by decide)).st (by decide)).st (by decide)
                              exact ih19 st28 (k + 1) 1 (by omega) hfY (Or.inr rfl) hrow2 ⟨fun h => absurd h (by decide), fun _ => hcur2⟩ (by omega) _ _ _ hW (lv_sub hl [3, 4, 5, 2, 0] rfl)
        exact loop19 _ q 0 0 (Nat.zero_le _) Fr.rf (Or.inl rfl) hrw0 ⟨fun _ i hi => absurd hi (by omega), fun h => absurd h (by decide)⟩ (Nat.lt_succ_self _) _ _ _ hW (lv_sub hl [2, 3, 4, 1, 0] rfl)
  exact loop7 _ st1 0 0 (by omega) (by rw [est1]; exact Fr.rf.st (by decide)) (by rw [est1]; exact ⟨rfl, rfl, rfl, rfl⟩) (by rw [est1]; rfl) (Nat.zero_le _) (fun i hi => absurd hi (by omega)) (fun i _ hi => by obtain ⟨j, h4, h5, h6⟩ := hI.1 i hi; have := (hJ.2 j h4).2.2.2.1; omega) (fun i hi => absurd hi (by omega)) (Nat.lt_succ_self _) _ _ _ hW (lv_sub hl [1, 2, 0] rfl)

